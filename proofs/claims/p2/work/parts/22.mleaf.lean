theorem d_Mo_kindOf_0 : decode prog_15_method_5_code 0 = .ok (.aload_n 0, 1) := by decide +kernel
theorem k_6_161 : Cond.fieldLink "PageScribeModel" 7 "PageScribeModel" "kinds" "[I" ∈ gw := gw_of (tb_6 (List.mem_of_getElem? (i := 161) (by decide +kernel))) (by decide +kernel)
theorem d_Mo_kindOf_1 : decode prog_15_method_5_code 1 = .ok (.getfield 7, 3) := by decide +kernel
theorem d_Mo_kindOf_4 : decode prog_15_method_5_code 4 = .ok (.iload_n 1, 1) := by decide +kernel
theorem d_Mo_kindOf_5 : decode prog_15_method_5_code 5 = .ok (.iaload, 1) := by decide +kernel
theorem d_Mo_kindOf_6 : decode prog_15_method_5_code 6 = .ok (.bipush 7, 2) := by decide +kernel
theorem d_Mo_kindOf_8 : decode prog_15_method_5_code 8 = .ok (.iand, 1) := by decide +kernel
theorem tI_7 : (7 : Int32).toInt = 7 := by decide +kernel
theorem d_Mo_kindOf_9 : decode prog_15_method_5_code 9 = .ok (.ireturn, 1) := by decide +kernel
set_option maxHeartbeats 4000000 in
set_option maxRecDepth 100000 in
theorem m_kindOf (l : Launch) (D : va_G) (T : Nat → ClassId) (h0 : Nat) (ar : Nat → Nat) (S : MS) (p0 : Int32) (sz : Nat) (h1 : 0 ≤ p0.toInt ∧ p0.toInt < 1300) (h2 : 0 ≤ ((a_kinds S) p0.toInt.toNat).toInt) : Met l ⟨"PageScribeModel", "kindOf", "(I)I"⟩ (wy ⟨"PageScribeModel", "kindOf", "(I)I"⟩ prog_15_method_5_code 2 (some .int)) ({ frames := 0, cells := 0, slots := 0, locals := 0 }) (va_Pc [.ref h0, .int p0] (Pw D T (mW T h0 ar S) sz E0)) (va_Qi (fun (r : Int32) (u : Unit) => r.toInt = ((a_kinds S) p0.toInt.toNat).toInt % 8) (fun u t => Bw D T (va_A (mW T h0 ar S) sz) (mW T h0 ar S) t) (va_A (mW T h0 ar S) sz)) 0 0 (va_A (mW T h0 ar S) sz) := by
  refine j_met (y := ⟨"PageScribeModel", "kindOf", "(I)I"⟩) (b := prog_15_method_5_code) (n := 2) (ret := (some .int)) (av := [.ref h0, .int p0]) (Qc := fun A => va_Qi (fun (r : Int32) (u : Unit) => r.toInt = ((a_kinds S) p0.toInt.toNat).toInt % 8) (fun u t => Bw D T A (mW T h0 ar S) t) A) (by decide +kernel) (Nat.le_of_ble_eq_true rfl) (fun p e s m args below meth c A ls F hr hlocks hnm hK hP hD hS hA hN hE hl => ?_)
  obtain ⟨hx, hb, hml, hown, hts⟩ := id F
  have hl : lv_has ls 2 [(0, .ref h0), (1, .int p0)] := hl
  refine lv_aload_n hx hb d_Mo_kindOf_0 rfl (lv_at hl 0 rfl) ?_
  refine va_get (D := D) (ci := 11) (v := .ref (ar 0)) (C := "PageScribeModel") (T := F_Mo) (N := 45) hx hb hts i_Mo hown hK hP 0 mW_0 cl_11 1 (by decide) (hts _ k_6_161) (fun _ h9 => h9) (mg_kinds _ _) d_Mo_kindOf_1 ?_
  refine lv_iload_n hx hb d_Mo_kindOf_4 rfl (lv_at hl 1 rfl) ?_
  refine va_iald hx hb hK hP 1 0 (ma_kinds _ _ _ _) rfl (zt_in (show p0.toInt = _ from rfl) (by omega) (by omega)) d_Mo_kindOf_5 ?_
  refine lv_topi (fun x1 ex1 => ?_)
  have gx1 : x1 = (a_kinds S) p0.toInt.toNat := ex1.trans (congrArg _ (zt_ix (show p0.toInt = _ from rfl)))
  have fx1 : x1.toInt = ((a_kinds S) p0.toInt.toNat).toInt := by rw [gx1]
  refine lv_bipush (v := 7) hx hb d_Mo_kindOf_6 (by decide) ?_
  refine lv_iand hx hb d_Mo_kindOf_8 ?_
  refine lv_topi (fun x2 ex2 => ?_)
  try have fx2 : x2.toInt = x1.toInt % 8 := by rw [ex2]; exact zt_mod (k := 3) (show x1.toInt = _ from rfl) tI_7 (by decide) (by decide) (by omega)
  exact j_iret F hr hlocks hK hS () (show x2.toInt = ((a_kinds S) p0.toInt.toNat).toInt % 8 by omega) hP hD d_Mo_kindOf_9
theorem d_Mo_first_0 : decode prog_15_method_6_code 0 = .ok (.lload_n 0, 1) := by decide +kernel
theorem d_Mo_first_1 : decode prog_15_method_6_code 1 = .ok (.ldc2_w 245, 3) := by decide +kernel
theorem k_8_23 : Cond.constantLong "PageScribeModel" 245 (1023 : Int64) ∈ gw := gw_of (tb_8 (List.mem_of_getElem? (i := 23) (by decide +kernel))) (by decide +kernel)
theorem d_Mo_first_4 : decode prog_15_method_6_code 4 = .ok (.land, 1) := by decide +kernel
theorem tJ_1023 : (1023 : Int64).toInt = 1023 := by decide +kernel
theorem d_Mo_first_5 : decode prog_15_method_6_code 5 = .ok (.l2i, 1) := by decide +kernel
theorem d_Mo_first_6 : decode prog_15_method_6_code 6 = .ok (.ireturn, 1) := by decide +kernel
set_option maxHeartbeats 4000000 in
set_option maxRecDepth 100000 in
theorem m_first (l : Launch) (D : va_G) (T : Nat → ClassId) (v0 : Int64) (sz : Nat) (h1 : 0 ≤ v0.toInt) : Met l ⟨"PageScribeModel", "first", "(J)I"⟩ (wy ⟨"PageScribeModel", "first", "(J)I"⟩ prog_15_method_6_code 2 (some .int)) ({ frames := 0, cells := 0, slots := 0, locals := 0 }) (va_Pc [.long v0] (Pw D T [] sz E0)) (va_Qi (fun (r : Int32) (u : Unit) => r.toInt = v0.toInt % 1024) (fun u t => Bw D T (va_A [] sz) [] t) (va_A [] sz)) 0 0 (va_A [] sz) := by
  refine j_met (y := ⟨"PageScribeModel", "first", "(J)I"⟩) (b := prog_15_method_6_code) (n := 2) (ret := (some .int)) (av := [.long v0]) (Qc := fun A => va_Qi (fun (r : Int32) (u : Unit) => r.toInt = v0.toInt % 1024) (fun u t => Bw D T A [] t) A) (by decide +kernel) (Nat.le_of_ble_eq_true rfl) (fun p e s m args below meth c A ls F hr hlocks hnm hK hP hD hS hA hN hE hl => ?_)
  obtain ⟨hx, hb, hml, hown, hts⟩ := id F
  have hl : lv_has ls 2 [(0, .long v0)] := hl
  refine lv_lload_n hx hb d_Mo_first_0 rfl (lv_at hl 0 rfl) ?_
  refine lv_ldc2 (v := (1023)) hx hb hown (hts _ k_8_23) d_Mo_first_1 ?_
  refine lv_land hx hb d_Mo_first_4 ?_
  refine lv_topl (fun x1 ex1 => ?_)
  try have fx1 : x1.toInt = v0.toInt % 1024 := by rw [ex1]; exact zu_mod (k := 10) (show v0.toInt = _ from rfl) tJ_1023 (by decide) (by decide) (by omega)
  refine lv_l2i (v := (x1).toInt32) hx hb d_Mo_first_5 rfl ?_
  refine lv_topi (fun x2 ex2 => ?_)
  have wx2 := zt_rng x2
  have fx2 : x2.toInt = x1.toInt := by rw [ex2]; exact zt_l2i (show x1.toInt = _ from rfl) (by omega) (by omega)
  exact j_iret F hr hlocks hK hS () (show x2.toInt = v0.toInt % 1024 by omega) hP hD d_Mo_first_6
theorem d_Mo_count_0 : decode prog_15_method_7_code 0 = .ok (.lload_n 0, 1) := by decide +kernel
theorem d_Mo_count_1 : decode prog_15_method_7_code 1 = .ok (.bipush 10, 2) := by decide +kernel
theorem d_Mo_count_3 : decode prog_15_method_7_code 3 = .ok (.lshr, 1) := by decide +kernel
theorem d_Mo_count_4 : decode prog_15_method_7_code 4 = .ok (.l2i, 1) := by decide +kernel
theorem d_Mo_count_5 : decode prog_15_method_7_code 5 = .ok (.ireturn, 1) := by decide +kernel
set_option maxHeartbeats 4000000 in
set_option maxRecDepth 100000 in
theorem m_count (l : Launch) (D : va_G) (T : Nat → ClassId) (v0 : Int64) (sz : Nat) (h1 : 0 ≤ v0.toInt ∧ v0.toInt < 1048576) : Met l ⟨"PageScribeModel", "count", "(J)I"⟩ (wy ⟨"PageScribeModel", "count", "(J)I"⟩ prog_15_method_7_code 2 (some .int)) ({ frames := 0, cells := 0, slots := 0, locals := 0 }) (va_Pc [.long v0] (Pw D T [] sz E0)) (va_Qi (fun (r : Int32) (u : Unit) => r.toInt = v0.toInt / 1024) (fun u t => Bw D T (va_A [] sz) [] t) (va_A [] sz)) 0 0 (va_A [] sz) := by
  refine j_met (y := ⟨"PageScribeModel", "count", "(J)I"⟩) (b := prog_15_method_7_code) (n := 2) (ret := (some .int)) (av := [.long v0]) (Qc := fun A => va_Qi (fun (r : Int32) (u : Unit) => r.toInt = v0.toInt / 1024) (fun u t => Bw D T A [] t) A) (by decide +kernel) (Nat.le_of_ble_eq_true rfl) (fun p e s m args below meth c A ls F hr hlocks hnm hK hP hD hS hA hN hE hl => ?_)
  obtain ⟨hx, hb, hml, hown, hts⟩ := id F
  have hl : lv_has ls 2 [(0, .long v0)] := hl
  refine lv_lload_n hx hb d_Mo_count_0 rfl (lv_at hl 0 rfl) ?_
  refine lv_bipush (v := 10) hx hb d_Mo_count_1 (by decide) ?_
  refine lv_lshr (v := (v0 >>> ((10 : Int32).toInt64 &&& 63))) hx hb d_Mo_count_3 rfl ?_
  refine lv_topl (fun x1 ex1 => ?_)
  try have fx1 : x1.toInt = v0.toInt / 1024 := by rw [ex1]; exact zu_shr (k := 10) (show v0.toInt = _ from rfl) (by decide +kernel) (by decide)
  refine lv_l2i (v := (x1).toInt32) hx hb d_Mo_count_4 rfl ?_
  refine lv_topi (fun x2 ex2 => ?_)
  have wx2 := zt_rng x2
  have fx2 : x2.toInt = x1.toInt := by rw [ex2]; exact zt_l2i (show x1.toInt = _ from rfl) (by omega) (by omega)
  exact j_iret F hr hlocks hK hS () (show x2.toInt = v0.toInt / 1024 by omega) hP hD d_Mo_count_5
theorem d_Mo_isProcedure_0 : decode prog_15_method_8_code 0 = .ok (.aload_n 0, 1) := by decide +kernel
theorem d_Mo_isProcedure_1 : decode prog_15_method_8_code 1 = .ok (.getfield 7, 3) := by decide +kernel
theorem d_Mo_isProcedure_4 : decode prog_15_method_8_code 4 = .ok (.iload_n 1, 1) := by decide +kernel
theorem d_Mo_isProcedure_5 : decode prog_15_method_8_code 5 = .ok (.iaload, 1) := by decide +kernel
theorem d_Mo_isProcedure_6 : decode prog_15_method_8_code 6 = .ok (.bipush 13, 2) := by decide +kernel
theorem d_Mo_isProcedure_8 : decode prog_15_method_8_code 8 = .ok (.if_icmp .ne 7, 3) := by decide +kernel
theorem tI_13 : (13 : Int32).toInt = 13 := by decide +kernel
theorem d_Mo_isProcedure_15 : decode prog_15_method_8_code 15 = .ok (.iconst 0, 1) := by decide +kernel
theorem d_Mo_isProcedure_16 : decode prog_15_method_8_code 16 = .ok (.ireturn, 1) := by decide +kernel
theorem tI_0 : (0 : Int32).toInt = 0 := by decide +kernel
theorem d_Mo_isProcedure_11 : decode prog_15_method_8_code 11 = .ok (.iconst 1, 1) := by decide +kernel
theorem d_Mo_isProcedure_12 : decode prog_15_method_8_code 12 = .ok (.goto 4, 3) := by decide +kernel
theorem tI_1 : (1 : Int32).toInt = 1 := by decide +kernel
set_option maxHeartbeats 4000000 in
set_option maxRecDepth 100000 in
theorem m_isProcedure (l : Launch) (D : va_G) (T : Nat → ClassId) (h0 : Nat) (ar : Nat → Nat) (S : MS) (p0 : Int32) (sz : Nat) (h1 : 0 ≤ p0.toInt ∧ p0.toInt < 1300) : Met l ⟨"PageScribeModel", "isProcedure", "(I)Z"⟩ (wy ⟨"PageScribeModel", "isProcedure", "(I)Z"⟩ prog_15_method_8_code 2 (some .boolean)) ({ frames := 0, cells := 0, slots := 0, locals := 0 }) (va_Pc [.ref h0, .int p0] (Pw D T (mW T h0 ar S) sz E0)) (va_Qi (fun (r : Int32) (u : Unit) => (r.toInt = 1 ∧ ((a_kinds S) p0.toInt.toNat).toInt = 13) ∨ (r.toInt = 0 ∧ ¬ ((a_kinds S) p0.toInt.toNat).toInt = 13)) (fun u t => Bw D T (va_A (mW T h0 ar S) sz) (mW T h0 ar S) t) (va_A (mW T h0 ar S) sz)) 0 0 (va_A (mW T h0 ar S) sz) := by
  refine j_met (y := ⟨"PageScribeModel", "isProcedure", "(I)Z"⟩) (b := prog_15_method_8_code) (n := 2) (ret := (some .boolean)) (av := [.ref h0, .int p0]) (Qc := fun A => va_Qi (fun (r : Int32) (u : Unit) => (r.toInt = 1 ∧ ((a_kinds S) p0.toInt.toNat).toInt = 13) ∨ (r.toInt = 0 ∧ ¬ ((a_kinds S) p0.toInt.toNat).toInt = 13)) (fun u t => Bw D T A (mW T h0 ar S) t) A) (by decide +kernel) (Nat.le_of_ble_eq_true rfl) (fun p e s m args below meth c A ls F hr hlocks hnm hK hP hD hS hA hN hE hl => ?_)
  obtain ⟨hx, hb, hml, hown, hts⟩ := id F
  have hl : lv_has ls 2 [(0, .ref h0), (1, .int p0)] := hl
  refine lv_aload_n hx hb d_Mo_isProcedure_0 rfl (lv_at hl 0 rfl) ?_
  refine va_get (D := D) (ci := 11) (v := .ref (ar 0)) (C := "PageScribeModel") (T := F_Mo) (N := 45) hx hb hts i_Mo hown hK hP 0 mW_0 cl_11 1 (by decide) (hts _ k_6_161) (fun _ h9 => h9) (mg_kinds _ _) d_Mo_isProcedure_1 ?_
  refine lv_iload_n hx hb d_Mo_isProcedure_4 rfl (lv_at hl 1 rfl) ?_
  refine va_iald hx hb hK hP 1 0 (ma_kinds _ _ _ _) rfl (zt_in (show p0.toInt = _ from rfl) (by omega) (by omega)) d_Mo_isProcedure_5 ?_
  refine lv_topi (fun x1 ex1 => ?_)
  have gx1 : x1 = (a_kinds S) p0.toInt.toNat := ex1.trans (congrArg _ (zt_ix (show p0.toInt = _ from rfl)))
  have fx1 : x1.toInt = ((a_kinds S) p0.toInt.toNat).toInt := by rw [gx1]
  refine lv_bipush (v := 13) hx hb d_Mo_isProcedure_6 (by decide) ?_
  refine lv_icmp_ne (tgt := 15) hx hb d_Mo_isProcedure_8 (by decide) (fun c8_1 => ?_) (fun c8_1 => ?_)
  · have fc8_1 : ¬ x1.toInt = 13 := zt_ne (show x1.toInt = _ from rfl) tI_13 c8_1
    refine lv_iconst (v := 0) hx hb d_Mo_isProcedure_15 (by decide) ?_
    exact j_zret F hr (by decide +kernel) hlocks hK hS () (show ((0 : Int32).toInt = 1 ∧ ((a_kinds S) p0.toInt.toNat).toInt = 13) ∨ ((0 : Int32).toInt = 0 ∧ ¬ ((a_kinds S) p0.toInt.toNat).toInt = 13) by have := tI_0; omega) hP hD d_Mo_isProcedure_16
  · have fc8_1 : x1.toInt = 13 := zt_eq (show x1.toInt = _ from rfl) tI_13 c8_1
    refine lv_iconst (v := 1) hx hb d_Mo_isProcedure_11 (by decide) ?_
    refine lv_goto (tgt := 16) hx hb d_Mo_isProcedure_12 (by decide) ?_
    exact j_zret F hr (by decide +kernel) hlocks hK hS () (show ((1 : Int32).toInt = 1 ∧ ((a_kinds S) p0.toInt.toNat).toInt = 13) ∨ ((1 : Int32).toInt = 0 ∧ ¬ ((a_kinds S) p0.toInt.toNat).toInt = 13) by have := tI_1; omega) hP hD d_Mo_isProcedure_16
theorem d_Mo_isNumber_0 : decode prog_15_method_9_code 0 = .ok (.aload_n 0, 1) := by decide +kernel
theorem d_Mo_isNumber_1 : decode prog_15_method_9_code 1 = .ok (.getfield 7, 3) := by decide +kernel
theorem d_Mo_isNumber_4 : decode prog_15_method_9_code 4 = .ok (.iload_n 1, 1) := by decide +kernel
theorem d_Mo_isNumber_5 : decode prog_15_method_9_code 5 = .ok (.iaload, 1) := by decide +kernel
theorem d_Mo_isNumber_6 : decode prog_15_method_9_code 6 = .ok (.iconst 2, 1) := by decide +kernel
theorem d_Mo_isNumber_7 : decode prog_15_method_9_code 7 = .ok (.if_icmp .ge 7, 3) := by decide +kernel
theorem tI_2 : (2 : Int32).toInt = 2 := by decide +kernel
theorem d_Mo_isNumber_14 : decode prog_15_method_9_code 14 = .ok (.iconst 0, 1) := by decide +kernel
theorem d_Mo_isNumber_15 : decode prog_15_method_9_code 15 = .ok (.ireturn, 1) := by decide +kernel
theorem d_Mo_isNumber_10 : decode prog_15_method_9_code 10 = .ok (.iconst 1, 1) := by decide +kernel
theorem d_Mo_isNumber_11 : decode prog_15_method_9_code 11 = .ok (.goto 4, 3) := by decide +kernel
set_option maxHeartbeats 4000000 in
set_option maxRecDepth 100000 in
theorem m_isNumber (l : Launch) (D : va_G) (T : Nat → ClassId) (h0 : Nat) (ar : Nat → Nat) (S : MS) (p0 : Int32) (sz : Nat) (h1 : 0 ≤ p0.toInt ∧ p0.toInt < 1300) : Met l ⟨"PageScribeModel", "isNumber", "(I)Z"⟩ (wy ⟨"PageScribeModel", "isNumber", "(I)Z"⟩ prog_15_method_9_code 2 (some .boolean)) ({ frames := 0, cells := 0, slots := 0, locals := 0 }) (va_Pc [.ref h0, .int p0] (Pw D T (mW T h0 ar S) sz E0)) (va_Qi (fun (r : Int32) (u : Unit) => (r.toInt = 1 ∧ ((a_kinds S) p0.toInt.toNat).toInt < 2) ∨ (r.toInt = 0 ∧ ¬ ((a_kinds S) p0.toInt.toNat).toInt < 2)) (fun u t => Bw D T (va_A (mW T h0 ar S) sz) (mW T h0 ar S) t) (va_A (mW T h0 ar S) sz)) 0 0 (va_A (mW T h0 ar S) sz) := by
  refine j_met (y := ⟨"PageScribeModel", "isNumber", "(I)Z"⟩) (b := prog_15_method_9_code) (n := 2) (ret := (some .boolean)) (av := [.ref h0, .int p0]) (Qc := fun A => va_Qi (fun (r : Int32) (u : Unit) => (r.toInt = 1 ∧ ((a_kinds S) p0.toInt.toNat).toInt < 2) ∨ (r.toInt = 0 ∧ ¬ ((a_kinds S) p0.toInt.toNat).toInt < 2)) (fun u t => Bw D T A (mW T h0 ar S) t) A) (by decide +kernel) (Nat.le_of_ble_eq_true rfl) (fun p e s m args below meth c A ls F hr hlocks hnm hK hP hD hS hA hN hE hl => ?_)
  obtain ⟨hx, hb, hml, hown, hts⟩ := id F
  have hl : lv_has ls 2 [(0, .ref h0), (1, .int p0)] := hl
  refine lv_aload_n hx hb d_Mo_isNumber_0 rfl (lv_at hl 0 rfl) ?_
  refine va_get (D := D) (ci := 11) (v := .ref (ar 0)) (C := "PageScribeModel") (T := F_Mo) (N := 45) hx hb hts i_Mo hown hK hP 0 mW_0 cl_11 1 (by decide) (hts _ k_6_161) (fun _ h9 => h9) (mg_kinds _ _) d_Mo_isNumber_1 ?_
  refine lv_iload_n hx hb d_Mo_isNumber_4 rfl (lv_at hl 1 rfl) ?_
  refine va_iald hx hb hK hP 1 0 (ma_kinds _ _ _ _) rfl (zt_in (show p0.toInt = _ from rfl) (by omega) (by omega)) d_Mo_isNumber_5 ?_
  refine lv_topi (fun x1 ex1 => ?_)
  have gx1 : x1 = (a_kinds S) p0.toInt.toNat := ex1.trans (congrArg _ (zt_ix (show p0.toInt = _ from rfl)))
  have fx1 : x1.toInt = ((a_kinds S) p0.toInt.toNat).toInt := by rw [gx1]
  refine lv_iconst (v := 2) hx hb d_Mo_isNumber_6 (by decide) ?_
  refine lv_icmp_ge (tgt := 14) hx hb d_Mo_isNumber_7 (by decide) (fun c7_1 => ?_) (fun c7_1 => ?_)
  · have fc7_1 : 2 ≤ x1.toInt := zt_le tI_2 (show x1.toInt = _ from rfl) c7_1
    refine lv_iconst (v := 0) hx hb d_Mo_isNumber_14 (by decide) ?_
    exact j_zret F hr (by decide +kernel) hlocks hK hS () (show ((0 : Int32).toInt = 1 ∧ ((a_kinds S) p0.toInt.toNat).toInt < 2) ∨ ((0 : Int32).toInt = 0 ∧ ¬ ((a_kinds S) p0.toInt.toNat).toInt < 2) by have := tI_0; omega) hP hD d_Mo_isNumber_15
  · have fc7_1 : x1.toInt < 2 := Int.not_le.mp (zt_nle tI_2 (show x1.toInt = _ from rfl) c7_1)
    refine lv_iconst (v := 1) hx hb d_Mo_isNumber_10 (by decide) ?_
    refine lv_goto (tgt := 15) hx hb d_Mo_isNumber_11 (by decide) ?_
    exact j_zret F hr (by decide +kernel) hlocks hK hS () (show ((1 : Int32).toInt = 1 ∧ ((a_kinds S) p0.toInt.toNat).toInt < 2) ∨ ((1 : Int32).toInt = 0 ∧ ¬ ((a_kinds S) p0.toInt.toNat).toInt < 2) by have := tI_1; omega) hP hD d_Mo_isNumber_15
theorem d_Mo_numberAt_0 : decode prog_15_method_10_code 0 = .ok (.aload_n 0, 1) := by decide +kernel
theorem d_Mo_numberAt_1 : decode prog_15_method_10_code 1 = .ok (.getfield 7, 3) := by decide +kernel
theorem d_Mo_numberAt_4 : decode prog_15_method_10_code 4 = .ok (.iload_n 1, 1) := by decide +kernel
theorem d_Mo_numberAt_5 : decode prog_15_method_10_code 5 = .ok (.iaload, 1) := by decide +kernel
theorem d_Mo_numberAt_6 : decode prog_15_method_10_code 6 = .ok (.ifCond .ne 13, 3) := by decide +kernel
theorem d_Mo_numberAt_19 : decode prog_15_method_10_code 19 = .ok (.aload_n 0, 1) := by decide +kernel
theorem k_6_163 : Cond.fieldLink "PageScribeModel" 17 "PageScribeModel" "reals" "[D" ∈ gw := gw_of (tb_6 (List.mem_of_getElem? (i := 163) (by decide +kernel))) (by decide +kernel)
theorem d_Mo_numberAt_20 : decode prog_15_method_10_code 20 = .ok (.getfield 17, 3) := by decide +kernel
theorem d_Mo_numberAt_23 : decode prog_15_method_10_code 23 = .ok (.iload_n 1, 1) := by decide +kernel
theorem d_Mo_numberAt_24 : decode prog_15_method_10_code 24 = .ok (.daload, 1) := by decide +kernel
theorem d_Mo_numberAt_25 : decode prog_15_method_10_code 25 = .ok (.dreturn, 1) := by decide +kernel
theorem d_Mo_numberAt_9 : decode prog_15_method_10_code 9 = .ok (.aload_n 0, 1) := by decide +kernel
theorem k_6_162 : Cond.fieldLink "PageScribeModel" 13 "PageScribeModel" "codes" "[J" ∈ gw := gw_of (tb_6 (List.mem_of_getElem? (i := 162) (by decide +kernel))) (by decide +kernel)
theorem d_Mo_numberAt_10 : decode prog_15_method_10_code 10 = .ok (.getfield 13, 3) := by decide +kernel
theorem d_Mo_numberAt_13 : decode prog_15_method_10_code 13 = .ok (.iload_n 1, 1) := by decide +kernel
theorem d_Mo_numberAt_14 : decode prog_15_method_10_code 14 = .ok (.laload, 1) := by decide +kernel
theorem d_Mo_numberAt_15 : decode prog_15_method_10_code 15 = .ok (.l2d, 1) := by decide +kernel
theorem d_Mo_numberAt_16 : decode prog_15_method_10_code 16 = .ok (.goto 9, 3) := by decide +kernel
set_option maxHeartbeats 4000000 in
set_option maxRecDepth 100000 in
theorem m_numberAt (l : Launch) (D : va_G) (T : Nat → ClassId) (h0 : Nat) (ar : Nat → Nat) (S : MS) (p0 : Int32) (sz : Nat) (hI : MI S) (h1 : 0 ≤ p0.toInt ∧ p0.toInt < 1300) : Met l ⟨"PageScribeModel", "numberAt", "(I)D"⟩ (wy ⟨"PageScribeModel", "numberAt", "(I)D"⟩ prog_15_method_10_code 2 (some .double)) ({ frames := 0, cells := 0, slots := 0, locals := 0 }) (va_Pc [.ref h0, .int p0] (Pw D T (mW T h0 ar S) sz E0)) (va_Qd (fun (r : UInt64) (u : Unit) => dB r) (fun u t => Bw D T (va_A (mW T h0 ar S) sz) (mW T h0 ar S) t) (va_A (mW T h0 ar S) sz)) 0 0 (va_A (mW T h0 ar S) sz) := by
  refine j_met (y := ⟨"PageScribeModel", "numberAt", "(I)D"⟩) (b := prog_15_method_10_code) (n := 2) (ret := (some .double)) (av := [.ref h0, .int p0]) (Qc := fun A => va_Qd (fun (r : UInt64) (u : Unit) => dB r) (fun u t => Bw D T A (mW T h0 ar S) t) A) (by decide +kernel) (Nat.le_of_ble_eq_true rfl) (fun p e s m args below meth c A ls F hr hlocks hnm hK hP hD hS hA hN hE hl => ?_)
  obtain ⟨hx, hb, hml, hown, hts⟩ := id F
  have hl : lv_has ls 2 [(0, .ref h0), (1, .int p0)] := hl
  obtain ⟨i_size, i_taken, i_vals, i_room, i_dicts, i_deep, i_open, i_cells, i_points, i_part, i_length, i_knows, i_page, i_text, i_pats, i_fuel, i_fr, i_ink⟩ := id hI
  refine lv_aload_n hx hb d_Mo_numberAt_0 rfl (lv_at hl 0 rfl) ?_
  refine va_get (D := D) (ci := 11) (v := .ref (ar 0)) (C := "PageScribeModel") (T := F_Mo) (N := 45) hx hb hts i_Mo hown hK hP 0 mW_0 cl_11 1 (by decide) (hts _ k_6_161) (fun _ h9 => h9) (mg_kinds _ _) d_Mo_numberAt_1 ?_
  refine lv_iload_n hx hb d_Mo_numberAt_4 rfl (lv_at hl 1 rfl) ?_
  refine va_iald hx hb hK hP 1 0 (ma_kinds _ _ _ _) rfl (zt_in (show p0.toInt = _ from rfl) (by omega) (by omega)) d_Mo_numberAt_5 ?_
  refine lv_topi (fun x1 ex1 => ?_)
  have gx1 : x1 = (a_kinds S) p0.toInt.toNat := ex1.trans (congrArg _ (zt_ix (show p0.toInt = _ from rfl)))
  have fx1 : x1.toInt = ((a_kinds S) p0.toInt.toNat).toInt := by rw [gx1]
  have kx1 : vOk ((a_kinds S) p0.toInt.toNat) ((a_codes S) p0.toInt.toNat) ((a_reals S) p0.toInt.toNat) := i_vals (p0.toInt.toNat) (by omega)
  have rx1 := vk_rng kx1
  refine lv_if_ne (tgt := 19) hx hb d_Mo_numberAt_6 (by decide) (fun c6_1 => ?_) (fun c6_1 => ?_)
  · first | have fc6_1 : x1.toInt < 0 := (by have := zt_ne (show x1.toInt = _ from rfl) tI_0 c6_1; omega) | have fc6_1 : 0 < x1.toInt := (by have := zt_ne (show x1.toInt = _ from rfl) tI_0 c6_1; omega) | skip
    refine lv_aload_n hx hb d_Mo_numberAt_19 rfl (lv_at hl 0 rfl) ?_
    refine va_get (D := D) (ci := 11) (v := .ref (ar 2)) (C := "PageScribeModel") (T := F_Mo) (N := 45) hx hb hts i_Mo hown hK hP 0 mW_0 cl_11 3 (by decide) (hts _ k_6_163) (fun _ h9 => h9) (mg_reals _ _) d_Mo_numberAt_20 ?_
    refine lv_iload_n hx hb d_Mo_numberAt_23 rfl (lv_at hl 1 rfl) ?_
    refine va_dald hx hb hK hP 3 3 (ma_reals _ _ _ _) rfl (zt_in (show p0.toInt = _ from rfl) (by omega) (by omega)) d_Mo_numberAt_24 ?_
    refine lv_topd (fun x2 ex2 => ?_)
    have gx2 : x2 = (a_reals S) p0.toInt.toNat := ex2.trans (congrArg _ (zt_ix (show p0.toInt = _ from rfl)))
    have kx2 : vOk ((a_kinds S) p0.toInt.toNat) ((a_codes S) p0.toInt.toNat) ((a_reals S) p0.toInt.toNat) := i_vals (p0.toInt.toNat) (by omega)
    have dx2 : dB x2 := by rw [gx2]; exact vk_real kx2
    exact j_dret F hr hlocks hK hS () (show dB x2 by assumption) hP hD d_Mo_numberAt_25
  · have fc6_1 : x1.toInt = 0 := zt_eq (show x1.toInt = _ from rfl) tI_0 c6_1
    refine lv_aload_n hx hb d_Mo_numberAt_9 rfl (lv_at hl 0 rfl) ?_
    refine va_get (D := D) (ci := 11) (v := .ref (ar 1)) (C := "PageScribeModel") (T := F_Mo) (N := 45) hx hb hts i_Mo hown hK hP 0 mW_0 cl_11 2 (by decide) (hts _ k_6_162) (fun _ h9 => h9) (mg_codes _ _) d_Mo_numberAt_10 ?_
    refine lv_iload_n hx hb d_Mo_numberAt_13 rfl (lv_at hl 1 rfl) ?_
    refine va_lald hx hb hK hP 2 1 (ma_codes _ _ _ _) rfl (zt_in (show p0.toInt = _ from rfl) (by omega) (by omega)) d_Mo_numberAt_14 ?_
    refine lv_topl (fun x3 ex3 => ?_)
    have gx3 : x3 = (a_codes S) p0.toInt.toNat := ex3.trans (congrArg _ (zt_ix (show p0.toInt = _ from rfl)))
    have fx3 : x3.toInt = ((a_codes S) p0.toInt.toNat).toInt := by rw [gx3]
    have kx3 : vOk ((a_kinds S) p0.toInt.toNat) ((a_codes S) p0.toInt.toNat) ((a_reals S) p0.toInt.toNat) := i_vals (p0.toInt.toNat) (by omega)
    refine lv_l2d hx hb d_Mo_numberAt_15 ?_
    refine lv_topd (fun x4 ex4 => ?_)
    have fx4 : dB x4 := by rw [ex4]; exact zd_l2d _
    refine lv_goto (tgt := 25) hx hb d_Mo_numberAt_16 (by decide) ?_
    exact j_dret F hr hlocks hK hS () (show dB x4 by assumption) hP hD d_Mo_numberAt_25
theorem d_Mo_isDigit_0 : decode prog_15_method_16_code 0 = .ok (.iload_n 0, 1) := by decide +kernel
theorem d_Mo_isDigit_1 : decode prog_15_method_16_code 1 = .ok (.bipush 48, 2) := by decide +kernel
theorem d_Mo_isDigit_3 : decode prog_15_method_16_code 3 = .ok (.if_icmp .lt 13, 3) := by decide +kernel
theorem tI_48 : (48 : Int32).toInt = 48 := by decide +kernel
theorem d_Mo_isDigit_16 : decode prog_15_method_16_code 16 = .ok (.iconst 0, 1) := by decide +kernel
theorem d_Mo_isDigit_17 : decode prog_15_method_16_code 17 = .ok (.ireturn, 1) := by decide +kernel
theorem d_Mo_isDigit_6 : decode prog_15_method_16_code 6 = .ok (.iload_n 0, 1) := by decide +kernel
theorem d_Mo_isDigit_7 : decode prog_15_method_16_code 7 = .ok (.bipush 57, 2) := by decide +kernel
theorem d_Mo_isDigit_9 : decode prog_15_method_16_code 9 = .ok (.if_icmp .gt 7, 3) := by decide +kernel
theorem tI_57 : (57 : Int32).toInt = 57 := by decide +kernel
theorem d_Mo_isDigit_12 : decode prog_15_method_16_code 12 = .ok (.iconst 1, 1) := by decide +kernel
theorem d_Mo_isDigit_13 : decode prog_15_method_16_code 13 = .ok (.goto 4, 3) := by decide +kernel
set_option maxHeartbeats 4000000 in
set_option maxRecDepth 100000 in
theorem m_isDigit (l : Launch) (D : va_G) (T : Nat → ClassId) (p0 : Int32) (sz : Nat) : Met l ⟨"PageScribeModel", "isDigit", "(C)Z"⟩ (wy ⟨"PageScribeModel", "isDigit", "(C)Z"⟩ prog_15_method_16_code 1 (some .boolean)) ({ frames := 0, cells := 0, slots := 0, locals := 0 }) (va_Pc [.int p0] (Pw D T [] sz E0)) (va_Qi (fun (r : Int32) (u : Unit) => (r.toInt = 1 ∧ 48 ≤ p0.toInt ∧ p0.toInt ≤ 57) ∨ (r.toInt = 0 ∧ ¬ (48 ≤ p0.toInt ∧ p0.toInt ≤ 57))) (fun u t => Bw D T (va_A [] sz) [] t) (va_A [] sz)) 0 0 (va_A [] sz) := by
  refine j_met (y := ⟨"PageScribeModel", "isDigit", "(C)Z"⟩) (b := prog_15_method_16_code) (n := 1) (ret := (some .boolean)) (av := [.int p0]) (Qc := fun A => va_Qi (fun (r : Int32) (u : Unit) => (r.toInt = 1 ∧ 48 ≤ p0.toInt ∧ p0.toInt ≤ 57) ∨ (r.toInt = 0 ∧ ¬ (48 ≤ p0.toInt ∧ p0.toInt ≤ 57))) (fun u t => Bw D T A [] t) A) (by decide +kernel) (Nat.le_of_ble_eq_true rfl) (fun p e s m args below meth c A ls F hr hlocks hnm hK hP hD hS hA hN hE hl => ?_)
  obtain ⟨hx, hb, hml, hown, hts⟩ := id F
  have hl : lv_has ls 1 [(0, .int p0)] := hl
  refine lv_iload_n hx hb d_Mo_isDigit_0 rfl (lv_at hl 0 rfl) ?_
  refine lv_bipush (v := 48) hx hb d_Mo_isDigit_1 (by decide) ?_
  refine lv_icmp_lt (tgt := 16) hx hb d_Mo_isDigit_3 (by decide) (fun c3_1 => ?_) (fun c3_1 => ?_)
  · have fc3_1 : p0.toInt < 48 := zt_lt (show p0.toInt = _ from rfl) tI_48 c3_1
    refine lv_iconst (v := 0) hx hb d_Mo_isDigit_16 (by decide) ?_
    exact j_zret F hr (by decide +kernel) hlocks hK hS () (show ((0 : Int32).toInt = 1 ∧ 48 ≤ p0.toInt ∧ p0.toInt ≤ 57) ∨ ((0 : Int32).toInt = 0 ∧ ¬ (48 ≤ p0.toInt ∧ p0.toInt ≤ 57)) by have := tI_0; omega) hP hD d_Mo_isDigit_17
  · have fc3_1 : 48 ≤ p0.toInt := Int.not_lt.mp (zt_nlt (show p0.toInt = _ from rfl) tI_48 c3_1)
    refine lv_iload_n hx hb d_Mo_isDigit_6 rfl (lv_at hl 0 rfl) ?_
    refine lv_bipush (v := 57) hx hb d_Mo_isDigit_7 (by decide) ?_
    refine lv_icmp_gt (tgt := 16) hx hb d_Mo_isDigit_9 (by decide) (fun c9_1 => ?_) (fun c9_1 => ?_)
    · have fc9_1 : 57 < p0.toInt := zt_lt tI_57 (show p0.toInt = _ from rfl) c9_1
      refine lv_iconst (v := 0) hx hb d_Mo_isDigit_16 (by decide) ?_
      exact j_zret F hr (by decide +kernel) hlocks hK hS () (show ((0 : Int32).toInt = 1 ∧ 48 ≤ p0.toInt ∧ p0.toInt ≤ 57) ∨ ((0 : Int32).toInt = 0 ∧ ¬ (48 ≤ p0.toInt ∧ p0.toInt ≤ 57)) by have := tI_0; omega) hP hD d_Mo_isDigit_17
    · have fc9_1 : p0.toInt ≤ 57 := Int.not_lt.mp (zt_nlt tI_57 (show p0.toInt = _ from rfl) c9_1)
      refine lv_iconst (v := 1) hx hb d_Mo_isDigit_12 (by decide) ?_
      refine lv_goto (tgt := 17) hx hb d_Mo_isDigit_13 (by decide) ?_
      exact j_zret F hr (by decide +kernel) hlocks hK hS () (show ((1 : Int32).toInt = 1 ∧ 48 ≤ p0.toInt ∧ p0.toInt ≤ 57) ∨ ((1 : Int32).toInt = 0 ∧ ¬ (48 ≤ p0.toInt ∧ p0.toInt ≤ 57)) by have := tI_1; omega) hP hD d_Mo_isDigit_17
theorem d_Mo_isLetter_0 : decode prog_15_method_17_code 0 = .ok (.iload_n 0, 1) := by decide +kernel
theorem d_Mo_isLetter_1 : decode prog_15_method_17_code 1 = .ok (.bipush 97, 2) := by decide +kernel
theorem d_Mo_isLetter_3 : decode prog_15_method_17_code 3 = .ok (.if_icmp .lt 13, 3) := by decide +kernel
theorem tI_97 : (97 : Int32).toInt = 97 := by decide +kernel
theorem d_Mo_isLetter_16 : decode prog_15_method_17_code 16 = .ok (.iconst 0, 1) := by decide +kernel
theorem d_Mo_isLetter_17 : decode prog_15_method_17_code 17 = .ok (.ireturn, 1) := by decide +kernel
theorem d_Mo_isLetter_6 : decode prog_15_method_17_code 6 = .ok (.iload_n 0, 1) := by decide +kernel
theorem d_Mo_isLetter_7 : decode prog_15_method_17_code 7 = .ok (.bipush 122, 2) := by decide +kernel
theorem d_Mo_isLetter_9 : decode prog_15_method_17_code 9 = .ok (.if_icmp .gt 7, 3) := by decide +kernel
theorem tI_122 : (122 : Int32).toInt = 122 := by decide +kernel
theorem d_Mo_isLetter_12 : decode prog_15_method_17_code 12 = .ok (.iconst 1, 1) := by decide +kernel
theorem d_Mo_isLetter_13 : decode prog_15_method_17_code 13 = .ok (.goto 4, 3) := by decide +kernel
set_option maxHeartbeats 4000000 in
set_option maxRecDepth 100000 in
theorem m_isLetter (l : Launch) (D : va_G) (T : Nat → ClassId) (p0 : Int32) (sz : Nat) : Met l ⟨"PageScribeModel", "isLetter", "(C)Z"⟩ (wy ⟨"PageScribeModel", "isLetter", "(C)Z"⟩ prog_15_method_17_code 1 (some .boolean)) ({ frames := 0, cells := 0, slots := 0, locals := 0 }) (va_Pc [.int p0] (Pw D T [] sz E0)) (va_Qi (fun (r : Int32) (u : Unit) => (r.toInt = 1 ∧ 97 ≤ p0.toInt ∧ p0.toInt ≤ 122) ∨ (r.toInt = 0 ∧ ¬ (97 ≤ p0.toInt ∧ p0.toInt ≤ 122))) (fun u t => Bw D T (va_A [] sz) [] t) (va_A [] sz)) 0 0 (va_A [] sz) := by
  refine j_met (y := ⟨"PageScribeModel", "isLetter", "(C)Z"⟩) (b := prog_15_method_17_code) (n := 1) (ret := (some .boolean)) (av := [.int p0]) (Qc := fun A => va_Qi (fun (r : Int32) (u : Unit) => (r.toInt = 1 ∧ 97 ≤ p0.toInt ∧ p0.toInt ≤ 122) ∨ (r.toInt = 0 ∧ ¬ (97 ≤ p0.toInt ∧ p0.toInt ≤ 122))) (fun u t => Bw D T A [] t) A) (by decide +kernel) (Nat.le_of_ble_eq_true rfl) (fun p e s m args below meth c A ls F hr hlocks hnm hK hP hD hS hA hN hE hl => ?_)
  obtain ⟨hx, hb, hml, hown, hts⟩ := id F
  have hl : lv_has ls 1 [(0, .int p0)] := hl
  refine lv_iload_n hx hb d_Mo_isLetter_0 rfl (lv_at hl 0 rfl) ?_
  refine lv_bipush (v := 97) hx hb d_Mo_isLetter_1 (by decide) ?_
  refine lv_icmp_lt (tgt := 16) hx hb d_Mo_isLetter_3 (by decide) (fun c3_1 => ?_) (fun c3_1 => ?_)
  · have fc3_1 : p0.toInt < 97 := zt_lt (show p0.toInt = _ from rfl) tI_97 c3_1
    refine lv_iconst (v := 0) hx hb d_Mo_isLetter_16 (by decide) ?_
    exact j_zret F hr (by decide +kernel) hlocks hK hS () (show ((0 : Int32).toInt = 1 ∧ 97 ≤ p0.toInt ∧ p0.toInt ≤ 122) ∨ ((0 : Int32).toInt = 0 ∧ ¬ (97 ≤ p0.toInt ∧ p0.toInt ≤ 122)) by have := tI_0; omega) hP hD d_Mo_isLetter_17
  · have fc3_1 : 97 ≤ p0.toInt := Int.not_lt.mp (zt_nlt (show p0.toInt = _ from rfl) tI_97 c3_1)
    refine lv_iload_n hx hb d_Mo_isLetter_6 rfl (lv_at hl 0 rfl) ?_
    refine lv_bipush (v := 122) hx hb d_Mo_isLetter_7 (by decide) ?_
    refine lv_icmp_gt (tgt := 16) hx hb d_Mo_isLetter_9 (by decide) (fun c9_1 => ?_) (fun c9_1 => ?_)
    · have fc9_1 : 122 < p0.toInt := zt_lt tI_122 (show p0.toInt = _ from rfl) c9_1
      refine lv_iconst (v := 0) hx hb d_Mo_isLetter_16 (by decide) ?_
      exact j_zret F hr (by decide +kernel) hlocks hK hS () (show ((0 : Int32).toInt = 1 ∧ 97 ≤ p0.toInt ∧ p0.toInt ≤ 122) ∨ ((0 : Int32).toInt = 0 ∧ ¬ (97 ≤ p0.toInt ∧ p0.toInt ≤ 122)) by have := tI_0; omega) hP hD d_Mo_isLetter_17
    · have fc9_1 : p0.toInt ≤ 122 := Int.not_lt.mp (zt_nlt tI_122 (show p0.toInt = _ from rfl) c9_1)
      refine lv_iconst (v := 1) hx hb d_Mo_isLetter_12 (by decide) ?_
      refine lv_goto (tgt := 17) hx hb d_Mo_isLetter_13 (by decide) ?_
      exact j_zret F hr (by decide +kernel) hlocks hK hS () (show ((1 : Int32).toInt = 1 ∧ 97 ≤ p0.toInt ∧ p0.toInt ≤ 122) ∨ ((1 : Int32).toInt = 0 ∧ ¬ (97 ≤ p0.toInt ∧ p0.toInt ≤ 122)) by have := tI_1; omega) hP hD d_Mo_isLetter_17
theorem d_Mo_base_0 : decode prog_15_method_59_code 0 = .ok (.iload_n 0, 1) := by decide +kernel
theorem d_Mo_base_1 : decode prog_15_method_59_code 1 = .ok (.ifCond .ne 7, 3) := by decide +kernel
theorem d_Mo_base_8 : decode prog_15_method_59_code 8 = .ok (.bipush 10, 2) := by decide +kernel
theorem d_Mo_base_10 : decode prog_15_method_59_code 10 = .ok (.bipush 10, 2) := by decide +kernel
theorem d_Mo_base_12 : decode prog_15_method_59_code 12 = .ok (.iload_n 0, 1) := by decide +kernel
theorem d_Mo_base_13 : decode prog_15_method_59_code 13 = .ok (.imul, 1) := by decide +kernel
theorem tI_10 : (10 : Int32).toInt = 10 := by decide +kernel
theorem d_Mo_base_14 : decode prog_15_method_59_code 14 = .ok (.iadd, 1) := by decide +kernel
theorem d_Mo_base_15 : decode prog_15_method_59_code 15 = .ok (.ireturn, 1) := by decide +kernel
theorem d_Mo_base_4 : decode prog_15_method_59_code 4 = .ok (.iconst 0, 1) := by decide +kernel
theorem d_Mo_base_5 : decode prog_15_method_59_code 5 = .ok (.goto 10, 3) := by decide +kernel
set_option maxHeartbeats 4000000 in
set_option maxRecDepth 100000 in
theorem m_base (l : Launch) (D : va_G) (T : Nat → ClassId) (p0 : Int32) (sz : Nat) (h1 : 0 ≤ p0.toInt ∧ p0.toInt ≤ 6) : Met l ⟨"PageScribeModel", "base", "(I)I"⟩ (wy ⟨"PageScribeModel", "base", "(I)I"⟩ prog_15_method_59_code 1 (some .int)) ({ frames := 0, cells := 0, slots := 0, locals := 0 }) (va_Pc [.int p0] (Pw D T [] sz E0)) (va_Qi (fun (r : Int32) (u : Unit) => (p0.toInt = 0 → r.toInt = 0) ∧ (¬ p0.toInt = 0 → r.toInt = 10 + 10 * p0.toInt)) (fun u t => Bw D T (va_A [] sz) [] t) (va_A [] sz)) 0 0 (va_A [] sz) := by
  refine j_met (y := ⟨"PageScribeModel", "base", "(I)I"⟩) (b := prog_15_method_59_code) (n := 1) (ret := (some .int)) (av := [.int p0]) (Qc := fun A => va_Qi (fun (r : Int32) (u : Unit) => (p0.toInt = 0 → r.toInt = 0) ∧ (¬ p0.toInt = 0 → r.toInt = 10 + 10 * p0.toInt)) (fun u t => Bw D T A [] t) A) (by decide +kernel) (Nat.le_of_ble_eq_true rfl) (fun p e s m args below meth c A ls F hr hlocks hnm hK hP hD hS hA hN hE hl => ?_)
  obtain ⟨hx, hb, hml, hown, hts⟩ := id F
  have hl : lv_has ls 1 [(0, .int p0)] := hl
  refine lv_iload_n hx hb d_Mo_base_0 rfl (lv_at hl 0 rfl) ?_
  refine lv_if_ne (tgt := 8) hx hb d_Mo_base_1 (by decide) (fun c1_1 => ?_) (fun c1_1 => ?_)
  · first | have fc1_1 : p0.toInt < 0 := (by have := zt_ne (show p0.toInt = _ from rfl) tI_0 c1_1; omega) | have fc1_1 : 0 < p0.toInt := (by have := zt_ne (show p0.toInt = _ from rfl) tI_0 c1_1; omega) | skip
    refine lv_bipush (v := 10) hx hb d_Mo_base_8 (by decide) ?_
    refine lv_bipush (v := 10) hx hb d_Mo_base_10 (by decide) ?_
    refine lv_iload_n hx hb d_Mo_base_12 rfl (lv_at hl 0 rfl) ?_
    refine lv_imul hx hb d_Mo_base_13 ?_
    refine lv_topi (fun x1 ex1 => ?_)
    have fx1 : x1.toInt = (10 * p0.toInt) := by rw [ex1]; exact (zt_mul tI_10 (show p0.toInt = _ from rfl) rfl (by omega) (by omega)).trans (by omega)
    refine lv_iadd hx hb d_Mo_base_14 ?_
    refine lv_topi (fun x2 ex2 => ?_)
    have fx2 : x2.toInt = (10 * p0.toInt + 10) := by rw [ex2]; exact (zt_add tI_10 fx1 (by omega) (by omega)).trans (by omega)
    exact j_iret F hr hlocks hK hS () (show (p0.toInt = 0 → x2.toInt = 0) ∧ (¬ p0.toInt = 0 → x2.toInt = 10 + 10 * p0.toInt) by omega) hP hD d_Mo_base_15
  · have fc1_1 : p0.toInt = 0 := zt_eq (show p0.toInt = _ from rfl) tI_0 c1_1
    refine lv_iconst (v := 0) hx hb d_Mo_base_4 (by decide) ?_
    refine lv_goto (tgt := 15) hx hb d_Mo_base_5 (by decide) ?_
    exact j_iret F hr hlocks hK hS () (show (p0.toInt = 0 → (0 : Int32).toInt = 0) ∧ (¬ p0.toInt = 0 → (0 : Int32).toInt = 10 + 10 * p0.toInt) by have := tI_0; omega) hP hD d_Mo_base_15
