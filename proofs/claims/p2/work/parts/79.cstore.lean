theorem d_Store_hasDict_0 : decode prog_10_method_6_code 0 = .ok (.iload_n 1, 1) := by decide +kernel
theorem d_Store_hasDict_1 : decode prog_10_method_6_code 1 = .ok (.ifCond .lt 22, 3) := by decide +kernel
theorem d_Store_hasDict_23 : decode prog_10_method_6_code 23 = .ok (.iconst 0, 1) := by decide +kernel
theorem d_Store_hasDict_24 : decode prog_10_method_6_code 24 = .ok (.ireturn, 1) := by decide +kernel
theorem d_Store_hasDict_4 : decode prog_10_method_6_code 4 = .ok (.iload_n 1, 1) := by decide +kernel
theorem d_Store_hasDict_5 : decode prog_10_method_6_code 5 = .ok (.bipush 7, 2) := by decide +kernel
theorem d_Store_hasDict_7 : decode prog_10_method_6_code 7 = .ok (.if_icmp .ge 16, 3) := by decide +kernel
theorem d_Store_hasDict_10 : decode prog_10_method_6_code 10 = .ok (.aload_n 0, 1) := by decide +kernel
theorem d_Store_hasDict_11 : decode prog_10_method_6_code 11 = .ok (.getfield 20, 3) := by decide +kernel
theorem k_1_111 : Cond.fieldLink "PageScribe$Store" 20 "PageScribe$Store" "rooms" "[I" ∈ gw := gw_of (tb_1 (List.mem_of_getElem? (i := 111) (by decide +kernel))) (by decide +kernel)
theorem d_Store_hasDict_14 : decode prog_10_method_6_code 14 = .ok (.iload_n 1, 1) := by decide +kernel
theorem d_Store_hasDict_15 : decode prog_10_method_6_code 15 = .ok (.iaload, 1) := by decide +kernel
theorem d_Store_hasDict_16 : decode prog_10_method_6_code 16 = .ok (.ifCond .le 7, 3) := by decide +kernel
theorem d_Store_hasDict_19 : decode prog_10_method_6_code 19 = .ok (.iconst 1, 1) := by decide +kernel
theorem d_Store_hasDict_20 : decode prog_10_method_6_code 20 = .ok (.goto 4, 3) := by decide +kernel
set_option maxHeartbeats 4000000 in
set_option maxRecDepth 100000 in
theorem c_Store_hasDict (l : Launch) (D : va_G) (T : Nat → ClassId) (ad : Nat → Nat) (S : CS) (p0 : Int32) (sz : Nat)  : Met l ⟨"PageScribe$Store", "hasDict", "(I)Z"⟩ (wy ⟨"PageScribe$Store", "hasDict", "(I)Z"⟩ prog_10_method_6_code 2 (some .boolean)) ({ frames := 0, cells := 0, slots := 0, locals := 0 }) (va_Pc [.ref (ad 12), .int p0] (Pw D T (cW T ad S) sz E0)) (va_Qi (fun (r : Int32) (u : Unit) => r.toInt = 0 ∨ (r.toInt = 1 ∧ 0 ≤ p0.toInt ∧ p0.toInt < 7)) (fun u t => Bw D T (va_A (cW T ad S) sz) (cW T ad S) t) (va_A (cW T ad S) sz)) 0 0 (va_A (cW T ad S) sz) := by
  refine j_met (y := ⟨"PageScribe$Store", "hasDict", "(I)Z"⟩) (b := prog_10_method_6_code) (n := 2) (ret := (some .boolean)) (av := [.ref (ad 12), .int p0]) (Qc := fun A => va_Qi (fun (r : Int32) (u : Unit) => r.toInt = 0 ∨ (r.toInt = 1 ∧ 0 ≤ p0.toInt ∧ p0.toInt < 7)) (fun u t => Bw D T A (cW T ad S) t) A) (by decide +kernel) (Nat.le_of_ble_eq_true rfl) (fun p e s m args below meth c A ls F hr hlocks hnm hK hP hD hS hA hN hE hl => ?_)
  obtain ⟨hx, hb, hml, hown, hts⟩ := id F
  have hl : lv_has ls 2 [(0, .ref (ad 12)), (1, .int p0)] := hl
  have rp0 := zt_rng p0
  refine lv_iload_n hx hb d_Store_hasDict_0 rfl (lv_at hl 1 rfl) ?_
  refine lv_if_lt (tgt := 23) hx hb d_Store_hasDict_1 (by decide) (fun c1_1 => ?_) (fun c1_1 => ?_)
  · have fc1_1 : p0.toInt < 0 := zt_lt (show p0.toInt = _ from rfl) tI_0 c1_1
    refine lv_iconst (v := 0) hx hb d_Store_hasDict_23 (by decide) ?_
    exact j_zret F hr (by decide +kernel) hlocks hK hS () (show (0 : Int32).toInt = 0 ∨ ((0 : Int32).toInt = 1 ∧ 0 ≤ p0.toInt ∧ p0.toInt < 7) by have := tI_0; omega) hP hD d_Store_hasDict_24
  · have fc1_1 : 0 ≤ p0.toInt := Int.not_lt.mp (zt_nlt (show p0.toInt = _ from rfl) tI_0 c1_1)
    refine lv_iload_n hx hb d_Store_hasDict_4 rfl (lv_at hl 1 rfl) ?_
    refine lv_bipush (v := 7) hx hb d_Store_hasDict_5 (by decide) ?_
    refine lv_icmp_ge (tgt := 23) hx hb d_Store_hasDict_7 (by decide) (fun c7_1 => ?_) (fun c7_1 => ?_)
    · have fc7_1 : 7 ≤ p0.toInt := zt_le tI_7 (show p0.toInt = _ from rfl) c7_1
      refine lv_iconst (v := 0) hx hb d_Store_hasDict_23 (by decide) ?_
      exact j_zret F hr (by decide +kernel) hlocks hK hS () (show (0 : Int32).toInt = 0 ∨ ((0 : Int32).toInt = 1 ∧ 0 ≤ p0.toInt ∧ p0.toInt < 7) by have := tI_0; omega) hP hD d_Store_hasDict_24
    · have fc7_1 : p0.toInt < 7 := Int.not_le.mp (zt_nle tI_7 (show p0.toInt = _ from rfl) c7_1)
      refine lv_aload_n hx hb d_Store_hasDict_10 rfl (lv_at hl 0 rfl) ?_
      refine va_get (D := D) (ci := 3) (v := .ref (ad 17)) (C := "PageScribe$Store") (T := F_Store) (N := 5) hx hb hts i_Store hown hK hP 12 (ce_12 _ _ _) cl_3 1 (by decide) (hts _ k_1_111) (fun _ h9 => h9) rfl d_Store_hasDict_11 ?_
      refine lv_iload_n hx hb d_Store_hasDict_14 rfl (lv_at hl 1 rfl) ?_
      refine va_iald hx hb hK hP 17 0 (ce_17 _ _ _) rfl (zt_in (show p0.toInt = _ from rfl) (by omega) (by omega)) d_Store_hasDict_15 ?_
      refine lv_topi (fun x1 ex1 => ?_)
      have gx1 : x1 = (a_xd0_rooms S) p0.toInt.toNat := ex1.trans (congrArg _ (zt_ix (show p0.toInt = _ from rfl)))
      have fx1 : x1.toInt = ((a_xd0_rooms S) p0.toInt.toNat).toInt := by rw [gx1]
      have rx1 := zt_rng x1
      refine lv_if_le (tgt := 23) hx hb d_Store_hasDict_16 (by decide) (fun c16_1 => ?_) (fun c16_1 => ?_)
      · have fc16_1 : x1.toInt ≤ 0 := zt_le (show x1.toInt = _ from rfl) tI_0 c16_1
        refine lv_iconst (v := 0) hx hb d_Store_hasDict_23 (by decide) ?_
        exact j_zret F hr (by decide +kernel) hlocks hK hS () (show (0 : Int32).toInt = 0 ∨ ((0 : Int32).toInt = 1 ∧ 0 ≤ p0.toInt ∧ p0.toInt < 7) by have := tI_0; omega) hP hD d_Store_hasDict_24
      · have fc16_1 : 0 < x1.toInt := Int.not_le.mp (zt_nle (show x1.toInt = _ from rfl) tI_0 c16_1)
        refine lv_iconst (v := 1) hx hb d_Store_hasDict_19 (by decide) ?_
        refine lv_goto (tgt := 24) hx hb d_Store_hasDict_20 (by decide) ?_
        exact j_zret F hr (by decide +kernel) hlocks hK hS () (show (1 : Int32).toInt = 0 ∨ ((1 : Int32).toInt = 1 ∧ 0 ≤ p0.toInt ∧ p0.toInt < 7) by have := tI_1; omega) hP hD d_Store_hasDict_24
set_option maxHeartbeats 4000000 in
set_option maxRecDepth 100000 in
theorem c_Store_hasDict_24 (l : Launch) (D : va_G) (T : Nat → ClassId) (ad : Nat → Nat) (S : CS) (p0 : Int32) (sz : Nat)  : Met l ⟨"PageScribe$Store", "hasDict", "(I)Z"⟩ (wy ⟨"PageScribe$Store", "hasDict", "(I)Z"⟩ prog_10_method_6_code 2 (some .boolean)) ({ frames := 0, cells := 0, slots := 0, locals := 0 }) (va_Pc [.ref (ad 24), .int p0] (Pw D T (cW T ad S) sz E0)) (va_Qi (fun (r : Int32) (u : Unit) => r.toInt = 0 ∨ (r.toInt = 1 ∧ 0 ≤ p0.toInt ∧ p0.toInt < 7)) (fun u t => Bw D T (va_A (cW T ad S) sz) (cW T ad S) t) (va_A (cW T ad S) sz)) 0 0 (va_A (cW T ad S) sz) := by
  refine j_met (y := ⟨"PageScribe$Store", "hasDict", "(I)Z"⟩) (b := prog_10_method_6_code) (n := 2) (ret := (some .boolean)) (av := [.ref (ad 24), .int p0]) (Qc := fun A => va_Qi (fun (r : Int32) (u : Unit) => r.toInt = 0 ∨ (r.toInt = 1 ∧ 0 ≤ p0.toInt ∧ p0.toInt < 7)) (fun u t => Bw D T A (cW T ad S) t) A) (by decide +kernel) (Nat.le_of_ble_eq_true rfl) (fun p e s m args below meth c A ls F hr hlocks hnm hK hP hD hS hA hN hE hl => ?_)
  obtain ⟨hx, hb, hml, hown, hts⟩ := id F
  have hl : lv_has ls 2 [(0, .ref (ad 24)), (1, .int p0)] := hl
  have rp0 := zt_rng p0
  refine lv_iload_n hx hb d_Store_hasDict_0 rfl (lv_at hl 1 rfl) ?_
  refine lv_if_lt (tgt := 23) hx hb d_Store_hasDict_1 (by decide) (fun c1_1 => ?_) (fun c1_1 => ?_)
  · have fc1_1 : p0.toInt < 0 := zt_lt (show p0.toInt = _ from rfl) tI_0 c1_1
    refine lv_iconst (v := 0) hx hb d_Store_hasDict_23 (by decide) ?_
    exact j_zret F hr (by decide +kernel) hlocks hK hS () (show (0 : Int32).toInt = 0 ∨ ((0 : Int32).toInt = 1 ∧ 0 ≤ p0.toInt ∧ p0.toInt < 7) by have := tI_0; omega) hP hD d_Store_hasDict_24
  · have fc1_1 : 0 ≤ p0.toInt := Int.not_lt.mp (zt_nlt (show p0.toInt = _ from rfl) tI_0 c1_1)
    refine lv_iload_n hx hb d_Store_hasDict_4 rfl (lv_at hl 1 rfl) ?_
    refine lv_bipush (v := 7) hx hb d_Store_hasDict_5 (by decide) ?_
    refine lv_icmp_ge (tgt := 23) hx hb d_Store_hasDict_7 (by decide) (fun c7_1 => ?_) (fun c7_1 => ?_)
    · have fc7_1 : 7 ≤ p0.toInt := zt_le tI_7 (show p0.toInt = _ from rfl) c7_1
      refine lv_iconst (v := 0) hx hb d_Store_hasDict_23 (by decide) ?_
      exact j_zret F hr (by decide +kernel) hlocks hK hS () (show (0 : Int32).toInt = 0 ∨ ((0 : Int32).toInt = 1 ∧ 0 ≤ p0.toInt ∧ p0.toInt < 7) by have := tI_0; omega) hP hD d_Store_hasDict_24
    · have fc7_1 : p0.toInt < 7 := Int.not_le.mp (zt_nle tI_7 (show p0.toInt = _ from rfl) c7_1)
      refine lv_aload_n hx hb d_Store_hasDict_10 rfl (lv_at hl 0 rfl) ?_
      refine va_get (D := D) (ci := 3) (v := .ref (ad 29)) (C := "PageScribe$Store") (T := F_Store) (N := 5) hx hb hts i_Store hown hK hP 24 (ce_24 _ _ _) cl_3 1 (by decide) (hts _ k_1_111) (fun _ h9 => h9) rfl d_Store_hasDict_11 ?_
      refine lv_iload_n hx hb d_Store_hasDict_14 rfl (lv_at hl 1 rfl) ?_
      refine va_iald hx hb hK hP 29 0 (ce_29 _ _ _) rfl (zt_in (show p0.toInt = _ from rfl) (by omega) (by omega)) d_Store_hasDict_15 ?_
      refine lv_topi (fun x1 ex1 => ?_)
      have gx1 : x1 = (a_xd1_rooms S) p0.toInt.toNat := ex1.trans (congrArg _ (zt_ix (show p0.toInt = _ from rfl)))
      have fx1 : x1.toInt = ((a_xd1_rooms S) p0.toInt.toNat).toInt := by rw [gx1]
      have rx1 := zt_rng x1
      refine lv_if_le (tgt := 23) hx hb d_Store_hasDict_16 (by decide) (fun c16_1 => ?_) (fun c16_1 => ?_)
      · have fc16_1 : x1.toInt ≤ 0 := zt_le (show x1.toInt = _ from rfl) tI_0 c16_1
        refine lv_iconst (v := 0) hx hb d_Store_hasDict_23 (by decide) ?_
        exact j_zret F hr (by decide +kernel) hlocks hK hS () (show (0 : Int32).toInt = 0 ∨ ((0 : Int32).toInt = 1 ∧ 0 ≤ p0.toInt ∧ p0.toInt < 7) by have := tI_0; omega) hP hD d_Store_hasDict_24
      · have fc16_1 : 0 < x1.toInt := Int.not_le.mp (zt_nle (show x1.toInt = _ from rfl) tI_0 c16_1)
        refine lv_iconst (v := 1) hx hb d_Store_hasDict_19 (by decide) ?_
        refine lv_goto (tgt := 24) hx hb d_Store_hasDict_20 (by decide) ?_
        exact j_zret F hr (by decide +kernel) hlocks hK hS () (show (1 : Int32).toInt = 0 ∨ ((1 : Int32).toInt = 1 ∧ 0 ≤ p0.toInt ∧ p0.toInt < 7) by have := tI_1; omega) hP hD d_Store_hasDict_24
set_option maxHeartbeats 4000000 in
set_option maxRecDepth 100000 in
theorem c_Store_hasDict_36 (l : Launch) (D : va_G) (T : Nat → ClassId) (ad : Nat → Nat) (S : CS) (p0 : Int32) (sz : Nat)  : Met l ⟨"PageScribe$Store", "hasDict", "(I)Z"⟩ (wy ⟨"PageScribe$Store", "hasDict", "(I)Z"⟩ prog_10_method_6_code 2 (some .boolean)) ({ frames := 0, cells := 0, slots := 0, locals := 0 }) (va_Pc [.ref (ad 36), .int p0] (Pw D T (cW T ad S) sz E0)) (va_Qi (fun (r : Int32) (u : Unit) => r.toInt = 0 ∨ (r.toInt = 1 ∧ 0 ≤ p0.toInt ∧ p0.toInt < 7)) (fun u t => Bw D T (va_A (cW T ad S) sz) (cW T ad S) t) (va_A (cW T ad S) sz)) 0 0 (va_A (cW T ad S) sz) := by
  refine j_met (y := ⟨"PageScribe$Store", "hasDict", "(I)Z"⟩) (b := prog_10_method_6_code) (n := 2) (ret := (some .boolean)) (av := [.ref (ad 36), .int p0]) (Qc := fun A => va_Qi (fun (r : Int32) (u : Unit) => r.toInt = 0 ∨ (r.toInt = 1 ∧ 0 ≤ p0.toInt ∧ p0.toInt < 7)) (fun u t => Bw D T A (cW T ad S) t) A) (by decide +kernel) (Nat.le_of_ble_eq_true rfl) (fun p e s m args below meth c A ls F hr hlocks hnm hK hP hD hS hA hN hE hl => ?_)
  obtain ⟨hx, hb, hml, hown, hts⟩ := id F
  have hl : lv_has ls 2 [(0, .ref (ad 36)), (1, .int p0)] := hl
  have rp0 := zt_rng p0
  refine lv_iload_n hx hb d_Store_hasDict_0 rfl (lv_at hl 1 rfl) ?_
  refine lv_if_lt (tgt := 23) hx hb d_Store_hasDict_1 (by decide) (fun c1_1 => ?_) (fun c1_1 => ?_)
  · have fc1_1 : p0.toInt < 0 := zt_lt (show p0.toInt = _ from rfl) tI_0 c1_1
    refine lv_iconst (v := 0) hx hb d_Store_hasDict_23 (by decide) ?_
    exact j_zret F hr (by decide +kernel) hlocks hK hS () (show (0 : Int32).toInt = 0 ∨ ((0 : Int32).toInt = 1 ∧ 0 ≤ p0.toInt ∧ p0.toInt < 7) by have := tI_0; omega) hP hD d_Store_hasDict_24
  · have fc1_1 : 0 ≤ p0.toInt := Int.not_lt.mp (zt_nlt (show p0.toInt = _ from rfl) tI_0 c1_1)
    refine lv_iload_n hx hb d_Store_hasDict_4 rfl (lv_at hl 1 rfl) ?_
    refine lv_bipush (v := 7) hx hb d_Store_hasDict_5 (by decide) ?_
    refine lv_icmp_ge (tgt := 23) hx hb d_Store_hasDict_7 (by decide) (fun c7_1 => ?_) (fun c7_1 => ?_)
    · have fc7_1 : 7 ≤ p0.toInt := zt_le tI_7 (show p0.toInt = _ from rfl) c7_1
      refine lv_iconst (v := 0) hx hb d_Store_hasDict_23 (by decide) ?_
      exact j_zret F hr (by decide +kernel) hlocks hK hS () (show (0 : Int32).toInt = 0 ∨ ((0 : Int32).toInt = 1 ∧ 0 ≤ p0.toInt ∧ p0.toInt < 7) by have := tI_0; omega) hP hD d_Store_hasDict_24
    · have fc7_1 : p0.toInt < 7 := Int.not_le.mp (zt_nle tI_7 (show p0.toInt = _ from rfl) c7_1)
      refine lv_aload_n hx hb d_Store_hasDict_10 rfl (lv_at hl 0 rfl) ?_
      refine va_get (D := D) (ci := 3) (v := .ref (ad 41)) (C := "PageScribe$Store") (T := F_Store) (N := 5) hx hb hts i_Store hown hK hP 36 (ce_36 _ _ _) cl_3 1 (by decide) (hts _ k_1_111) (fun _ h9 => h9) rfl d_Store_hasDict_11 ?_
      refine lv_iload_n hx hb d_Store_hasDict_14 rfl (lv_at hl 1 rfl) ?_
      refine va_iald hx hb hK hP 41 0 (ce_41 _ _ _) rfl (zt_in (show p0.toInt = _ from rfl) (by omega) (by omega)) d_Store_hasDict_15 ?_
      refine lv_topi (fun x1 ex1 => ?_)
      have gx1 : x1 = (a_xd2_rooms S) p0.toInt.toNat := ex1.trans (congrArg _ (zt_ix (show p0.toInt = _ from rfl)))
      have fx1 : x1.toInt = ((a_xd2_rooms S) p0.toInt.toNat).toInt := by rw [gx1]
      have rx1 := zt_rng x1
      refine lv_if_le (tgt := 23) hx hb d_Store_hasDict_16 (by decide) (fun c16_1 => ?_) (fun c16_1 => ?_)
      · have fc16_1 : x1.toInt ≤ 0 := zt_le (show x1.toInt = _ from rfl) tI_0 c16_1
        refine lv_iconst (v := 0) hx hb d_Store_hasDict_23 (by decide) ?_
        exact j_zret F hr (by decide +kernel) hlocks hK hS () (show (0 : Int32).toInt = 0 ∨ ((0 : Int32).toInt = 1 ∧ 0 ≤ p0.toInt ∧ p0.toInt < 7) by have := tI_0; omega) hP hD d_Store_hasDict_24
      · have fc16_1 : 0 < x1.toInt := Int.not_le.mp (zt_nle (show x1.toInt = _ from rfl) tI_0 c16_1)
        refine lv_iconst (v := 1) hx hb d_Store_hasDict_19 (by decide) ?_
        refine lv_goto (tgt := 24) hx hb d_Store_hasDict_20 (by decide) ?_
        exact j_zret F hr (by decide +kernel) hlocks hK hS () (show (1 : Int32).toInt = 0 ∨ ((1 : Int32).toInt = 1 ∧ 0 ≤ p0.toInt ∧ p0.toInt < 7) by have := tI_1; omega) hP hD d_Store_hasDict_24
set_option maxHeartbeats 4000000 in
set_option maxRecDepth 100000 in
theorem c_Store_hasDict_48 (l : Launch) (D : va_G) (T : Nat → ClassId) (ad : Nat → Nat) (S : CS) (p0 : Int32) (sz : Nat)  : Met l ⟨"PageScribe$Store", "hasDict", "(I)Z"⟩ (wy ⟨"PageScribe$Store", "hasDict", "(I)Z"⟩ prog_10_method_6_code 2 (some .boolean)) ({ frames := 0, cells := 0, slots := 0, locals := 0 }) (va_Pc [.ref (ad 48), .int p0] (Pw D T (cW T ad S) sz E0)) (va_Qi (fun (r : Int32) (u : Unit) => r.toInt = 0 ∨ (r.toInt = 1 ∧ 0 ≤ p0.toInt ∧ p0.toInt < 7)) (fun u t => Bw D T (va_A (cW T ad S) sz) (cW T ad S) t) (va_A (cW T ad S) sz)) 0 0 (va_A (cW T ad S) sz) := by
  refine j_met (y := ⟨"PageScribe$Store", "hasDict", "(I)Z"⟩) (b := prog_10_method_6_code) (n := 2) (ret := (some .boolean)) (av := [.ref (ad 48), .int p0]) (Qc := fun A => va_Qi (fun (r : Int32) (u : Unit) => r.toInt = 0 ∨ (r.toInt = 1 ∧ 0 ≤ p0.toInt ∧ p0.toInt < 7)) (fun u t => Bw D T A (cW T ad S) t) A) (by decide +kernel) (Nat.le_of_ble_eq_true rfl) (fun p e s m args below meth c A ls F hr hlocks hnm hK hP hD hS hA hN hE hl => ?_)
  obtain ⟨hx, hb, hml, hown, hts⟩ := id F
  have hl : lv_has ls 2 [(0, .ref (ad 48)), (1, .int p0)] := hl
  have rp0 := zt_rng p0
  refine lv_iload_n hx hb d_Store_hasDict_0 rfl (lv_at hl 1 rfl) ?_
  refine lv_if_lt (tgt := 23) hx hb d_Store_hasDict_1 (by decide) (fun c1_1 => ?_) (fun c1_1 => ?_)
  · have fc1_1 : p0.toInt < 0 := zt_lt (show p0.toInt = _ from rfl) tI_0 c1_1
    refine lv_iconst (v := 0) hx hb d_Store_hasDict_23 (by decide) ?_
    exact j_zret F hr (by decide +kernel) hlocks hK hS () (show (0 : Int32).toInt = 0 ∨ ((0 : Int32).toInt = 1 ∧ 0 ≤ p0.toInt ∧ p0.toInt < 7) by have := tI_0; omega) hP hD d_Store_hasDict_24
  · have fc1_1 : 0 ≤ p0.toInt := Int.not_lt.mp (zt_nlt (show p0.toInt = _ from rfl) tI_0 c1_1)
    refine lv_iload_n hx hb d_Store_hasDict_4 rfl (lv_at hl 1 rfl) ?_
    refine lv_bipush (v := 7) hx hb d_Store_hasDict_5 (by decide) ?_
    refine lv_icmp_ge (tgt := 23) hx hb d_Store_hasDict_7 (by decide) (fun c7_1 => ?_) (fun c7_1 => ?_)
    · have fc7_1 : 7 ≤ p0.toInt := zt_le tI_7 (show p0.toInt = _ from rfl) c7_1
      refine lv_iconst (v := 0) hx hb d_Store_hasDict_23 (by decide) ?_
      exact j_zret F hr (by decide +kernel) hlocks hK hS () (show (0 : Int32).toInt = 0 ∨ ((0 : Int32).toInt = 1 ∧ 0 ≤ p0.toInt ∧ p0.toInt < 7) by have := tI_0; omega) hP hD d_Store_hasDict_24
    · have fc7_1 : p0.toInt < 7 := Int.not_le.mp (zt_nle tI_7 (show p0.toInt = _ from rfl) c7_1)
      refine lv_aload_n hx hb d_Store_hasDict_10 rfl (lv_at hl 0 rfl) ?_
      refine va_get (D := D) (ci := 3) (v := .ref (ad 53)) (C := "PageScribe$Store") (T := F_Store) (N := 5) hx hb hts i_Store hown hK hP 48 (ce_48 _ _ _) cl_3 1 (by decide) (hts _ k_1_111) (fun _ h9 => h9) rfl d_Store_hasDict_11 ?_
      refine lv_iload_n hx hb d_Store_hasDict_14 rfl (lv_at hl 1 rfl) ?_
      refine va_iald hx hb hK hP 53 0 (ce_53 _ _ _) rfl (zt_in (show p0.toInt = _ from rfl) (by omega) (by omega)) d_Store_hasDict_15 ?_
      refine lv_topi (fun x1 ex1 => ?_)
      have gx1 : x1 = (a_xd3_rooms S) p0.toInt.toNat := ex1.trans (congrArg _ (zt_ix (show p0.toInt = _ from rfl)))
      have fx1 : x1.toInt = ((a_xd3_rooms S) p0.toInt.toNat).toInt := by rw [gx1]
      have rx1 := zt_rng x1
      refine lv_if_le (tgt := 23) hx hb d_Store_hasDict_16 (by decide) (fun c16_1 => ?_) (fun c16_1 => ?_)
      · have fc16_1 : x1.toInt ≤ 0 := zt_le (show x1.toInt = _ from rfl) tI_0 c16_1
        refine lv_iconst (v := 0) hx hb d_Store_hasDict_23 (by decide) ?_
        exact j_zret F hr (by decide +kernel) hlocks hK hS () (show (0 : Int32).toInt = 0 ∨ ((0 : Int32).toInt = 1 ∧ 0 ≤ p0.toInt ∧ p0.toInt < 7) by have := tI_0; omega) hP hD d_Store_hasDict_24
      · have fc16_1 : 0 < x1.toInt := Int.not_le.mp (zt_nle (show x1.toInt = _ from rfl) tI_0 c16_1)
        refine lv_iconst (v := 1) hx hb d_Store_hasDict_19 (by decide) ?_
        refine lv_goto (tgt := 24) hx hb d_Store_hasDict_20 (by decide) ?_
        exact j_zret F hr (by decide +kernel) hlocks hK hS () (show (1 : Int32).toInt = 0 ∨ ((1 : Int32).toInt = 1 ∧ 0 ≤ p0.toInt ∧ p0.toInt < 7) by have := tI_1; omega) hP hD d_Store_hasDict_24
theorem d_Store_firstEntry_0 : decode prog_10_method_9_code 0 = .ok (.iload_n 0, 1) := by decide +kernel
theorem d_Store_firstEntry_1 : decode prog_10_method_9_code 1 = .ok (.ifCond .ne 7, 3) := by decide +kernel
theorem d_Store_firstEntry_8 : decode prog_10_method_9_code 8 = .ok (.bipush 20, 2) := by decide +kernel
theorem d_Store_firstEntry_10 : decode prog_10_method_9_code 10 = .ok (.iload_n 0, 1) := by decide +kernel
theorem d_Store_firstEntry_11 : decode prog_10_method_9_code 11 = .ok (.iconst 1, 1) := by decide +kernel
theorem d_Store_firstEntry_12 : decode prog_10_method_9_code 12 = .ok (.isub, 1) := by decide +kernel
theorem d_Store_firstEntry_13 : decode prog_10_method_9_code 13 = .ok (.bipush 10, 2) := by decide +kernel
theorem d_Store_firstEntry_15 : decode prog_10_method_9_code 15 = .ok (.imul, 1) := by decide +kernel
theorem d_Store_firstEntry_16 : decode prog_10_method_9_code 16 = .ok (.iadd, 1) := by decide +kernel
theorem d_Store_firstEntry_17 : decode prog_10_method_9_code 17 = .ok (.ireturn, 1) := by decide +kernel
theorem d_Store_firstEntry_4 : decode prog_10_method_9_code 4 = .ok (.iconst 0, 1) := by decide +kernel
theorem d_Store_firstEntry_5 : decode prog_10_method_9_code 5 = .ok (.goto 12, 3) := by decide +kernel
set_option maxHeartbeats 4000000 in
set_option maxRecDepth 100000 in
theorem c_Store_firstEntry (l : Launch) (D : va_G) (T : Nat → ClassId) (p0 : Int32) (sz : Nat)  (h1 : 0 ≤ p0.toInt ∧ p0.toInt ≤ 6) : Met l ⟨"PageScribe$Store", "firstEntry", "(I)I"⟩ (wy ⟨"PageScribe$Store", "firstEntry", "(I)I"⟩ prog_10_method_9_code 1 (some .int)) ({ frames := 0, cells := 0, slots := 0, locals := 0 }) (va_Pc [.int p0] (Pw D T [] sz E0)) (va_Qi (fun (r : Int32) (u : Unit) => (p0.toInt = 0 → r.toInt = 0) ∧ (¬ p0.toInt = 0 → r.toInt = 10 + 10 * p0.toInt)) (fun u t => Bw D T (va_A [] sz) [] t) (va_A [] sz)) 0 0 (va_A [] sz) := by
  refine j_met (y := ⟨"PageScribe$Store", "firstEntry", "(I)I"⟩) (b := prog_10_method_9_code) (n := 1) (ret := (some .int)) (av := [.int p0]) (Qc := fun A => va_Qi (fun (r : Int32) (u : Unit) => (p0.toInt = 0 → r.toInt = 0) ∧ (¬ p0.toInt = 0 → r.toInt = 10 + 10 * p0.toInt)) (fun u t => Bw D T A [] t) A) (by decide +kernel) (Nat.le_of_ble_eq_true rfl) (fun p e s m args below meth c A ls F hr hlocks hnm hK hP hD hS hA hN hE hl => ?_)
  obtain ⟨hx, hb, hml, hown, hts⟩ := id F
  have hl : lv_has ls 1 [(0, .int p0)] := hl
  have rp0 := zt_rng p0
  refine lv_iload_n hx hb d_Store_firstEntry_0 rfl (lv_at hl 0 rfl) ?_
  refine lv_if_ne (tgt := 8) hx hb d_Store_firstEntry_1 (by decide) (fun c1_1 => ?_) (fun c1_1 => ?_)
  · first | have fc1_1 : p0.toInt < 0 := (by have := zt_ne (show p0.toInt = _ from rfl) tI_0 c1_1; omega) | have fc1_1 : 0 < p0.toInt := (by have := zt_ne (show p0.toInt = _ from rfl) tI_0 c1_1; omega) | skip
    refine lv_bipush (v := 20) hx hb d_Store_firstEntry_8 (by decide) ?_
    refine lv_iload_n hx hb d_Store_firstEntry_10 rfl (lv_at hl 0 rfl) ?_
    refine lv_iconst (v := 1) hx hb d_Store_firstEntry_11 (by decide) ?_
    refine lv_isub hx hb d_Store_firstEntry_12 ?_
    refine lv_topi (fun x1 ex1 => ?_)
    have fx1 : x1.toInt = (p0.toInt - 1) := by rw [ex1]; exact (zt_sub (show p0.toInt = _ from rfl) tI_1 (by omega) (by omega)).trans (by omega)
    refine lv_bipush (v := 10) hx hb d_Store_firstEntry_13 (by decide) ?_
    refine lv_imul hx hb d_Store_firstEntry_15 ?_
    refine lv_topi (fun x2 ex2 => ?_)
    have fx2 : x2.toInt = (10 * p0.toInt - 10) := by rw [ex2]; exact (zt_mul fx1 tI_10 rfl (by omega) (by omega)).trans (by omega)
    refine lv_iadd hx hb d_Store_firstEntry_16 ?_
    refine lv_topi (fun x3 ex3 => ?_)
    have fx3 : x3.toInt = (10 * p0.toInt + 10) := by rw [ex3]; exact (zt_add tI_20 fx2 (by omega) (by omega)).trans (by omega)
    exact j_iret F hr hlocks hK hS () (show (p0.toInt = 0 → x3.toInt = 0) ∧ (¬ p0.toInt = 0 → x3.toInt = 10 + 10 * p0.toInt) by omega) hP hD d_Store_firstEntry_17
  · have fc1_1 : p0.toInt = 0 := zt_eq (show p0.toInt = _ from rfl) tI_0 c1_1
    refine lv_iconst (v := 0) hx hb d_Store_firstEntry_4 (by decide) ?_
    refine lv_goto (tgt := 17) hx hb d_Store_firstEntry_5 (by decide) ?_
    exact j_iret F hr hlocks hK hS () (show (p0.toInt = 0 → (0 : Int32).toInt = 0) ∧ (¬ p0.toInt = 0 → (0 : Int32).toInt = 10 + 10 * p0.toInt) by have := tI_0; omega) hP hD d_Store_firstEntry_17
theorem d_Store_hasCells_0 : decode prog_10_method_3_code 0 = .ok (.iload_n 1, 1) := by decide +kernel
theorem d_Store_hasCells_1 : decode prog_10_method_3_code 1 = .ok (.sipush 160, 3) := by decide +kernel
theorem d_Store_hasCells_4 : decode prog_10_method_3_code 4 = .ok (.aload_n 0, 1) := by decide +kernel
theorem d_Store_hasCells_5 : decode prog_10_method_3_code 5 = .ok (.getfield 14, 3) := by decide +kernel
theorem k_1_107 : Cond.fieldLink "PageScribe$Store" 14 "PageScribe$Store" "cells" "LPageScribe$Row;" ∈ gw := gw_of (tb_1 (List.mem_of_getElem? (i := 107) (by decide +kernel))) (by decide +kernel)
theorem d_Store_hasCells_8 : decode prog_10_method_3_code 8 = .ok (.getfield 43, 3) := by decide +kernel
theorem k_1_52 : Cond.fieldLink "PageScribe$Store" 43 "PageScribe$Row" "size" "I" ∈ gw := gw_of (tb_1 (List.mem_of_getElem? (i := 52) (by decide +kernel))) (by decide +kernel)
theorem d_Store_hasCells_11 : decode prog_10_method_3_code 11 = .ok (.isub, 1) := by decide +kernel
theorem d_Store_hasCells_12 : decode prog_10_method_3_code 12 = .ok (.if_icmp .gt 7, 3) := by decide +kernel
theorem d_Store_hasCells_19 : decode prog_10_method_3_code 19 = .ok (.iconst 0, 1) := by decide +kernel
theorem d_Store_hasCells_20 : decode prog_10_method_3_code 20 = .ok (.ireturn, 1) := by decide +kernel
theorem d_Store_hasCells_15 : decode prog_10_method_3_code 15 = .ok (.iconst 1, 1) := by decide +kernel
theorem d_Store_hasCells_16 : decode prog_10_method_3_code 16 = .ok (.goto 4, 3) := by decide +kernel
set_option maxHeartbeats 4000000 in
set_option maxRecDepth 100000 in
theorem c_Store_hasCells (l : Launch) (D : va_G) (T : Nat → ClassId) (ad : Nat → Nat) (S : CS) (p0 : Int32) (sz : Nat)  : Met l ⟨"PageScribe$Store", "hasCells", "(I)Z"⟩ (wy ⟨"PageScribe$Store", "hasCells", "(I)Z"⟩ prog_10_method_3_code 2 (some .boolean)) ({ frames := 0, cells := 0, slots := 0, locals := 0 }) (va_Pc [.ref (ad 12), .int p0] (Pw D T (cW T ad S) sz E0)) (va_Qi (fun (r : Int32) (u : Unit) => r.toInt = 0 ∨ r.toInt = 1) (fun u t => Bw D T (va_A (cW T ad S) sz) (cW T ad S) t) (va_A (cW T ad S) sz)) 0 0 (va_A (cW T ad S) sz) := by
  refine j_met (y := ⟨"PageScribe$Store", "hasCells", "(I)Z"⟩) (b := prog_10_method_3_code) (n := 2) (ret := (some .boolean)) (av := [.ref (ad 12), .int p0]) (Qc := fun A => va_Qi (fun (r : Int32) (u : Unit) => r.toInt = 0 ∨ r.toInt = 1) (fun u t => Bw D T A (cW T ad S) t) A) (by decide +kernel) (Nat.le_of_ble_eq_true rfl) (fun p e s m args below meth c A ls F hr hlocks hnm hK hP hD hS hA hN hE hl => ?_)
  obtain ⟨hx, hb, hml, hown, hts⟩ := id F
  have hl : lv_has ls 2 [(0, .ref (ad 12)), (1, .int p0)] := hl
  have rp0 := zt_rng p0
  refine lv_iload_n hx hb d_Store_hasCells_0 rfl (lv_at hl 1 rfl) ?_
  refine lv_sipush (v := 160) hx hb d_Store_hasCells_1 (by decide) ?_
  refine lv_aload_n hx hb d_Store_hasCells_4 rfl (lv_at hl 0 rfl) ?_
  refine va_get (D := D) (ci := 3) (v := .ref (ad 13)) (C := "PageScribe$Store") (T := F_Store) (N := 5) hx hb hts i_Store hown hK hP 12 (ce_12 _ _ _) cl_3 0 (by decide) (hts _ k_1_107) (fun _ h9 => h9) rfl d_Store_hasCells_5 ?_
  refine va_get (D := D) (ci := 4) (v := .int (f_xc0_z S)) (C := "PageScribe$Row") (T := F_Row) (N := 4) hx hb hts i_Row hown hK hP 13 (ce_13 _ _ _) cl_4 3 (by decide) (hts _ k_1_52) (fun _ h9 => h9) rfl d_Store_hasCells_8 ?_
  refine lv_isub hx hb d_Store_hasCells_11 ?_
  refine lv_topi (fun x1 ex1 => ?_)
  have rx1 := zt_rng x1
  refine lv_icmp_gt (tgt := 19) hx hb d_Store_hasCells_12 (by decide) (fun c12_1 => ?_) (fun c12_1 => ?_)
  · have fc12_1 : x1.toInt < p0.toInt := zt_lt (show x1.toInt = _ from rfl) (show p0.toInt = _ from rfl) c12_1
    refine lv_iconst (v := 0) hx hb d_Store_hasCells_19 (by decide) ?_
    exact j_zret F hr (by decide +kernel) hlocks hK hS () (show (0 : Int32).toInt = 0 ∨ (0 : Int32).toInt = 1 by have := tI_0; omega) hP hD d_Store_hasCells_20
  · have fc12_1 : p0.toInt ≤ x1.toInt := Int.not_lt.mp (zt_nlt (show x1.toInt = _ from rfl) (show p0.toInt = _ from rfl) c12_1)
    refine lv_iconst (v := 1) hx hb d_Store_hasCells_15 (by decide) ?_
    refine lv_goto (tgt := 20) hx hb d_Store_hasCells_16 (by decide) ?_
    exact j_zret F hr (by decide +kernel) hlocks hK hS () (show (1 : Int32).toInt = 0 ∨ (1 : Int32).toInt = 1 by have := tI_1; omega) hP hD d_Store_hasCells_20
theorem d_Ps_arrayOf_0 : decode prog_1_method_15_code 0 = .ok (.iload_n 0, 1) := by decide +kernel
theorem d_Ps_arrayOf_1 : decode prog_1_method_15_code 1 = .ok (.sipush 256, 3) := by decide +kernel
theorem d_Ps_arrayOf_4 : decode prog_1_method_15_code 4 = .ok (.imul, 1) := by decide +kernel
theorem d_Ps_arrayOf_5 : decode prog_1_method_15_code 5 = .ok (.iload_n 1, 1) := by decide +kernel
theorem d_Ps_arrayOf_6 : decode prog_1_method_15_code 6 = .ok (.iadd, 1) := by decide +kernel
theorem d_Ps_arrayOf_7 : decode prog_1_method_15_code 7 = .ok (.ireturn, 1) := by decide +kernel
set_option maxHeartbeats 4000000 in
set_option maxRecDepth 100000 in
theorem c_Ps_arrayOf (l : Launch) (D : va_G) (T : Nat → ClassId) (p0 : Int32) (p1 : Int32) (sz : Nat)  : Met l ⟨"PageScribe", "arrayOf", "(II)I"⟩ (wy ⟨"PageScribe", "arrayOf", "(II)I"⟩ prog_1_method_15_code 2 (some .int)) ({ frames := 0, cells := 0, slots := 0, locals := 0 }) (va_Pc [.int p0, .int p1] (Pw D T [] sz E0)) (va_Qi (fun (r : Int32) (u : Unit) => True) (fun u t => Bw D T (va_A [] sz) [] t) (va_A [] sz)) 0 0 (va_A [] sz) := by
  refine j_met (y := ⟨"PageScribe", "arrayOf", "(II)I"⟩) (b := prog_1_method_15_code) (n := 2) (ret := (some .int)) (av := [.int p0, .int p1]) (Qc := fun A => va_Qi (fun (r : Int32) (u : Unit) => True) (fun u t => Bw D T A [] t) A) (by decide +kernel) (Nat.le_of_ble_eq_true rfl) (fun p e s m args below meth c A ls F hr hlocks hnm hK hP hD hS hA hN hE hl => ?_)
  obtain ⟨hx, hb, hml, hown, hts⟩ := id F
  have hl : lv_has ls 2 [(0, .int p0), (1, .int p1)] := hl
  have rp0 := zt_rng p0
  have rp1 := zt_rng p1
  refine lv_iload_n hx hb d_Ps_arrayOf_0 rfl (lv_at hl 0 rfl) ?_
  refine lv_sipush (v := 256) hx hb d_Ps_arrayOf_1 (by decide) ?_
  refine lv_imul hx hb d_Ps_arrayOf_4 ?_
  refine lv_topi (fun x1 ex1 => ?_)
  have rx1 := zt_rng x1
  refine lv_iload_n hx hb d_Ps_arrayOf_5 rfl (lv_at hl 1 rfl) ?_
  refine lv_iadd hx hb d_Ps_arrayOf_6 ?_
  refine lv_topi (fun x2 ex2 => ?_)
  have rx2 := zt_rng x2
  exact j_iret F hr hlocks hK hS () trivial hP hD d_Ps_arrayOf_7
theorem d_Ps_firstOf_0 : decode prog_1_method_16_code 0 = .ok (.iload_n 0, 1) := by decide +kernel
theorem d_Ps_firstOf_1 : decode prog_1_method_16_code 1 = .ok (.sipush 256, 3) := by decide +kernel
theorem d_Ps_firstOf_4 : decode prog_1_method_16_code 4 = .ok (.idiv, 1) := by decide +kernel
theorem tI_256 : (256 : Int32).toInt = 256 := by decide +kernel
theorem d_Ps_firstOf_5 : decode prog_1_method_16_code 5 = .ok (.ireturn, 1) := by decide +kernel
set_option maxHeartbeats 4000000 in
set_option maxRecDepth 100000 in
theorem c_Ps_firstOf (l : Launch) (D : va_G) (T : Nat → ClassId) (p0 : Int32) (sz : Nat)  : Met l ⟨"PageScribe", "firstOf", "(I)I"⟩ (wy ⟨"PageScribe", "firstOf", "(I)I"⟩ prog_1_method_16_code 1 (some .int)) ({ frames := 0, cells := 0, slots := 0, locals := 0 }) (va_Pc [.int p0] (Pw D T [] sz E0)) (va_Qi (fun (r : Int32) (u : Unit) => True) (fun u t => Bw D T (va_A [] sz) [] t) (va_A [] sz)) 0 0 (va_A [] sz) := by
  refine j_met (y := ⟨"PageScribe", "firstOf", "(I)I"⟩) (b := prog_1_method_16_code) (n := 1) (ret := (some .int)) (av := [.int p0]) (Qc := fun A => va_Qi (fun (r : Int32) (u : Unit) => True) (fun u t => Bw D T A [] t) A) (by decide +kernel) (Nat.le_of_ble_eq_true rfl) (fun p e s m args below meth c A ls F hr hlocks hnm hK hP hD hS hA hN hE hl => ?_)
  obtain ⟨hx, hb, hml, hown, hts⟩ := id F
  have hl : lv_has ls 1 [(0, .int p0)] := hl
  have rp0 := zt_rng p0
  refine lv_iload_n hx hb d_Ps_firstOf_0 rfl (lv_at hl 0 rfl) ?_
  refine lv_sipush (v := 256) hx hb d_Ps_firstOf_1 (by decide) ?_
  refine lv_idiv hx hb d_Ps_firstOf_4 (zt_n0 tI_256 (by omega)) ?_
  refine lv_topi (fun x1 ex1 => ?_)
  have rx1 := zt_rng x1
  exact j_iret F hr hlocks hK hS () trivial hP hD d_Ps_firstOf_5
theorem d_Ps_lengthOf_0 : decode prog_1_method_17_code 0 = .ok (.iload_n 0, 1) := by decide +kernel
theorem d_Ps_lengthOf_1 : decode prog_1_method_17_code 1 = .ok (.sipush 256, 3) := by decide +kernel
theorem d_Ps_lengthOf_4 : decode prog_1_method_17_code 4 = .ok (.irem, 1) := by decide +kernel
theorem d_Ps_lengthOf_5 : decode prog_1_method_17_code 5 = .ok (.ireturn, 1) := by decide +kernel
set_option maxHeartbeats 4000000 in
set_option maxRecDepth 100000 in
theorem c_Ps_lengthOf (l : Launch) (D : va_G) (T : Nat → ClassId) (p0 : Int32) (sz : Nat)  : Met l ⟨"PageScribe", "lengthOf", "(I)I"⟩ (wy ⟨"PageScribe", "lengthOf", "(I)I"⟩ prog_1_method_17_code 1 (some .int)) ({ frames := 0, cells := 0, slots := 0, locals := 0 }) (va_Pc [.int p0] (Pw D T [] sz E0)) (va_Qi (fun (r : Int32) (u : Unit) => True) (fun u t => Bw D T (va_A [] sz) [] t) (va_A [] sz)) 0 0 (va_A [] sz) := by
  refine j_met (y := ⟨"PageScribe", "lengthOf", "(I)I"⟩) (b := prog_1_method_17_code) (n := 1) (ret := (some .int)) (av := [.int p0]) (Qc := fun A => va_Qi (fun (r : Int32) (u : Unit) => True) (fun u t => Bw D T A [] t) A) (by decide +kernel) (Nat.le_of_ble_eq_true rfl) (fun p e s m args below meth c A ls F hr hlocks hnm hK hP hD hS hA hN hE hl => ?_)
  obtain ⟨hx, hb, hml, hown, hts⟩ := id F
  have hl : lv_has ls 1 [(0, .int p0)] := hl
  have rp0 := zt_rng p0
  refine lv_iload_n hx hb d_Ps_lengthOf_0 rfl (lv_at hl 0 rfl) ?_
  refine lv_sipush (v := 256) hx hb d_Ps_lengthOf_1 (by decide) ?_
  refine lv_irem hx hb d_Ps_lengthOf_4 (zt_n0 tI_256 (by omega)) ?_
  refine lv_topi (fun x1 ex1 => ?_)
  have rx1 := zt_rng x1
  exact j_iret F hr hlocks hK hS () trivial hP hD d_Ps_lengthOf_5
theorem d_Ps_endOf_0 : decode prog_1_method_18_code 0 = .ok (.iload_n 0, 1) := by decide +kernel
theorem d_Ps_endOf_1 : decode prog_1_method_18_code 1 = .ok (.sipush 256, 3) := by decide +kernel
theorem d_Ps_endOf_4 : decode prog_1_method_18_code 4 = .ok (.irem, 1) := by decide +kernel
theorem d_Ps_endOf_5 : decode prog_1_method_18_code 5 = .ok (.istore_n 1, 1) := by decide +kernel
theorem d_Ps_endOf_6 : decode prog_1_method_18_code 6 = .ok (.iload_n 1, 1) := by decide +kernel
theorem d_Ps_endOf_7 : decode prog_1_method_18_code 7 = .ok (.ifCond .ne 7, 3) := by decide +kernel
theorem d_Ps_endOf_14 : decode prog_1_method_18_code 14 = .ok (.iload_n 0, 1) := by decide +kernel
theorem d_Ps_endOf_15 : decode prog_1_method_18_code 15 = .ok (.sipush 256, 3) := by decide +kernel
theorem d_Ps_endOf_18 : decode prog_1_method_18_code 18 = .ok (.idiv, 1) := by decide +kernel
theorem d_Ps_endOf_19 : decode prog_1_method_18_code 19 = .ok (.iload_n 1, 1) := by decide +kernel
theorem d_Ps_endOf_20 : decode prog_1_method_18_code 20 = .ok (.iadd, 1) := by decide +kernel
theorem d_Ps_endOf_21 : decode prog_1_method_18_code 21 = .ok (.ireturn, 1) := by decide +kernel
theorem d_Ps_endOf_10 : decode prog_1_method_18_code 10 = .ok (.iconst 0, 1) := by decide +kernel
theorem d_Ps_endOf_11 : decode prog_1_method_18_code 11 = .ok (.goto 10, 3) := by decide +kernel
set_option maxHeartbeats 4000000 in
set_option maxRecDepth 100000 in
theorem c_Ps_endOf (l : Launch) (D : va_G) (T : Nat → ClassId) (p0 : Int32) (sz : Nat)  : Met l ⟨"PageScribe", "endOf", "(I)I"⟩ (wy ⟨"PageScribe", "endOf", "(I)I"⟩ prog_1_method_18_code 2 (some .int)) ({ frames := 0, cells := 0, slots := 0, locals := 0 }) (va_Pc [.int p0] (Pw D T [] sz E0)) (va_Qi (fun (r : Int32) (u : Unit) => True) (fun u t => Bw D T (va_A [] sz) [] t) (va_A [] sz)) 0 0 (va_A [] sz) := by
  refine j_met (y := ⟨"PageScribe", "endOf", "(I)I"⟩) (b := prog_1_method_18_code) (n := 2) (ret := (some .int)) (av := [.int p0]) (Qc := fun A => va_Qi (fun (r : Int32) (u : Unit) => True) (fun u t => Bw D T A [] t) A) (by decide +kernel) (Nat.le_of_ble_eq_true rfl) (fun p e s m args below meth c A ls F hr hlocks hnm hK hP hD hS hA hN hE hl => ?_)
  obtain ⟨hx, hb, hml, hown, hts⟩ := id F
  have hl : lv_has ls 2 [(0, .int p0)] := hl
  have rp0 := zt_rng p0
  refine lv_iload_n hx hb d_Ps_endOf_0 rfl (lv_at hl 0 rfl) ?_
  refine lv_sipush (v := 256) hx hb d_Ps_endOf_1 (by decide) ?_
  refine lv_irem hx hb d_Ps_endOf_4 (zt_n0 tI_256 (by omega)) ?_
  refine lv_topi (fun x1 ex1 => ?_)
  have rx1 := zt_rng x1
  refine lv_istore_n (lv' := [(1, .int x1), (0, .int p0)]) hx hb d_Ps_endOf_5 rfl hl (by decide) rfl (fun ls hl => ?_)
  refine lv_iload_n hx hb d_Ps_endOf_6 rfl (lv_at hl 0 rfl) ?_
  refine lv_if_ne (tgt := 14) hx hb d_Ps_endOf_7 (by decide) (fun c7_1 => ?_) (fun c7_1 => ?_)
  · first | have fc7_1 : x1.toInt < 0 := (by have := zt_ne (show x1.toInt = _ from rfl) tI_0 c7_1; omega) | have fc7_1 : 0 < x1.toInt := (by have := zt_ne (show x1.toInt = _ from rfl) tI_0 c7_1; omega) | skip
    refine lv_iload_n hx hb d_Ps_endOf_14 rfl (lv_at hl 1 rfl) ?_
    refine lv_sipush (v := 256) hx hb d_Ps_endOf_15 (by decide) ?_
    refine lv_idiv hx hb d_Ps_endOf_18 (zt_n0 tI_256 (by omega)) ?_
    refine lv_topi (fun x2 ex2 => ?_)
    have rx2 := zt_rng x2
    refine lv_iload_n hx hb d_Ps_endOf_19 rfl (lv_at hl 0 rfl) ?_
    refine lv_iadd hx hb d_Ps_endOf_20 ?_
    refine lv_topi (fun x3 ex3 => ?_)
    have rx3 := zt_rng x3
    exact j_iret F hr hlocks hK hS () trivial hP hD d_Ps_endOf_21
  · have fc7_1 : x1.toInt = 0 := zt_eq (show x1.toInt = _ from rfl) tI_0 c7_1
    refine lv_iconst (v := 0) hx hb d_Ps_endOf_10 (by decide) ?_
    refine lv_goto (tgt := 21) hx hb d_Ps_endOf_11 (by decide) ?_
    exact j_iret F hr hlocks hK hS () trivial hP hD d_Ps_endOf_21
theorem d_Store_newArray_0 : decode prog_10_method_4_code 0 = .ok (.aload_n 0, 1) := by decide +kernel
theorem d_Store_newArray_1 : decode prog_10_method_4_code 1 = .ok (.iload_n 3, 1) := by decide +kernel
theorem d_Store_newArray_2 : decode prog_10_method_4_code 2 = .ok (.invokevirtual 47, 3) := by decide +kernel
theorem k_3_90 : Cond.code ⟨"PageScribe$Store", "hasCells", "(I)Z"⟩ prog_10_method_3_code 2 (some .boolean) ∈ gw := gw_of (tb_3 (List.mem_of_getElem? (i := 90) (by decide +kernel))) (by decide +kernel)
theorem k_1_6 : Cond.initialized "PageScribe$Store" ∈ gw := gw_of (tb_1 (List.mem_of_getElem? (i := 6) (by decide +kernel))) (by decide +kernel)
theorem k_3_87 : Cond.methodLink "PageScribe$Store" 47 ⟨"PageScribe$Store", "hasCells", "(I)Z"⟩ ∈ gw := gw_of (tb_3 (List.mem_of_getElem? (i := 87) (by decide +kernel))) (by decide +kernel)
theorem k_3_88 : Cond.instanceMethod ⟨"PageScribe$Store", "hasCells", "(I)Z"⟩ ∈ gw := gw_of (tb_3 (List.mem_of_getElem? (i := 88) (by decide +kernel))) (by decide +kernel)
theorem k_3_89 : Cond.selects "PageScribe$Store" ⟨"PageScribe$Store", "hasCells", "(I)Z"⟩ ⟨"PageScribe$Store", "hasCells", "(I)Z"⟩ ∈ gw := gw_of (tb_3 (List.mem_of_getElem? (i := 89) (by decide +kernel))) (by decide +kernel)
theorem d_Store_newArray_5 : decode prog_10_method_4_code 5 = .ok (.ifCond .ne 5, 3) := by decide +kernel
theorem d_Store_newArray_10 : decode prog_10_method_4_code 10 = .ok (.aload_n 0, 1) := by decide +kernel
theorem d_Store_newArray_11 : decode prog_10_method_4_code 11 = .ok (.getfield 14, 3) := by decide +kernel
theorem d_Store_newArray_14 : decode prog_10_method_4_code 14 = .ok (.getfield 43, 3) := by decide +kernel
theorem d_Store_newArray_17 : decode prog_10_method_4_code 17 = .ok (.istore 4, 2) := by decide +kernel
theorem d_Store_newArray_19 : decode prog_10_method_4_code 19 = .ok (.iconst 0, 1) := by decide +kernel
theorem d_Store_newArray_20 : decode prog_10_method_4_code 20 = .ok (.istore 5, 2) := by decide +kernel
theorem d_Store_newArray_22 : decode prog_10_method_4_code 22 = .ok (.iload 5, 2) := by decide +kernel
theorem d_Store_newArray_24 : decode prog_10_method_4_code 24 = .ok (.iload_n 3, 1) := by decide +kernel
theorem d_Store_newArray_25 : decode prog_10_method_4_code 25 = .ok (.if_icmp .ge 22, 3) := by decide +kernel
theorem d_Store_newArray_47 : decode prog_10_method_4_code 47 = .ok (.iload 4, 2) := by decide +kernel
theorem d_Store_newArray_49 : decode prog_10_method_4_code 49 = .ok (.iload_n 3, 1) := by decide +kernel
theorem d_Store_newArray_50 : decode prog_10_method_4_code 50 = .ok (.invokestatic 55, 3) := by decide +kernel
theorem k_3_108 : Cond.code ⟨"PageScribe", "arrayOf", "(II)I"⟩ prog_1_method_15_code 2 (some .int) ∈ gw := gw_of (tb_3 (List.mem_of_getElem? (i := 108) (by decide +kernel))) (by decide +kernel)
theorem k_1_1 : Cond.initialized "PageScribe" ∈ gw := gw_of (tb_1 (List.mem_of_getElem? (i := 1) (by decide +kernel))) (by decide +kernel)
theorem k_3_107 : Cond.static ⟨"PageScribe", "arrayOf", "(II)I"⟩ ∈ gw := gw_of (tb_3 (List.mem_of_getElem? (i := 107) (by decide +kernel))) (by decide +kernel)
theorem d_Store_newArray_53 : decode prog_10_method_4_code 53 = .ok (.ireturn, 1) := by decide +kernel
theorem d_Store_newArray_28 : decode prog_10_method_4_code 28 = .ok (.aload_n 0, 1) := by decide +kernel
theorem d_Store_newArray_29 : decode prog_10_method_4_code 29 = .ok (.getfield 14, 3) := by decide +kernel
theorem d_Store_newArray_32 : decode prog_10_method_4_code 32 = .ok (.aload_n 1, 1) := by decide +kernel
theorem d_Store_newArray_33 : decode prog_10_method_4_code 33 = .ok (.iload_n 2, 1) := by decide +kernel
theorem d_Store_newArray_34 : decode prog_10_method_4_code 34 = .ok (.iload 5, 2) := by decide +kernel
theorem d_Store_newArray_36 : decode prog_10_method_4_code 36 = .ok (.iadd, 1) := by decide +kernel
theorem d_Store_newArray_37 : decode prog_10_method_4_code 37 = .ok (.invokevirtual 51, 3) := by decide +kernel
theorem k_3_91 : Cond.methodLink "PageScribe$Store" 51 ⟨"PageScribe$Row", "pushFrom", "(LPageScribe$Row;I)I"⟩ ∈ gw := gw_of (tb_3 (List.mem_of_getElem? (i := 91) (by decide +kernel))) (by decide +kernel)
theorem k_3_93 : Cond.selects "PageScribe$Row" ⟨"PageScribe$Row", "pushFrom", "(LPageScribe$Row;I)I"⟩ ⟨"PageScribe$Row", "pushFrom", "(LPageScribe$Row;I)I"⟩ ∈ gw := gw_of (tb_3 (List.mem_of_getElem? (i := 93) (by decide +kernel))) (by decide +kernel)
theorem d_Store_newArray_40 : decode prog_10_method_4_code 40 = .ok (.pop, 1) := by decide +kernel
theorem d_Store_newArray_41 : decode prog_10_method_4_code 41 = .ok (.iinc 5 1, 3) := by decide +kernel
theorem d_Store_newArray_44 : decode prog_10_method_4_code 44 = .ok (.goto (-22), 3) := by decide +kernel
theorem d_Store_newArray_8 : decode prog_10_method_4_code 8 = .ok (.iconst (-1), 1) := by decide +kernel
theorem d_Store_newArray_9 : decode prog_10_method_4_code 9 = .ok (.ireturn, 1) := by decide +kernel
set_option maxHeartbeats 4000000 in
set_option maxRecDepth 100000 in
theorem c_Store_newArray_62 (l : Launch) (D : va_G) (T : Nat → ClassId) (ad : Nat → Nat) (g : GE) (Bq : Nat → Prop) (S : CS) (p0 : Int32) (p1 : Int32) (sz : Nat)  (hI : CIv S) : Met l ⟨"PageScribe$Store", "newArray", "(LPageScribe$Row;II)I"⟩ (wy ⟨"PageScribe$Store", "newArray", "(LPageScribe$Row;II)I"⟩ prog_10_method_4_code 6 (some .int)) ({ frames := 2, cells := 0, slots := 0, locals := 140 }) (va_Pc [.ref (ad 12), .ref (ad 62), .int p0, .int p1] (Pw D T (cW T ad S) sz (EC g Bq ad))) (va_Qi (fun (r : Int32) (u : CS) => CIv u ∧ kcL S u ∧ kcP S u ∧ kcU S u ∧ kcW S u) (fun u t => Bw D T (va_A (cW T ad S) sz) (cW T ad u) t) (va_A (cW T ad S) sz)) 0 0 (va_A (cW T ad S) sz) := by
  refine j_met (y := ⟨"PageScribe$Store", "newArray", "(LPageScribe$Row;II)I"⟩) (b := prog_10_method_4_code) (n := 6) (ret := (some .int)) (av := [.ref (ad 12), .ref (ad 62), .int p0, .int p1]) (Qc := fun A => va_Qi (fun (r : Int32) (u : CS) => CIv u ∧ kcL S u ∧ kcP S u ∧ kcU S u ∧ kcW S u) (fun u t => Bw D T A (cW T ad u) t) A) (by decide +kernel) (Nat.le_of_ble_eq_true rfl) (fun p e s m args below meth c A ls F hr hlocks hnm hK hP hD hS hA hN hE hl => ?_)
  obtain ⟨hx, hb, hml, hown, hts⟩ := id F
  have hl : lv_has ls 6 [(0, .ref (ad 12)), (1, .ref (ad 62)), (2, .int p0), (3, .int p1)] := hl
  obtain ⟨i_vst, i_vc0, i_vc1, i_vc2, i_vc3, i_vv0, i_vv1, i_vv2, i_vv3, i_vg, i_wct, i_wln, i_sd0, i_sd1, i_sd2, i_sd3, i_rln, i_rtx, i_rpl, i_rtk, i_cnv, i_pts, i_cik, i_und⟩ := id hI
  have hAB : ∀ q, A q → Bq q := EC.ab hE hN
  have hEV := hE.1.narrow hAB
  have rp0 := zt_rng p0
  have rp1 := zt_rng p1
  refine lv_aload_n hx hb d_Store_newArray_0 rfl (lv_at hl 0 rfl) ?_
  refine lv_iload_n hx hb d_Store_newArray_1 rfl (lv_at hl 3 rfl) ?_
  refine jc_ci (w := (fun _ => S)) hK hP hD hS hA (va_runV (As := [.int p1]) (rest := []) F (c_Store_hasCells l D T ad S p1  s.heap.size) (j_cV (k := 1) (C := "PageScribe$Store") hts k_3_90 k_1_6 k_3_87 k_3_88 k_3_89 (by decide +kernel) ⟨Nat.le_of_ble_eq_true rfl, Nat.le_of_ble_eq_true rfl⟩) (j_preV (q0 := 12) (ci := 3) hK hP hD csc csc_all csc_nd cl_3 (ce_12 _ _ _) (fun _ _ _ _ h => h) (fun _ _ _ => trivial)) rfl rfl hl.1 rfl (lv_room (Nat.le_of_ble_eq_true rfl)) d_Store_newArray_2 ⟨Nat.le_of_ble_eq_true rfl, Nat.le_of_ble_eq_true rfl⟩) (fun rv1 u1 H locs hw1 hP hD hS => ?_)
  have hP : va_P D classes (cW T ad S) H := hP
  have hD : va_D A (cW T ad S) := hD
  have qhw1 : rv1.toInt = 0 ∨ rv1.toInt = 1 := hw1
  have rrv1 := zt_rng rv1
  refine lv_if_ne (tgt := 10) hx hb d_Store_newArray_5 (by decide) (fun c5_1 => ?_) (fun c5_1 => ?_)
  · first | have fc5_1 : rv1.toInt < 0 := (by have := zt_ne (show rv1.toInt = _ from rfl) tI_0 c5_1; omega) | have fc5_1 : 0 < rv1.toInt := (by have := zt_ne (show rv1.toInt = _ from rfl) tI_0 c5_1; omega) | skip
    refine lv_aload_n hx hb d_Store_newArray_10 rfl (lv_at hl 0 rfl) ?_
    refine va_get (D := D) (ci := 3) (v := .ref (ad 13)) (C := "PageScribe$Store") (T := F_Store) (N := 5) hx hb hts i_Store hown hK hP 12 (ce_12 _ _ _) cl_3 0 (by decide) (hts _ k_1_107) (fun _ h9 => h9) rfl d_Store_newArray_11 ?_
    refine va_get (D := D) (ci := 4) (v := .int (f_xc0_z S)) (C := "PageScribe$Row") (T := F_Row) (N := 4) hx hb hts i_Row hown hK hP 13 (ce_13 _ _ _) cl_4 3 (by decide) (hts _ k_1_52) (fun _ h9 => h9) rfl d_Store_newArray_14 ?_
    refine lv_istore (lv' := [(4, .int (f_xc0_z S)), (0, .ref (ad 12)), (1, .ref (ad 62)), (2, .int p0), (3, .int p1)]) hx hb d_Store_newArray_17 hl (by decide) rfl (fun ls hl => ?_)
    refine lv_iconst (v := 0) hx hb d_Store_newArray_19 (by decide) ?_
    refine lv_istore (lv' := [(5, .int 0), (4, .int (f_xc0_z S)), (0, .ref (ad 12)), (1, .ref (ad 62)), (2, .int p0), (3, .int p1)]) hx hb d_Store_newArray_20 hl (by decide) rfl (fun ls hl => ?_)
    refine j_loop (α := CS × Int32) (fun k x H locs ls => (0 ≤ x.2.toInt ∧ p1.toInt ≤ x.2.toInt + ((k : Nat) : Int)) ∧ CIv x.1 ∧ kcL S x.1 ∧ kcP S x.1 ∧ kcU S x.1 ∧ kcW S x.1 ∧ va_P D classes (cW T ad x.1) H ∧ va_D A (cW T ad x.1) ∧ va_S A s.heap H locs ∧ lv_has ls 6 [(5, .int x.2), (4, .int (f_xc0_z S)), (0, .ref (ad 12)), (1, .ref (ad 62)), (2, .int p0), (3, .int p1)]) (fun _ _ ls => F0 m 22 ls []) (fun k x H locs ls hI9 ih => ?_) p1.toInt.toNat (S, (0 : Int32)) _ _ _ ⟨(show 0 ≤ (0 : Int32).toInt ∧ p1.toInt ≤ (0 : Int32).toInt + ((p1.toInt.toNat : Nat) : Int) by have := tI_0; omega), ⟨i_vst, i_vc0, i_vc1, i_vc2, i_vc3, i_vv0, i_vv1, i_vv2, i_vv3, i_vg, i_wct, i_wln, i_sd0, i_sd1, i_sd2, i_sd3, i_rln, i_rtx, i_rpl, i_rtk, i_cnv, i_pts, i_cik, i_und⟩, (show kcL S S from (kcL_r S)), (show kcP S S from (kcP_r S)), (show kcU S S from (kcU_r S)), (show kcW S S from (kcW_r S)), hP, hD, hS, lv_sub hl [0, 1, 2, 3, 4, 5] rfl⟩
    obtain ⟨S1, i⟩ := x
    obtain ⟨hf1, hIx, klcL_S1, klcP_S1, klcU_S1, klcW_S1, hP, hD, hS, hl⟩ := hI9
    obtain ⟨i_vst, i_vc0, i_vc1, i_vc2, i_vc3, i_vv0, i_vv1, i_vv2, i_vv3, i_vg, i_wct, i_wln, i_sd0, i_sd1, i_sd2, i_sd3, i_rln, i_rtx, i_rpl, i_rtk, i_cnv, i_pts, i_cik, i_und⟩ := (show CIv S1 from hIx)
    have klcL_S1 : kcL S S1 := klcL_S1
    have klcP_S1 : kcP S S1 := klcP_S1
    have klcU_S1 : kcU S S1 := klcU_S1
    have klcW_S1 : kcW S S1 := klcW_S1
    have hf1 : 0 ≤ i.toInt ∧ p1.toInt ≤ i.toInt + ((k : Nat) : Int) := hf1
    have hP : va_P D classes (cW T ad S1) H := hP
    have hD : va_D A (cW T ad S1) := hD
    have hl : lv_has ls 6 [(5, .int i), (4, .int (f_xc0_z S)), (0, .ref (ad 12)), (1, .ref (ad 62)), (2, .int p0), (3, .int p1)] := hl
    refine lv_iload hx hb d_Store_newArray_22 (lv_at hl 0 rfl) ?_
    refine lv_iload_n hx hb d_Store_newArray_24 rfl (lv_at hl 5 rfl) ?_
    refine lv_icmp_ge (tgt := 47) hx hb d_Store_newArray_25 (by decide) (fun c25_1 => ?_) (fun c25_1 => ?_)
    · have fc25_1 : p1.toInt ≤ i.toInt := zt_le (show p1.toInt = _ from rfl) (show i.toInt = _ from rfl) c25_1
      refine lv_iload hx hb d_Store_newArray_47 (lv_at hl 1 rfl) ?_
      refine lv_iload_n hx hb d_Store_newArray_49 rfl (lv_at hl 5 rfl) ?_
      refine j_ci (wc := []) (wr := (cW T ad S1)) hK hP hD hS hA [] csc rfl csc_all csc_nd (fun _ _ => List.not_mem_nil) (va_runSN (As := [.int (f_xc0_z S), .int p1]) (rest := []) F (c_Ps_arrayOf l D T (f_xc0_z S) p1  H.size) (j_cSN (k := 2) hts k_3_108 k_1_1 (hE.2.2.2 (Cond.methodLinkNest "PageScribe$Store" 55 ⟨"PageScribe", "arrayOf", "(II)I"⟩ "PageScribe") (List.mem_of_getElem? (i := 2) rfl)) k_3_107 (by decide +kernel) ⟨Nat.le_of_ble_eq_true rfl, Nat.le_of_ble_eq_true rfl⟩) (j_preS hK hP hD [] rfl (by decide) (fun _ _ _ _ h => h) (fun _ _ _ => trivial)) rfl rfl hl.1 rfl (lv_room (Nat.le_of_ble_eq_true rfl)) d_Store_newArray_50 ⟨Nat.le_of_ble_eq_true rfl, Nat.le_of_ble_eq_true rfl⟩) (fun rv2 u2 H locs hw2 hP hD hS => ?_)
      have hP : va_P D classes (cW T ad S1) H := hP
      have hD : va_D A (cW T ad S1) := hD
      have rrv2 := zt_rng rv2
      exact j_iret F hr hlocks hK hS S1 ⟨⟨i_vst, i_vc0, i_vc1, i_vc2, i_vc3, i_vv0, i_vv1, i_vv2, i_vv3, i_vg, i_wct, i_wln, i_sd0, i_sd1, i_sd2, i_sd3, i_rln, i_rtx, i_rpl, i_rtk, i_cnv, i_pts, i_cik, i_und⟩, klcL_S1, klcP_S1, klcU_S1, klcW_S1⟩ hP hD d_Store_newArray_53
    · have fc25_1 : i.toInt < p1.toInt := Int.not_le.mp (zt_nle (show p1.toInt = _ from rfl) (show i.toInt = _ from rfl) c25_1)
      refine lv_aload_n hx hb d_Store_newArray_28 rfl (lv_at hl 2 rfl) ?_
      refine va_get (D := D) (ci := 3) (v := .ref (ad 13)) (C := "PageScribe$Store") (T := F_Store) (N := 5) hx hb hts i_Store hown hK hP 12 (ce_12 _ _ _) cl_3 0 (by decide) (hts _ k_1_107) (fun _ h9 => h9) rfl d_Store_newArray_29 ?_
      refine lv_aload_n hx hb d_Store_newArray_32 rfl (lv_at hl 3 rfl) ?_
      refine lv_iload_n hx hb d_Store_newArray_33 rfl (lv_at hl 4 rfl) ?_
      refine lv_iload hx hb d_Store_newArray_34 (lv_at hl 0 rfl) ?_
      refine lv_iadd hx hb d_Store_newArray_36 ?_
      refine lv_topi (fun x1 ex1 => ?_)
      have rx1 := zt_rng x1
      refine jc_ci (w := (fun u => u)) hK hP hD hS hA (va_runV (As := [.ref (ad 62), .int x1]) (rest := []) F (c_Row_pushFrom_13_62 l D T ad S1 x1  H.size ⟨i_vst, i_vc0, i_vc1, i_vc2, i_vc3, i_vv0, i_vv1, i_vv2, i_vv3, i_vg, i_wct, i_wln, i_sd0, i_sd1, i_sd2, i_sd3, i_rln, i_rtx, i_rpl, i_rtk, i_cnv, i_pts, i_cik, i_und⟩) (j_cV (k := 2) (C := "PageScribe$Row") hts k_3_96 k_1_2 k_3_91 k_3_92 k_3_93 (by decide +kernel) ⟨Nat.le_of_ble_eq_true rfl, Nat.le_of_ble_eq_true rfl⟩) (j_preV (q0 := 13) (ci := 4) hK hP hD csc csc_all csc_nd cl_4 (ce_13 _ _ _) (fun _ _ _ _ h => h) (fun _ _ _ => trivial)) rfl rfl hl.1 rfl (lv_room (Nat.le_of_ble_eq_true rfl)) d_Store_newArray_37 ⟨Nat.le_of_ble_eq_true rfl, Nat.le_of_ble_eq_true rfl⟩) (fun rv3 S2 H locs hw3 hP hD hS => ?_)
      have hP : va_P D classes (cW T ad S2) H := hP
      have hD : va_D A (cW T ad S2) := hD
      obtain ⟨⟨i_vst, i_vc0, i_vc1, i_vc2, i_vc3, i_vv0, i_vv1, i_vv2, i_vv3, i_vg, i_wct, i_wln, i_sd0, i_sd1, i_sd2, i_sd3, i_rln, i_rtx, i_rpl, i_rtk, i_cnv, i_pts, i_cik, i_und⟩, kpcL_S2, kpcP_S2, kpcU_S2, kpcW_S2⟩ := hw3
      have kScL_S2 : kcL S S2 := kcL_t (show kcL S S1 from klcL_S1) kpcL_S2
      have kScP_S2 : kcP S S2 := kcP_t (show kcP S S1 from klcP_S1) kpcP_S2
      have kScU_S2 : kcU S S2 := kcU_t (show kcU S S1 from klcU_S1) kpcU_S2
      have kScW_S2 : kcW S S2 := kcW_t (show kcW S S1 from klcW_S1) kpcW_S2
      have nxr_length_S2 : (f_xr_length S2).toInt = (f_xr_length S1).toInt := congrArg Int32.toInt kpcL_S2
      have nxr_length_S2 : (f_xr_length S2).toInt = (f_xr_length S1).toInt := congrArg Int32.toInt kpcP_S2.1
      have nxr_place_S2 : (f_xr_place S2).toInt = (f_xr_place S1).toInt := congrArg Int32.toInt kpcP_S2.2.1
      have nxe_underWay_S2 : (f_xe_underWay S2).toInt = (f_xe_underWay S1).toInt := congrArg Int32.toInt kpcU_S2
      have nxp_columns_S2 : (f_xp_columns S2).toInt = (f_xp_columns S1).toInt := congrArg Int32.toInt kpcW_S2.1
      have nxp_rows_S2 : (f_xp_rows S2).toInt = (f_xp_rows S1).toInt := congrArg Int32.toInt kpcW_S2.2
      have rrv3 := zt_rng rv3
      refine lv_pop hx hb d_Store_newArray_40 rfl ?_
      refine lv_iinc (v := (i + 1)) (lv' := [(5, .int (i + 1)), (4, .int (f_xc0_z S)), (0, .ref (ad 12)), (1, .ref (ad 62)), (2, .int p0), (3, .int p1)]) hx hb d_Store_newArray_41 hl (k := 0) rfl (by first | rfl | decide) (by decide) rfl (fun ls hl => ?_)
      obtain ⟨x2, ex2⟩ : ∃ z, z = (i + 1) := ⟨_, rfl⟩
      rw [← ex2] at hl
      have fx2 : x2.toInt = (i.toInt + 1) := by rw [ex2]; exact (zt_add (show i.toInt = _ from rfl) tI_1 (by omega) (by omega)).trans (by omega)
      have hl : lv_has ls 6 [(5, .int x2), (4, .int (f_xc0_z S)), (0, .ref (ad 12)), (1, .ref (ad 62)), (2, .int p0), (3, .int p1)] := hl
      refine lv_goto (tgt := 22) hx hb d_Store_newArray_44 (by decide) ?_
      exact ih (k - 1) (S2, x2) _ _ _ (by omega) ⟨(show 0 ≤ x2.toInt ∧ p1.toInt ≤ x2.toInt + (((k - 1) : Nat) : Int) by omega), ⟨i_vst, i_vc0, i_vc1, i_vc2, i_vc3, i_vv0, i_vv1, i_vv2, i_vv3, i_vg, i_wct, i_wln, i_sd0, i_sd1, i_sd2, i_sd3, i_rln, i_rtx, i_rpl, i_rtk, i_cnv, i_pts, i_cik, i_und⟩, (show kcL S S2 from kScL_S2), (show kcP S S2 from kScP_S2), (show kcU S S2 from kScU_S2), (show kcW S S2 from kScW_S2), hP, hD, hS, lv_sub hl [0, 1, 2, 3, 4, 5] rfl⟩
  · have fc5_1 : rv1.toInt = 0 := zt_eq (show rv1.toInt = _ from rfl) tI_0 c5_1
    refine lv_iconst (v := (-1)) hx hb d_Store_newArray_8 (by decide) ?_
    exact j_iret F hr hlocks hK hS S ⟨⟨i_vst, i_vc0, i_vc1, i_vc2, i_vc3, i_vv0, i_vv1, i_vv2, i_vv3, i_vg, i_wct, i_wln, i_sd0, i_sd1, i_sd2, i_sd3, i_rln, i_rtx, i_rpl, i_rtk, i_cnv, i_pts, i_cik, i_und⟩, (kcL_r S), (kcP_r S), (kcU_r S), (kcW_r S)⟩ hP hD d_Store_newArray_9
set_option maxHeartbeats 4000000 in
set_option maxRecDepth 100000 in
theorem c_Store_newArray_1 (l : Launch) (D : va_G) (T : Nat → ClassId) (ad : Nat → Nat) (g : GE) (Bq : Nat → Prop) (S : CS) (p0 : Int32) (p1 : Int32) (sz : Nat)  (hI : CIv S) : Met l ⟨"PageScribe$Store", "newArray", "(LPageScribe$Row;II)I"⟩ (wy ⟨"PageScribe$Store", "newArray", "(LPageScribe$Row;II)I"⟩ prog_10_method_4_code 6 (some .int)) ({ frames := 2, cells := 0, slots := 0, locals := 140 }) (va_Pc [.ref (ad 12), .ref (ad 1), .int p0, .int p1] (Pw D T (cW T ad S) sz (EC g Bq ad))) (va_Qi (fun (r : Int32) (u : CS) => CIv u ∧ kcL S u ∧ kcP S u ∧ kcU S u ∧ kcW S u) (fun u t => Bw D T (va_A (cW T ad S) sz) (cW T ad u) t) (va_A (cW T ad S) sz)) 0 0 (va_A (cW T ad S) sz) := by
  refine j_met (y := ⟨"PageScribe$Store", "newArray", "(LPageScribe$Row;II)I"⟩) (b := prog_10_method_4_code) (n := 6) (ret := (some .int)) (av := [.ref (ad 12), .ref (ad 1), .int p0, .int p1]) (Qc := fun A => va_Qi (fun (r : Int32) (u : CS) => CIv u ∧ kcL S u ∧ kcP S u ∧ kcU S u ∧ kcW S u) (fun u t => Bw D T A (cW T ad u) t) A) (by decide +kernel) (Nat.le_of_ble_eq_true rfl) (fun p e s m args below meth c A ls F hr hlocks hnm hK hP hD hS hA hN hE hl => ?_)
  obtain ⟨hx, hb, hml, hown, hts⟩ := id F
  have hl : lv_has ls 6 [(0, .ref (ad 12)), (1, .ref (ad 1)), (2, .int p0), (3, .int p1)] := hl
  obtain ⟨i_vst, i_vc0, i_vc1, i_vc2, i_vc3, i_vv0, i_vv1, i_vv2, i_vv3, i_vg, i_wct, i_wln, i_sd0, i_sd1, i_sd2, i_sd3, i_rln, i_rtx, i_rpl, i_rtk, i_cnv, i_pts, i_cik, i_und⟩ := id hI
  have hAB : ∀ q, A q → Bq q := EC.ab hE hN
  have hEV := hE.1.narrow hAB
  have rp0 := zt_rng p0
  have rp1 := zt_rng p1
  refine lv_aload_n hx hb d_Store_newArray_0 rfl (lv_at hl 0 rfl) ?_
  refine lv_iload_n hx hb d_Store_newArray_1 rfl (lv_at hl 3 rfl) ?_
  refine jc_ci (w := (fun _ => S)) hK hP hD hS hA (va_runV (As := [.int p1]) (rest := []) F (c_Store_hasCells l D T ad S p1  s.heap.size) (j_cV (k := 1) (C := "PageScribe$Store") hts k_3_90 k_1_6 k_3_87 k_3_88 k_3_89 (by decide +kernel) ⟨Nat.le_of_ble_eq_true rfl, Nat.le_of_ble_eq_true rfl⟩) (j_preV (q0 := 12) (ci := 3) hK hP hD csc csc_all csc_nd cl_3 (ce_12 _ _ _) (fun _ _ _ _ h => h) (fun _ _ _ => trivial)) rfl rfl hl.1 rfl (lv_room (Nat.le_of_ble_eq_true rfl)) d_Store_newArray_2 ⟨Nat.le_of_ble_eq_true rfl, Nat.le_of_ble_eq_true rfl⟩) (fun rv1 u1 H locs hw1 hP hD hS => ?_)
  have hP : va_P D classes (cW T ad S) H := hP
  have hD : va_D A (cW T ad S) := hD
  have qhw1 : rv1.toInt = 0 ∨ rv1.toInt = 1 := hw1
  have rrv1 := zt_rng rv1
  refine lv_if_ne (tgt := 10) hx hb d_Store_newArray_5 (by decide) (fun c5_1 => ?_) (fun c5_1 => ?_)
  · first | have fc5_1 : rv1.toInt < 0 := (by have := zt_ne (show rv1.toInt = _ from rfl) tI_0 c5_1; omega) | have fc5_1 : 0 < rv1.toInt := (by have := zt_ne (show rv1.toInt = _ from rfl) tI_0 c5_1; omega) | skip
    refine lv_aload_n hx hb d_Store_newArray_10 rfl (lv_at hl 0 rfl) ?_
    refine va_get (D := D) (ci := 3) (v := .ref (ad 13)) (C := "PageScribe$Store") (T := F_Store) (N := 5) hx hb hts i_Store hown hK hP 12 (ce_12 _ _ _) cl_3 0 (by decide) (hts _ k_1_107) (fun _ h9 => h9) rfl d_Store_newArray_11 ?_
    refine va_get (D := D) (ci := 4) (v := .int (f_xc0_z S)) (C := "PageScribe$Row") (T := F_Row) (N := 4) hx hb hts i_Row hown hK hP 13 (ce_13 _ _ _) cl_4 3 (by decide) (hts _ k_1_52) (fun _ h9 => h9) rfl d_Store_newArray_14 ?_
    refine lv_istore (lv' := [(4, .int (f_xc0_z S)), (0, .ref (ad 12)), (1, .ref (ad 1)), (2, .int p0), (3, .int p1)]) hx hb d_Store_newArray_17 hl (by decide) rfl (fun ls hl => ?_)
    refine lv_iconst (v := 0) hx hb d_Store_newArray_19 (by decide) ?_
    refine lv_istore (lv' := [(5, .int 0), (4, .int (f_xc0_z S)), (0, .ref (ad 12)), (1, .ref (ad 1)), (2, .int p0), (3, .int p1)]) hx hb d_Store_newArray_20 hl (by decide) rfl (fun ls hl => ?_)
    refine j_loop (α := CS × Int32) (fun k x H locs ls => (0 ≤ x.2.toInt ∧ p1.toInt ≤ x.2.toInt + ((k : Nat) : Int)) ∧ CIv x.1 ∧ kcL S x.1 ∧ kcP S x.1 ∧ kcU S x.1 ∧ kcW S x.1 ∧ va_P D classes (cW T ad x.1) H ∧ va_D A (cW T ad x.1) ∧ va_S A s.heap H locs ∧ lv_has ls 6 [(5, .int x.2), (4, .int (f_xc0_z S)), (0, .ref (ad 12)), (1, .ref (ad 1)), (2, .int p0), (3, .int p1)]) (fun _ _ ls => F0 m 22 ls []) (fun k x H locs ls hI9 ih => ?_) p1.toInt.toNat (S, (0 : Int32)) _ _ _ ⟨(show 0 ≤ (0 : Int32).toInt ∧ p1.toInt ≤ (0 : Int32).toInt + ((p1.toInt.toNat : Nat) : Int) by have := tI_0; omega), ⟨i_vst, i_vc0, i_vc1, i_vc2, i_vc3, i_vv0, i_vv1, i_vv2, i_vv3, i_vg, i_wct, i_wln, i_sd0, i_sd1, i_sd2, i_sd3, i_rln, i_rtx, i_rpl, i_rtk, i_cnv, i_pts, i_cik, i_und⟩, (show kcL S S from (kcL_r S)), (show kcP S S from (kcP_r S)), (show kcU S S from (kcU_r S)), (show kcW S S from (kcW_r S)), hP, hD, hS, lv_sub hl [0, 1, 2, 3, 4, 5] rfl⟩
    obtain ⟨S1, i⟩ := x
    obtain ⟨hf1, hIx, klcL_S1, klcP_S1, klcU_S1, klcW_S1, hP, hD, hS, hl⟩ := hI9
    obtain ⟨i_vst, i_vc0, i_vc1, i_vc2, i_vc3, i_vv0, i_vv1, i_vv2, i_vv3, i_vg, i_wct, i_wln, i_sd0, i_sd1, i_sd2, i_sd3, i_rln, i_rtx, i_rpl, i_rtk, i_cnv, i_pts, i_cik, i_und⟩ := (show CIv S1 from hIx)
    have klcL_S1 : kcL S S1 := klcL_S1
    have klcP_S1 : kcP S S1 := klcP_S1
    have klcU_S1 : kcU S S1 := klcU_S1
    have klcW_S1 : kcW S S1 := klcW_S1
    have hf1 : 0 ≤ i.toInt ∧ p1.toInt ≤ i.toInt + ((k : Nat) : Int) := hf1
    have hP : va_P D classes (cW T ad S1) H := hP
    have hD : va_D A (cW T ad S1) := hD
    have hl : lv_has ls 6 [(5, .int i), (4, .int (f_xc0_z S)), (0, .ref (ad 12)), (1, .ref (ad 1)), (2, .int p0), (3, .int p1)] := hl
    refine lv_iload hx hb d_Store_newArray_22 (lv_at hl 0 rfl) ?_
    refine lv_iload_n hx hb d_Store_newArray_24 rfl (lv_at hl 5 rfl) ?_
    refine lv_icmp_ge (tgt := 47) hx hb d_Store_newArray_25 (by decide) (fun c25_1 => ?_) (fun c25_1 => ?_)
    · have fc25_1 : p1.toInt ≤ i.toInt := zt_le (show p1.toInt = _ from rfl) (show i.toInt = _ from rfl) c25_1
      refine lv_iload hx hb d_Store_newArray_47 (lv_at hl 1 rfl) ?_
      refine lv_iload_n hx hb d_Store_newArray_49 rfl (lv_at hl 5 rfl) ?_
      refine j_ci (wc := []) (wr := (cW T ad S1)) hK hP hD hS hA [] csc rfl csc_all csc_nd (fun _ _ => List.not_mem_nil) (va_runSN (As := [.int (f_xc0_z S), .int p1]) (rest := []) F (c_Ps_arrayOf l D T (f_xc0_z S) p1  H.size) (j_cSN (k := 2) hts k_3_108 k_1_1 (hE.2.2.2 (Cond.methodLinkNest "PageScribe$Store" 55 ⟨"PageScribe", "arrayOf", "(II)I"⟩ "PageScribe") (List.mem_of_getElem? (i := 2) rfl)) k_3_107 (by decide +kernel) ⟨Nat.le_of_ble_eq_true rfl, Nat.le_of_ble_eq_true rfl⟩) (j_preS hK hP hD [] rfl (by decide) (fun _ _ _ _ h => h) (fun _ _ _ => trivial)) rfl rfl hl.1 rfl (lv_room (Nat.le_of_ble_eq_true rfl)) d_Store_newArray_50 ⟨Nat.le_of_ble_eq_true rfl, Nat.le_of_ble_eq_true rfl⟩) (fun rv2 u2 H locs hw2 hP hD hS => ?_)
      have hP : va_P D classes (cW T ad S1) H := hP
      have hD : va_D A (cW T ad S1) := hD
      have rrv2 := zt_rng rv2
      exact j_iret F hr hlocks hK hS S1 ⟨⟨i_vst, i_vc0, i_vc1, i_vc2, i_vc3, i_vv0, i_vv1, i_vv2, i_vv3, i_vg, i_wct, i_wln, i_sd0, i_sd1, i_sd2, i_sd3, i_rln, i_rtx, i_rpl, i_rtk, i_cnv, i_pts, i_cik, i_und⟩, klcL_S1, klcP_S1, klcU_S1, klcW_S1⟩ hP hD d_Store_newArray_53
    · have fc25_1 : i.toInt < p1.toInt := Int.not_le.mp (zt_nle (show p1.toInt = _ from rfl) (show i.toInt = _ from rfl) c25_1)
      refine lv_aload_n hx hb d_Store_newArray_28 rfl (lv_at hl 2 rfl) ?_
      refine va_get (D := D) (ci := 3) (v := .ref (ad 13)) (C := "PageScribe$Store") (T := F_Store) (N := 5) hx hb hts i_Store hown hK hP 12 (ce_12 _ _ _) cl_3 0 (by decide) (hts _ k_1_107) (fun _ h9 => h9) rfl d_Store_newArray_29 ?_
      refine lv_aload_n hx hb d_Store_newArray_32 rfl (lv_at hl 3 rfl) ?_
      refine lv_iload_n hx hb d_Store_newArray_33 rfl (lv_at hl 4 rfl) ?_
      refine lv_iload hx hb d_Store_newArray_34 (lv_at hl 0 rfl) ?_
      refine lv_iadd hx hb d_Store_newArray_36 ?_
      refine lv_topi (fun x1 ex1 => ?_)
      have rx1 := zt_rng x1
      refine jc_ci (w := (fun u => u)) hK hP hD hS hA (va_runV (As := [.ref (ad 1), .int x1]) (rest := []) F (c_Row_pushFrom_13_1 l D T ad S1 x1  H.size ⟨i_vst, i_vc0, i_vc1, i_vc2, i_vc3, i_vv0, i_vv1, i_vv2, i_vv3, i_vg, i_wct, i_wln, i_sd0, i_sd1, i_sd2, i_sd3, i_rln, i_rtx, i_rpl, i_rtk, i_cnv, i_pts, i_cik, i_und⟩) (j_cV (k := 2) (C := "PageScribe$Row") hts k_3_96 k_1_2 k_3_91 k_3_92 k_3_93 (by decide +kernel) ⟨Nat.le_of_ble_eq_true rfl, Nat.le_of_ble_eq_true rfl⟩) (j_preV (q0 := 13) (ci := 4) hK hP hD csc csc_all csc_nd cl_4 (ce_13 _ _ _) (fun _ _ _ _ h => h) (fun _ _ _ => trivial)) rfl rfl hl.1 rfl (lv_room (Nat.le_of_ble_eq_true rfl)) d_Store_newArray_37 ⟨Nat.le_of_ble_eq_true rfl, Nat.le_of_ble_eq_true rfl⟩) (fun rv3 S2 H locs hw3 hP hD hS => ?_)
      have hP : va_P D classes (cW T ad S2) H := hP
      have hD : va_D A (cW T ad S2) := hD
      obtain ⟨⟨i_vst, i_vc0, i_vc1, i_vc2, i_vc3, i_vv0, i_vv1, i_vv2, i_vv3, i_vg, i_wct, i_wln, i_sd0, i_sd1, i_sd2, i_sd3, i_rln, i_rtx, i_rpl, i_rtk, i_cnv, i_pts, i_cik, i_und⟩, kpcL_S2, kpcP_S2, kpcU_S2, kpcW_S2⟩ := hw3
      have kScL_S2 : kcL S S2 := kcL_t (show kcL S S1 from klcL_S1) kpcL_S2
      have kScP_S2 : kcP S S2 := kcP_t (show kcP S S1 from klcP_S1) kpcP_S2
      have kScU_S2 : kcU S S2 := kcU_t (show kcU S S1 from klcU_S1) kpcU_S2
      have kScW_S2 : kcW S S2 := kcW_t (show kcW S S1 from klcW_S1) kpcW_S2
      have nxr_length_S2 : (f_xr_length S2).toInt = (f_xr_length S1).toInt := congrArg Int32.toInt kpcL_S2
      have nxr_length_S2 : (f_xr_length S2).toInt = (f_xr_length S1).toInt := congrArg Int32.toInt kpcP_S2.1
      have nxr_place_S2 : (f_xr_place S2).toInt = (f_xr_place S1).toInt := congrArg Int32.toInt kpcP_S2.2.1
      have nxe_underWay_S2 : (f_xe_underWay S2).toInt = (f_xe_underWay S1).toInt := congrArg Int32.toInt kpcU_S2
      have nxp_columns_S2 : (f_xp_columns S2).toInt = (f_xp_columns S1).toInt := congrArg Int32.toInt kpcW_S2.1
      have nxp_rows_S2 : (f_xp_rows S2).toInt = (f_xp_rows S1).toInt := congrArg Int32.toInt kpcW_S2.2
      have rrv3 := zt_rng rv3
      refine lv_pop hx hb d_Store_newArray_40 rfl ?_
      refine lv_iinc (v := (i + 1)) (lv' := [(5, .int (i + 1)), (4, .int (f_xc0_z S)), (0, .ref (ad 12)), (1, .ref (ad 1)), (2, .int p0), (3, .int p1)]) hx hb d_Store_newArray_41 hl (k := 0) rfl (by first | rfl | decide) (by decide) rfl (fun ls hl => ?_)
      obtain ⟨x2, ex2⟩ : ∃ z, z = (i + 1) := ⟨_, rfl⟩
      rw [← ex2] at hl
      have fx2 : x2.toInt = (i.toInt + 1) := by rw [ex2]; exact (zt_add (show i.toInt = _ from rfl) tI_1 (by omega) (by omega)).trans (by omega)
      have hl : lv_has ls 6 [(5, .int x2), (4, .int (f_xc0_z S)), (0, .ref (ad 12)), (1, .ref (ad 1)), (2, .int p0), (3, .int p1)] := hl
      refine lv_goto (tgt := 22) hx hb d_Store_newArray_44 (by decide) ?_
      exact ih (k - 1) (S2, x2) _ _ _ (by omega) ⟨(show 0 ≤ x2.toInt ∧ p1.toInt ≤ x2.toInt + (((k - 1) : Nat) : Int) by omega), ⟨i_vst, i_vc0, i_vc1, i_vc2, i_vc3, i_vv0, i_vv1, i_vv2, i_vv3, i_vg, i_wct, i_wln, i_sd0, i_sd1, i_sd2, i_sd3, i_rln, i_rtx, i_rpl, i_rtk, i_cnv, i_pts, i_cik, i_und⟩, (show kcL S S2 from kScL_S2), (show kcP S S2 from kScP_S2), (show kcU S S2 from kScU_S2), (show kcW S S2 from kScW_S2), hP, hD, hS, lv_sub hl [0, 1, 2, 3, 4, 5] rfl⟩
  · have fc5_1 : rv1.toInt = 0 := zt_eq (show rv1.toInt = _ from rfl) tI_0 c5_1
    refine lv_iconst (v := (-1)) hx hb d_Store_newArray_8 (by decide) ?_
    exact j_iret F hr hlocks hK hS S ⟨⟨i_vst, i_vc0, i_vc1, i_vc2, i_vc3, i_vv0, i_vv1, i_vv2, i_vv3, i_vg, i_wct, i_wln, i_sd0, i_sd1, i_sd2, i_sd3, i_rln, i_rtx, i_rpl, i_rtk, i_cnv, i_pts, i_cik, i_und⟩, (kcL_r S), (kcP_r S), (kcU_r S), (kcW_r S)⟩ hP hD d_Store_newArray_9
theorem d_Store_dictsMade_0 : decode prog_10_method_5_code 0 = .ok (.iconst 0, 1) := by decide +kernel
theorem d_Store_dictsMade_1 : decode prog_10_method_5_code 1 = .ok (.istore_n 1, 1) := by decide +kernel
theorem d_Store_dictsMade_2 : decode prog_10_method_5_code 2 = .ok (.iconst 1, 1) := by decide +kernel
theorem d_Store_dictsMade_3 : decode prog_10_method_5_code 3 = .ok (.istore_n 2, 1) := by decide +kernel
theorem d_Store_dictsMade_4 : decode prog_10_method_5_code 4 = .ok (.iload_n 2, 1) := by decide +kernel
theorem d_Store_dictsMade_5 : decode prog_10_method_5_code 5 = .ok (.bipush 7, 2) := by decide +kernel
theorem d_Store_dictsMade_7 : decode prog_10_method_5_code 7 = .ok (.if_icmp .ge 26, 3) := by decide +kernel
theorem d_Store_dictsMade_33 : decode prog_10_method_5_code 33 = .ok (.iload_n 1, 1) := by decide +kernel
theorem d_Store_dictsMade_34 : decode prog_10_method_5_code 34 = .ok (.ireturn, 1) := by decide +kernel
theorem d_Store_dictsMade_10 : decode prog_10_method_5_code 10 = .ok (.iload_n 1, 1) := by decide +kernel
theorem d_Store_dictsMade_25 : decode prog_10_method_5_code 25 = .ok (.iadd, 1) := by decide +kernel
theorem d_Store_dictsMade_26 : decode prog_10_method_5_code 26 = .ok (.istore_n 1, 1) := by decide +kernel
theorem d_Store_dictsMade_27 : decode prog_10_method_5_code 27 = .ok (.iinc 2 1, 3) := by decide +kernel
theorem d_Store_dictsMade_30 : decode prog_10_method_5_code 30 = .ok (.goto (-26), 3) := by decide +kernel
theorem d_Store_dictsMade_11 : decode prog_10_method_5_code 11 = .ok (.aload_n 0, 1) := by decide +kernel
theorem d_Store_dictsMade_12 : decode prog_10_method_5_code 12 = .ok (.getfield 20, 3) := by decide +kernel
theorem d_Store_dictsMade_15 : decode prog_10_method_5_code 15 = .ok (.iload_n 2, 1) := by decide +kernel
theorem d_Store_dictsMade_16 : decode prog_10_method_5_code 16 = .ok (.iaload, 1) := by decide +kernel
theorem d_Store_dictsMade_17 : decode prog_10_method_5_code 17 = .ok (.ifCond .le 7, 3) := by decide +kernel
theorem d_Store_dictsMade_24 : decode prog_10_method_5_code 24 = .ok (.iconst 0, 1) := by decide +kernel
theorem d_Store_dictsMade_20 : decode prog_10_method_5_code 20 = .ok (.iconst 1, 1) := by decide +kernel
theorem d_Store_dictsMade_21 : decode prog_10_method_5_code 21 = .ok (.goto 4, 3) := by decide +kernel
set_option maxHeartbeats 4000000 in
set_option maxRecDepth 100000 in
theorem c_Store_dictsMade (l : Launch) (D : va_G) (T : Nat → ClassId) (ad : Nat → Nat) (S : CS)  (sz : Nat)  : Met l ⟨"PageScribe$Store", "dictsMade", "()I"⟩ (wy ⟨"PageScribe$Store", "dictsMade", "()I"⟩ prog_10_method_5_code 3 (some .int)) ({ frames := 0, cells := 0, slots := 0, locals := 0 }) (va_Pc [.ref (ad 12)] (Pw D T (cW T ad S) sz E0)) (va_Qi (fun (r : Int32) (u : Unit) => True) (fun u t => Bw D T (va_A (cW T ad S) sz) (cW T ad S) t) (va_A (cW T ad S) sz)) 0 0 (va_A (cW T ad S) sz) := by
  refine j_met (y := ⟨"PageScribe$Store", "dictsMade", "()I"⟩) (b := prog_10_method_5_code) (n := 3) (ret := (some .int)) (av := [.ref (ad 12)]) (Qc := fun A => va_Qi (fun (r : Int32) (u : Unit) => True) (fun u t => Bw D T A (cW T ad S) t) A) (by decide +kernel) (Nat.le_of_ble_eq_true rfl) (fun p e s m args below meth c A ls F hr hlocks hnm hK hP hD hS hA hN hE hl => ?_)
  obtain ⟨hx, hb, hml, hown, hts⟩ := id F
  have hl : lv_has ls 3 [(0, .ref (ad 12))] := hl
  refine lv_iconst (v := 0) hx hb d_Store_dictsMade_0 (by decide) ?_
  refine lv_istore_n (lv' := [(1, .int 0), (0, .ref (ad 12))]) hx hb d_Store_dictsMade_1 rfl hl (by decide) rfl (fun ls hl => ?_)
  refine lv_iconst (v := 1) hx hb d_Store_dictsMade_2 (by decide) ?_
  refine lv_istore_n (lv' := [(2, .int 1), (1, .int 0), (0, .ref (ad 12))]) hx hb d_Store_dictsMade_3 rfl hl (by decide) rfl (fun ls hl => ?_)
  refine j_loop (α := Int32 × Int32) (fun k x H locs ls => (1 ≤ x.2.toInt ∧ x.2.toInt ≤ 7 ∧ 7 ≤ x.2.toInt + ((k : Nat) : Int)) ∧ va_P D classes (cW T ad S) H ∧ va_D A (cW T ad S) ∧ va_S A s.heap H locs ∧ lv_has ls 3 [(2, .int x.2), (1, .int x.1), (0, .ref (ad 12))]) (fun _ _ ls => F0 m 4 ls []) (fun k x H locs ls hI9 ih => ?_) 7 ((0 : Int32), (1 : Int32)) _ _ _ ⟨(show 1 ≤ (1 : Int32).toInt ∧ (1 : Int32).toInt ≤ 7 ∧ 7 ≤ (1 : Int32).toInt + ((7 : Nat) : Int) by have := tI_0; have := tI_1; omega), hP, hD, hS, lv_sub hl [0, 1, 2] rfl⟩
  obtain ⟨n, i⟩ := x
  obtain ⟨hf1, hP, hD, hS, hl⟩ := hI9
  have hf1 : 1 ≤ i.toInt ∧ i.toInt ≤ 7 ∧ 7 ≤ i.toInt + ((k : Nat) : Int) := hf1
  have hP : va_P D classes (cW T ad S) H := hP
  have hD : va_D A (cW T ad S) := hD
  have hl : lv_has ls 3 [(2, .int i), (1, .int n), (0, .ref (ad 12))] := hl
  refine lv_iload_n hx hb d_Store_dictsMade_4 rfl (lv_at hl 0 rfl) ?_
  refine lv_bipush (v := 7) hx hb d_Store_dictsMade_5 (by decide) ?_
  refine lv_icmp_ge (tgt := 33) hx hb d_Store_dictsMade_7 (by decide) (fun c7_1 => ?_) (fun c7_1 => ?_)
  · have fc7_1 : 7 ≤ i.toInt := zt_le tI_7 (show i.toInt = _ from rfl) c7_1
    refine lv_iload_n hx hb d_Store_dictsMade_33 rfl (lv_at hl 1 rfl) ?_
    exact j_iret F hr hlocks hK hS () trivial hP hD d_Store_dictsMade_34
  · have fc7_1 : i.toInt < 7 := Int.not_le.mp (zt_nle tI_7 (show i.toInt = _ from rfl) c7_1)
    refine lv_iload_n hx hb d_Store_dictsMade_10 rfl (lv_at hl 1 rfl) ?_
    refine j_joinH (α := Int32) (fun x H locs ls => (True) ∧ va_P D classes (cW T ad S) H ∧ va_D A (cW T ad S) ∧ va_S A s.heap H locs ∧ lv_has ls 3 [(2, .int i), (1, .int n), (0, .ref (ad 12))]) (fun x ls => F0 m 25 ls (.int x :: [.int n])) (fun x H locs ls hI9 => ?_) (fun key1 => ?_)
    · obtain ⟨j1, rfl⟩ : ∃ z, z = x := ⟨_, rfl⟩
      obtain ⟨hj1, hP, hD, hS, hl⟩ := hI9
      have hP : va_P D classes (cW T ad S) H := hP
      have hD : va_D A (cW T ad S) := hD
      have hl : lv_has ls 3 [(2, .int i), (1, .int n), (0, .ref (ad 12))] := hl
      refine lv_iadd hx hb d_Store_dictsMade_25 ?_
      refine lv_topi (fun x1 ex1 => ?_)
      have rx1 := zt_rng x1
      refine lv_istore_n (lv' := [(1, .int x1), (2, .int i), (0, .ref (ad 12))]) hx hb d_Store_dictsMade_26 rfl hl (by decide) rfl (fun ls hl => ?_)
      refine lv_iinc (v := (i + 1)) (lv' := [(2, .int (i + 1)), (1, .int x1), (0, .ref (ad 12))]) hx hb d_Store_dictsMade_27 hl (k := 1) rfl (by first | rfl | decide) (by decide) rfl (fun ls hl => ?_)
      obtain ⟨x2, ex2⟩ : ∃ z, z = (i + 1) := ⟨_, rfl⟩
      rw [← ex2] at hl
      have fx2 : x2.toInt = (i.toInt + 1) := by rw [ex2]; exact (zt_add (show i.toInt = _ from rfl) tI_1 (by omega) (by omega)).trans (by omega)
      have hl : lv_has ls 3 [(2, .int x2), (1, .int x1), (0, .ref (ad 12))] := hl
      refine lv_goto (tgt := 4) hx hb d_Store_dictsMade_30 (by decide) ?_
      exact ih (k - 1) (x1, x2) _ _ _ (by omega) ⟨(show 1 ≤ x2.toInt ∧ x2.toInt ≤ 7 ∧ 7 ≤ x2.toInt + (((k - 1) : Nat) : Int) by omega), hP, hD, hS, lv_sub hl [0, 1, 2] rfl⟩
    · refine lv_aload_n hx hb d_Store_dictsMade_11 rfl (lv_at hl 2 rfl) ?_
      refine va_get (D := D) (ci := 3) (v := .ref (ad 17)) (C := "PageScribe$Store") (T := F_Store) (N := 5) hx hb hts i_Store hown hK hP 12 (ce_12 _ _ _) cl_3 1 (by decide) (hts _ k_1_111) (fun _ h9 => h9) rfl d_Store_dictsMade_12 ?_
      refine lv_iload_n hx hb d_Store_dictsMade_15 rfl (lv_at hl 0 rfl) ?_
      refine va_iald hx hb hK hP 17 0 (ce_17 _ _ _) rfl (zt_in (show i.toInt = _ from rfl) (by omega) (by omega)) d_Store_dictsMade_16 ?_
      refine lv_topi (fun x3 ex3 => ?_)
      have gx3 : x3 = (a_xd0_rooms S) i.toInt.toNat := ex3.trans (congrArg _ (zt_ix (show i.toInt = _ from rfl)))
      have fx3 : x3.toInt = ((a_xd0_rooms S) i.toInt.toNat).toInt := by rw [gx3]
      have rx3 := zt_rng x3
      refine lv_if_le (tgt := 24) hx hb d_Store_dictsMade_17 (by decide) (fun c17_1 => ?_) (fun c17_1 => ?_)
      · have fc17_1 : x3.toInt ≤ 0 := zt_le (show x3.toInt = _ from rfl) tI_0 c17_1
        refine lv_iconst (v := 0) hx hb d_Store_dictsMade_24 (by decide) ?_
        exact key1 (0 : Int32) _ _ _ ⟨trivial, hP, hD, hS, lv_sub hl [0, 1, 2] rfl⟩
      · have fc17_1 : 0 < x3.toInt := Int.not_le.mp (zt_nle (show x3.toInt = _ from rfl) tI_0 c17_1)
        refine lv_iconst (v := 1) hx hb d_Store_dictsMade_20 (by decide) ?_
        refine lv_goto (tgt := 25) hx hb d_Store_dictsMade_21 (by decide) ?_
        exact key1 (1 : Int32) _ _ _ ⟨trivial, hP, hD, hS, lv_sub hl [0, 1, 2] rfl⟩
theorem d_Store_newDict_0 : decode prog_10_method_7_code 0 = .ok (.iconst 1, 1) := by decide +kernel
theorem d_Store_newDict_1 : decode prog_10_method_7_code 1 = .ok (.istore_n 2, 1) := by decide +kernel
theorem d_Store_newDict_2 : decode prog_10_method_7_code 2 = .ok (.iload_n 2, 1) := by decide +kernel
theorem d_Store_newDict_3 : decode prog_10_method_7_code 3 = .ok (.bipush 7, 2) := by decide +kernel
theorem d_Store_newDict_5 : decode prog_10_method_7_code 5 = .ok (.if_icmp .ge 34, 3) := by decide +kernel
theorem d_Store_newDict_39 : decode prog_10_method_7_code 39 = .ok (.iconst (-1), 1) := by decide +kernel
theorem d_Store_newDict_40 : decode prog_10_method_7_code 40 = .ok (.ireturn, 1) := by decide +kernel
theorem d_Store_newDict_8 : decode prog_10_method_7_code 8 = .ok (.aload_n 0, 1) := by decide +kernel
theorem d_Store_newDict_9 : decode prog_10_method_7_code 9 = .ok (.getfield 20, 3) := by decide +kernel
theorem d_Store_newDict_12 : decode prog_10_method_7_code 12 = .ok (.iload_n 2, 1) := by decide +kernel
theorem d_Store_newDict_13 : decode prog_10_method_7_code 13 = .ok (.iaload, 1) := by decide +kernel
theorem d_Store_newDict_14 : decode prog_10_method_7_code 14 = .ok (.ifCond .ne 19, 3) := by decide +kernel
theorem d_Store_newDict_33 : decode prog_10_method_7_code 33 = .ok (.iinc 2 1, 3) := by decide +kernel
theorem d_Store_newDict_36 : decode prog_10_method_7_code 36 = .ok (.goto (-34), 3) := by decide +kernel
theorem d_Store_newDict_17 : decode prog_10_method_7_code 17 = .ok (.aload_n 0, 1) := by decide +kernel
theorem d_Store_newDict_18 : decode prog_10_method_7_code 18 = .ok (.getfield 20, 3) := by decide +kernel
theorem d_Store_newDict_21 : decode prog_10_method_7_code 21 = .ok (.iload_n 2, 1) := by decide +kernel
theorem d_Store_newDict_22 : decode prog_10_method_7_code 22 = .ok (.iload_n 1, 1) := by decide +kernel
theorem d_Store_newDict_23 : decode prog_10_method_7_code 23 = .ok (.iastore, 1) := by decide +kernel
theorem d_Store_newDict_24 : decode prog_10_method_7_code 24 = .ok (.aload_n 0, 1) := by decide +kernel
theorem d_Store_newDict_25 : decode prog_10_method_7_code 25 = .ok (.getfield 24, 3) := by decide +kernel
theorem k_1_112 : Cond.fieldLink "PageScribe$Store" 24 "PageScribe$Store" "counts" "[I" ∈ gw := gw_of (tb_1 (List.mem_of_getElem? (i := 112) (by decide +kernel))) (by decide +kernel)
theorem d_Store_newDict_28 : decode prog_10_method_7_code 28 = .ok (.iload_n 2, 1) := by decide +kernel
theorem d_Store_newDict_29 : decode prog_10_method_7_code 29 = .ok (.iconst 0, 1) := by decide +kernel
theorem d_Store_newDict_30 : decode prog_10_method_7_code 30 = .ok (.iastore, 1) := by decide +kernel
theorem d_Store_newDict_31 : decode prog_10_method_7_code 31 = .ok (.iload_n 2, 1) := by decide +kernel
theorem d_Store_newDict_32 : decode prog_10_method_7_code 32 = .ok (.ireturn, 1) := by decide +kernel
set_option maxHeartbeats 4000000 in
set_option maxRecDepth 100000 in
theorem c_Store_newDict (l : Launch) (D : va_G) (T : Nat → ClassId) (ad : Nat → Nat) (S : CS) (p0 : Int32) (sz : Nat)  (hI : CIv S) (h1 : 1 ≤ p0.toInt ∧ p0.toInt ≤ 10) : Met l ⟨"PageScribe$Store", "newDict", "(I)I"⟩ (wy ⟨"PageScribe$Store", "newDict", "(I)I"⟩ prog_10_method_7_code 3 (some .int)) ({ frames := 0, cells := 0, slots := 0, locals := 0 }) (va_Pc [.ref (ad 12), .int p0] (Pw D T (cW T ad S) sz E0)) (va_Qi (fun (r : Int32) (u : CS) => CIv u ∧ kcL S u ∧ kcP S u ∧ kcU S u ∧ kcW S u) (fun u t => Bw D T (va_A (cW T ad S) sz) (cW T ad u) t) (va_A (cW T ad S) sz)) 0 0 (va_A (cW T ad S) sz) := by
  refine j_met (y := ⟨"PageScribe$Store", "newDict", "(I)I"⟩) (b := prog_10_method_7_code) (n := 3) (ret := (some .int)) (av := [.ref (ad 12), .int p0]) (Qc := fun A => va_Qi (fun (r : Int32) (u : CS) => CIv u ∧ kcL S u ∧ kcP S u ∧ kcU S u ∧ kcW S u) (fun u t => Bw D T A (cW T ad u) t) A) (by decide +kernel) (Nat.le_of_ble_eq_true rfl) (fun p e s m args below meth c A ls F hr hlocks hnm hK hP hD hS hA hN hE hl => ?_)
  obtain ⟨hx, hb, hml, hown, hts⟩ := id F
  have hl : lv_has ls 3 [(0, .ref (ad 12)), (1, .int p0)] := hl
  obtain ⟨i_vst, i_vc0, i_vc1, i_vc2, i_vc3, i_vv0, i_vv1, i_vv2, i_vv3, i_vg, i_wct, i_wln, i_sd0, i_sd1, i_sd2, i_sd3, i_rln, i_rtx, i_rpl, i_rtk, i_cnv, i_pts, i_cik, i_und⟩ := id hI
  have rp0 := zt_rng p0
  refine lv_iconst (v := 1) hx hb d_Store_newDict_0 (by decide) ?_
  refine lv_istore_n (lv' := [(2, .int 1), (0, .ref (ad 12)), (1, .int p0)]) hx hb d_Store_newDict_1 rfl hl (by decide) rfl (fun ls hl => ?_)
  refine j_loop (α := Int32) (fun k x H locs ls => (1 ≤ x.toInt ∧ x.toInt ≤ 7 ∧ 7 ≤ x.toInt + ((k : Nat) : Int)) ∧ va_P D classes (cW T ad S) H ∧ va_D A (cW T ad S) ∧ va_S A s.heap H locs ∧ lv_has ls 3 [(2, .int x), (0, .ref (ad 12)), (1, .int p0)]) (fun _ _ ls => F0 m 2 ls []) (fun k x H locs ls hI9 ih => ?_) 7 (1 : Int32) _ _ _ ⟨(show 1 ≤ (1 : Int32).toInt ∧ (1 : Int32).toInt ≤ 7 ∧ 7 ≤ (1 : Int32).toInt + ((7 : Nat) : Int) by have := tI_1; omega), hP, hD, hS, lv_sub hl [0, 1, 2] rfl⟩
  obtain ⟨i, rfl⟩ : ∃ z, z = x := ⟨_, rfl⟩
  obtain ⟨hf1, hP, hD, hS, hl⟩ := hI9
  have hf1 : 1 ≤ i.toInt ∧ i.toInt ≤ 7 ∧ 7 ≤ i.toInt + ((k : Nat) : Int) := hf1
  have hP : va_P D classes (cW T ad S) H := hP
  have hD : va_D A (cW T ad S) := hD
  have hl : lv_has ls 3 [(2, .int i), (0, .ref (ad 12)), (1, .int p0)] := hl
  refine lv_iload_n hx hb d_Store_newDict_2 rfl (lv_at hl 0 rfl) ?_
  refine lv_bipush (v := 7) hx hb d_Store_newDict_3 (by decide) ?_
  refine lv_icmp_ge (tgt := 39) hx hb d_Store_newDict_5 (by decide) (fun c5_1 => ?_) (fun c5_1 => ?_)
  · have fc5_1 : 7 ≤ i.toInt := zt_le tI_7 (show i.toInt = _ from rfl) c5_1
    refine lv_iconst (v := (-1)) hx hb d_Store_newDict_39 (by decide) ?_
    exact j_iret F hr hlocks hK hS S ⟨⟨i_vst, i_vc0, i_vc1, i_vc2, i_vc3, i_vv0, i_vv1, i_vv2, i_vv3, i_vg, i_wct, i_wln, i_sd0, i_sd1, i_sd2, i_sd3, i_rln, i_rtx, i_rpl, i_rtk, i_cnv, i_pts, i_cik, i_und⟩, (kcL_r S), (kcP_r S), (kcU_r S), (kcW_r S)⟩ hP hD d_Store_newDict_40
  · have fc5_1 : i.toInt < 7 := Int.not_le.mp (zt_nle tI_7 (show i.toInt = _ from rfl) c5_1)
    refine lv_aload_n hx hb d_Store_newDict_8 rfl (lv_at hl 1 rfl) ?_
    refine va_get (D := D) (ci := 3) (v := .ref (ad 17)) (C := "PageScribe$Store") (T := F_Store) (N := 5) hx hb hts i_Store hown hK hP 12 (ce_12 _ _ _) cl_3 1 (by decide) (hts _ k_1_111) (fun _ h9 => h9) rfl d_Store_newDict_9 ?_
    refine lv_iload_n hx hb d_Store_newDict_12 rfl (lv_at hl 0 rfl) ?_
    refine va_iald hx hb hK hP 17 0 (ce_17 _ _ _) rfl (zt_in (show i.toInt = _ from rfl) (by omega) (by omega)) d_Store_newDict_13 ?_
    refine lv_topi (fun x1 ex1 => ?_)
    have gx1 : x1 = (a_xd0_rooms S) i.toInt.toNat := ex1.trans (congrArg _ (zt_ix (show i.toInt = _ from rfl)))
    have fx1 : x1.toInt = ((a_xd0_rooms S) i.toInt.toNat).toInt := by rw [gx1]
    have rx1 := zt_rng x1
    refine lv_if_ne (tgt := 33) hx hb d_Store_newDict_14 (by decide) (fun c14_1 => ?_) (fun c14_1 => ?_)
    · first | have fc14_1 : x1.toInt < 0 := (by have := zt_ne (show x1.toInt = _ from rfl) tI_0 c14_1; omega) | have fc14_1 : 0 < x1.toInt := (by have := zt_ne (show x1.toInt = _ from rfl) tI_0 c14_1; omega) | skip
      refine lv_iinc (v := (i + 1)) (lv' := [(2, .int (i + 1)), (0, .ref (ad 12)), (1, .int p0)]) hx hb d_Store_newDict_33 hl (k := 0) rfl (by first | rfl | decide) (by decide) rfl (fun ls hl => ?_)
      obtain ⟨x2, ex2⟩ : ∃ z, z = (i + 1) := ⟨_, rfl⟩
      rw [← ex2] at hl
      have fx2 : x2.toInt = (i.toInt + 1) := by rw [ex2]; exact (zt_add (show i.toInt = _ from rfl) tI_1 (by omega) (by omega)).trans (by omega)
      have hl : lv_has ls 3 [(2, .int x2), (0, .ref (ad 12)), (1, .int p0)] := hl
      refine lv_goto (tgt := 2) hx hb d_Store_newDict_36 (by decide) ?_
      exact ih (k - 1) x2 _ _ _ (by omega) ⟨(show 1 ≤ x2.toInt ∧ x2.toInt ≤ 7 ∧ 7 ≤ x2.toInt + (((k - 1) : Nat) : Int) by omega), hP, hD, hS, lv_sub hl [0, 1, 2] rfl⟩
    · have fc14_1 : x1.toInt = 0 := zt_eq (show x1.toInt = _ from rfl) tI_0 c14_1
      refine lv_aload_n hx hb d_Store_newDict_17 rfl (lv_at hl 1 rfl) ?_
      refine va_get (D := D) (ci := 3) (v := .ref (ad 17)) (C := "PageScribe$Store") (T := F_Store) (N := 5) hx hb hts i_Store hown hK hP 12 (ce_12 _ _ _) cl_3 1 (by decide) (hts _ k_1_111) (fun _ h9 => h9) rfl d_Store_newDict_18 ?_
      refine lv_iload_n hx hb d_Store_newDict_21 rfl (lv_at hl 0 rfl) ?_
      refine lv_iload_n hx hb d_Store_newDict_22 rfl (lv_at hl 2 rfl) ?_
      refine va_iast hx hb hK hP hD hS 17 0 (ce_17 _ _ _) rfl (zt_in (show i.toInt = _ from rfl) (by omega) (by omega)) d_Store_newDict_23 (fun H locs hP hD hS => ?_)
      rw [cs_xd0_rooms] at hP hD
      rw [zt_ix (show i.toInt = _ from rfl)] at hP hD
      have hP : va_P D classes (cW T ad ((S.1, S.2.1, ((a_xc0_k S), (a_xc0_n S), (a_xc0_r S), (f_xc0_z S), (upd (a_xd0_rooms S) (i.toInt.toNat) p0), (a_xd0_counts S), (a_xd0_names S), (a_xv0_k S), (a_xv0_n S), (a_xv0_r S), (f_xv0_z S)), S.2.2.2.1, S.2.2.2.2.1, S.2.2.2.2.2.1, S.2.2.2.2.2.2.1, S.2.2.2.2.2.2.2.1, S.2.2.2.2.2.2.2.2) : CS)) H := hP
      have hD : va_D A (cW T ad ((S.1, S.2.1, ((a_xc0_k S), (a_xc0_n S), (a_xc0_r S), (f_xc0_z S), (upd (a_xd0_rooms S) (i.toInt.toNat) p0), (a_xd0_counts S), (a_xd0_names S), (a_xv0_k S), (a_xv0_n S), (a_xv0_r S), (f_xv0_z S)), S.2.2.2.1, S.2.2.2.2.1, S.2.2.2.2.2.1, S.2.2.2.2.2.2.1, S.2.2.2.2.2.2.2.1, S.2.2.2.2.2.2.2.2) : CS)) := hD
      refine lv_aload_n hx hb d_Store_newDict_24 rfl (lv_at hl 1 rfl) ?_
      refine va_get (D := D) (ci := 3) (v := .ref (ad 18)) (C := "PageScribe$Store") (T := F_Store) (N := 5) hx hb hts i_Store hown hK hP 12 (ce_12 _ _ _) cl_3 2 (by decide) (hts _ k_1_112) (fun _ h9 => h9) rfl d_Store_newDict_25 ?_
      refine lv_iload_n hx hb d_Store_newDict_28 rfl (lv_at hl 0 rfl) ?_
      refine lv_iconst (v := 0) hx hb d_Store_newDict_29 (by decide) ?_
      refine va_iast hx hb hK hP hD hS 18 0 (ce_18 _ _ _) rfl (zt_in (show i.toInt = _ from rfl) (by omega) (by omega)) d_Store_newDict_30 (fun H locs hP hD hS => ?_)
      rw [cs_xd0_counts] at hP hD
      rw [zt_ix (show i.toInt = _ from rfl)] at hP hD
      have hP : va_P D classes (cW T ad ((S.1, S.2.1, ((a_xc0_k S), (a_xc0_n S), (a_xc0_r S), (f_xc0_z S), (upd (a_xd0_rooms S) (i.toInt.toNat) p0), (upd (a_xd0_counts S) (i.toInt.toNat) (0 : Int32)), (a_xd0_names S), (a_xv0_k S), (a_xv0_n S), (a_xv0_r S), (f_xv0_z S)), S.2.2.2.1, S.2.2.2.2.1, S.2.2.2.2.2.1, S.2.2.2.2.2.2.1, S.2.2.2.2.2.2.2.1, S.2.2.2.2.2.2.2.2) : CS)) H := hP
      have hD : va_D A (cW T ad ((S.1, S.2.1, ((a_xc0_k S), (a_xc0_n S), (a_xc0_r S), (f_xc0_z S), (upd (a_xd0_rooms S) (i.toInt.toNat) p0), (upd (a_xd0_counts S) (i.toInt.toNat) (0 : Int32)), (a_xd0_names S), (a_xv0_k S), (a_xv0_n S), (a_xv0_r S), (f_xv0_z S)), S.2.2.2.1, S.2.2.2.2.1, S.2.2.2.2.2.1, S.2.2.2.2.2.2.1, S.2.2.2.2.2.2.2.1, S.2.2.2.2.2.2.2.2) : CS)) := hD
      refine lv_iload_n hx hb d_Store_newDict_31 rfl (lv_at hl 0 rfl) ?_
      exact j_iret F hr hlocks hK hS ((S.1, S.2.1, ((a_xc0_k S), (a_xc0_n S), (a_xc0_r S), (f_xc0_z S), (upd (a_xd0_rooms S) (i.toInt.toNat) p0), (upd (a_xd0_counts S) (i.toInt.toNat) (0 : Int32)), (a_xd0_names S), (a_xv0_k S), (a_xv0_n S), (a_xv0_r S), (f_xv0_z S)), S.2.2.2.1, S.2.2.2.2.1, S.2.2.2.2.2.1, S.2.2.2.2.2.2.1, S.2.2.2.2.2.2.2.1, S.2.2.2.2.2.2.2.2) : CS) ⟨⟨i_vst, i_vc0, i_vc1, i_vc2, i_vc3, i_vv0, i_vv1, i_vv2, i_vv3, i_vg, i_wct, i_wln, (sd_new i_sd0 (by have := tI_0; omega)), i_sd1, i_sd2, i_sd3, i_rln, i_rtx, i_rpl, i_rtk, i_cnv, i_pts, i_cik, i_und⟩, (kcL_r S), (kcP_r S), (kcU_r S), (kcW_r S)⟩ hP hD d_Store_newDict_32
theorem d_Store_countOf_0 : decode prog_10_method_8_code 0 = .ok (.aload_n 0, 1) := by decide +kernel
theorem d_Store_countOf_1 : decode prog_10_method_8_code 1 = .ok (.iload_n 1, 1) := by decide +kernel
theorem d_Store_countOf_2 : decode prog_10_method_8_code 2 = .ok (.invokevirtual 59, 3) := by decide +kernel
theorem k_3_188 : Cond.code ⟨"PageScribe$Store", "hasDict", "(I)Z"⟩ prog_10_method_6_code 2 (some .boolean) ∈ gw := gw_of (tb_3 (List.mem_of_getElem? (i := 188) (by decide +kernel))) (by decide +kernel)
theorem k_3_185 : Cond.methodLink "PageScribe$Store" 59 ⟨"PageScribe$Store", "hasDict", "(I)Z"⟩ ∈ gw := gw_of (tb_3 (List.mem_of_getElem? (i := 185) (by decide +kernel))) (by decide +kernel)
theorem k_3_186 : Cond.instanceMethod ⟨"PageScribe$Store", "hasDict", "(I)Z"⟩ ∈ gw := gw_of (tb_3 (List.mem_of_getElem? (i := 186) (by decide +kernel))) (by decide +kernel)
theorem k_3_187 : Cond.selects "PageScribe$Store" ⟨"PageScribe$Store", "hasDict", "(I)Z"⟩ ⟨"PageScribe$Store", "hasDict", "(I)Z"⟩ ∈ gw := gw_of (tb_3 (List.mem_of_getElem? (i := 187) (by decide +kernel))) (by decide +kernel)
theorem d_Store_countOf_5 : decode prog_10_method_8_code 5 = .ok (.ifCond .eq 12, 3) := by decide +kernel
theorem d_Store_countOf_17 : decode prog_10_method_8_code 17 = .ok (.iconst 0, 1) := by decide +kernel
theorem d_Store_countOf_18 : decode prog_10_method_8_code 18 = .ok (.ireturn, 1) := by decide +kernel
theorem d_Store_countOf_8 : decode prog_10_method_8_code 8 = .ok (.aload_n 0, 1) := by decide +kernel
theorem d_Store_countOf_9 : decode prog_10_method_8_code 9 = .ok (.getfield 24, 3) := by decide +kernel
theorem d_Store_countOf_12 : decode prog_10_method_8_code 12 = .ok (.iload_n 1, 1) := by decide +kernel
theorem d_Store_countOf_13 : decode prog_10_method_8_code 13 = .ok (.iaload, 1) := by decide +kernel
theorem d_Store_countOf_14 : decode prog_10_method_8_code 14 = .ok (.goto 4, 3) := by decide +kernel
set_option maxHeartbeats 4000000 in
set_option maxRecDepth 100000 in
theorem c_Store_countOf (l : Launch) (D : va_G) (T : Nat → ClassId) (ad : Nat → Nat) (S : CS) (p0 : Int32) (sz : Nat)  : Met l ⟨"PageScribe$Store", "countOf", "(I)I"⟩ (wy ⟨"PageScribe$Store", "countOf", "(I)I"⟩ prog_10_method_8_code 2 (some .int)) ({ frames := 1, cells := 0, slots := 0, locals := 70 }) (va_Pc [.ref (ad 12), .int p0] (Pw D T (cW T ad S) sz E0)) (va_Qi (fun (r : Int32) (u : Unit) => True) (fun u t => Bw D T (va_A (cW T ad S) sz) (cW T ad S) t) (va_A (cW T ad S) sz)) 0 0 (va_A (cW T ad S) sz) := by
  refine j_met (y := ⟨"PageScribe$Store", "countOf", "(I)I"⟩) (b := prog_10_method_8_code) (n := 2) (ret := (some .int)) (av := [.ref (ad 12), .int p0]) (Qc := fun A => va_Qi (fun (r : Int32) (u : Unit) => True) (fun u t => Bw D T A (cW T ad S) t) A) (by decide +kernel) (Nat.le_of_ble_eq_true rfl) (fun p e s m args below meth c A ls F hr hlocks hnm hK hP hD hS hA hN hE hl => ?_)
  obtain ⟨hx, hb, hml, hown, hts⟩ := id F
  have hl : lv_has ls 2 [(0, .ref (ad 12)), (1, .int p0)] := hl
  have rp0 := zt_rng p0
  refine lv_aload_n hx hb d_Store_countOf_0 rfl (lv_at hl 0 rfl) ?_
  refine lv_iload_n hx hb d_Store_countOf_1 rfl (lv_at hl 1 rfl) ?_
  refine jc_ci (w := (fun _ => S)) hK hP hD hS hA (va_runV (As := [.int p0]) (rest := []) F (c_Store_hasDict l D T ad S p0  s.heap.size) (j_cV (k := 1) (C := "PageScribe$Store") hts k_3_188 k_1_6 k_3_185 k_3_186 k_3_187 (by decide +kernel) ⟨Nat.le_of_ble_eq_true rfl, Nat.le_of_ble_eq_true rfl⟩) (j_preV (q0 := 12) (ci := 3) hK hP hD csc csc_all csc_nd cl_3 (ce_12 _ _ _) (fun _ _ _ _ h => h) (fun _ _ _ => trivial)) rfl rfl hl.1 rfl (lv_room (Nat.le_of_ble_eq_true rfl)) d_Store_countOf_2 ⟨Nat.le_of_ble_eq_true rfl, Nat.le_of_ble_eq_true rfl⟩) (fun rv1 u1 H locs hw1 hP hD hS => ?_)
  have hP : va_P D classes (cW T ad S) H := hP
  have hD : va_D A (cW T ad S) := hD
  have qhw1 : rv1.toInt = 0 ∨ (rv1.toInt = 1 ∧ 0 ≤ p0.toInt ∧ p0.toInt < 7) := hw1
  have rrv1 := zt_rng rv1
  refine lv_if_eq (tgt := 17) hx hb d_Store_countOf_5 (by decide) (fun c5_1 => ?_) (fun c5_1 => ?_)
  · have fc5_1 : rv1.toInt = 0 := zt_eq (show rv1.toInt = _ from rfl) tI_0 c5_1
    refine lv_iconst (v := 0) hx hb d_Store_countOf_17 (by decide) ?_
    exact j_iret F hr hlocks hK hS () trivial hP hD d_Store_countOf_18
  · first | have fc5_1 : rv1.toInt < 0 := (by have := zt_ne (show rv1.toInt = _ from rfl) tI_0 c5_1; omega) | have fc5_1 : 0 < rv1.toInt := (by have := zt_ne (show rv1.toInt = _ from rfl) tI_0 c5_1; omega) | skip
    refine lv_aload_n hx hb d_Store_countOf_8 rfl (lv_at hl 0 rfl) ?_
    refine va_get (D := D) (ci := 3) (v := .ref (ad 18)) (C := "PageScribe$Store") (T := F_Store) (N := 5) hx hb hts i_Store hown hK hP 12 (ce_12 _ _ _) cl_3 2 (by decide) (hts _ k_1_112) (fun _ h9 => h9) rfl d_Store_countOf_9 ?_
    refine lv_iload_n hx hb d_Store_countOf_12 rfl (lv_at hl 1 rfl) ?_
    refine va_iald hx hb hK hP 18 0 (ce_18 _ _ _) rfl (zt_in (show p0.toInt = _ from rfl) (by omega) (by omega)) d_Store_countOf_13 ?_
    refine lv_topi (fun x1 ex1 => ?_)
    have gx1 : x1 = (a_xd0_counts S) p0.toInt.toNat := ex1.trans (congrArg _ (zt_ix (show p0.toInt = _ from rfl)))
    have fx1 : x1.toInt = ((a_xd0_counts S) p0.toInt.toNat).toInt := by rw [gx1]
    have rx1 := zt_rng x1
    refine lv_goto (tgt := 18) hx hb d_Store_countOf_14 (by decide) ?_
    exact j_iret F hr hlocks hK hS () trivial hP hD d_Store_countOf_18
theorem d_Store_find_0 : decode prog_10_method_10_code 0 = .ok (.aload_n 0, 1) := by decide +kernel
theorem d_Store_find_1 : decode prog_10_method_10_code 1 = .ok (.iload_n 1, 1) := by decide +kernel
theorem d_Store_find_2 : decode prog_10_method_10_code 2 = .ok (.invokevirtual 59, 3) := by decide +kernel
theorem d_Store_find_5 : decode prog_10_method_10_code 5 = .ok (.ifCond .ne 5, 3) := by decide +kernel
theorem d_Store_find_10 : decode prog_10_method_10_code 10 = .ok (.iload_n 1, 1) := by decide +kernel
theorem d_Store_find_11 : decode prog_10_method_10_code 11 = .ok (.invokestatic 62, 3) := by decide +kernel
theorem k_3_191 : Cond.code ⟨"PageScribe$Store", "firstEntry", "(I)I"⟩ prog_10_method_9_code 1 (some .int) ∈ gw := gw_of (tb_3 (List.mem_of_getElem? (i := 191) (by decide +kernel))) (by decide +kernel)
theorem k_3_189 : Cond.methodLink "PageScribe$Store" 62 ⟨"PageScribe$Store", "firstEntry", "(I)I"⟩ ∈ gw := gw_of (tb_3 (List.mem_of_getElem? (i := 189) (by decide +kernel))) (by decide +kernel)
theorem k_3_190 : Cond.static ⟨"PageScribe$Store", "firstEntry", "(I)I"⟩ ∈ gw := gw_of (tb_3 (List.mem_of_getElem? (i := 190) (by decide +kernel))) (by decide +kernel)
theorem d_Store_find_14 : decode prog_10_method_10_code 14 = .ok (.istore_n 3, 1) := by decide +kernel
theorem d_Store_find_15 : decode prog_10_method_10_code 15 = .ok (.iconst 0, 1) := by decide +kernel
theorem d_Store_find_16 : decode prog_10_method_10_code 16 = .ok (.istore 4, 2) := by decide +kernel
theorem d_Store_find_18 : decode prog_10_method_10_code 18 = .ok (.iload 4, 2) := by decide +kernel
theorem d_Store_find_20 : decode prog_10_method_10_code 20 = .ok (.aload_n 0, 1) := by decide +kernel
theorem d_Store_find_21 : decode prog_10_method_10_code 21 = .ok (.getfield 24, 3) := by decide +kernel
theorem d_Store_find_24 : decode prog_10_method_10_code 24 = .ok (.iload_n 1, 1) := by decide +kernel
theorem d_Store_find_25 : decode prog_10_method_10_code 25 = .ok (.iaload, 1) := by decide +kernel
theorem d_Store_find_26 : decode prog_10_method_10_code 26 = .ok (.if_icmp .ge 27, 3) := by decide +kernel
theorem d_Store_find_53 : decode prog_10_method_10_code 53 = .ok (.iconst (-1), 1) := by decide +kernel
theorem d_Store_find_54 : decode prog_10_method_10_code 54 = .ok (.ireturn, 1) := by decide +kernel
theorem d_Store_find_29 : decode prog_10_method_10_code 29 = .ok (.aload_n 0, 1) := by decide +kernel
theorem d_Store_find_30 : decode prog_10_method_10_code 30 = .ok (.getfield 27, 3) := by decide +kernel
theorem k_1_113 : Cond.fieldLink "PageScribe$Store" 27 "PageScribe$Store" "names" "[I" ∈ gw := gw_of (tb_1 (List.mem_of_getElem? (i := 113) (by decide +kernel))) (by decide +kernel)
theorem d_Store_find_33 : decode prog_10_method_10_code 33 = .ok (.iload_n 3, 1) := by decide +kernel
theorem d_Store_find_34 : decode prog_10_method_10_code 34 = .ok (.iload 4, 2) := by decide +kernel
theorem d_Store_find_36 : decode prog_10_method_10_code 36 = .ok (.iadd, 1) := by decide +kernel
theorem d_Store_find_37 : decode prog_10_method_10_code 37 = .ok (.iaload, 1) := by decide +kernel
theorem d_Store_find_38 : decode prog_10_method_10_code 38 = .ok (.iload_n 2, 1) := by decide +kernel
theorem d_Store_find_39 : decode prog_10_method_10_code 39 = .ok (.if_icmp .ne 8, 3) := by decide +kernel
theorem d_Store_find_47 : decode prog_10_method_10_code 47 = .ok (.iinc 4 1, 3) := by decide +kernel
theorem d_Store_find_50 : decode prog_10_method_10_code 50 = .ok (.goto (-32), 3) := by decide +kernel
theorem d_Store_find_42 : decode prog_10_method_10_code 42 = .ok (.iload_n 3, 1) := by decide +kernel
theorem d_Store_find_43 : decode prog_10_method_10_code 43 = .ok (.iload 4, 2) := by decide +kernel
theorem d_Store_find_45 : decode prog_10_method_10_code 45 = .ok (.iadd, 1) := by decide +kernel
theorem d_Store_find_46 : decode prog_10_method_10_code 46 = .ok (.ireturn, 1) := by decide +kernel
theorem d_Store_find_8 : decode prog_10_method_10_code 8 = .ok (.iconst (-1), 1) := by decide +kernel
theorem d_Store_find_9 : decode prog_10_method_10_code 9 = .ok (.ireturn, 1) := by decide +kernel
set_option maxHeartbeats 4000000 in
set_option maxRecDepth 100000 in
theorem c_Store_find (l : Launch) (D : va_G) (T : Nat → ClassId) (ad : Nat → Nat) (S : CS) (p0 : Int32) (p1 : Int32) (sz : Nat)  (hI : CIv S) : Met l ⟨"PageScribe$Store", "find", "(II)I"⟩ (wy ⟨"PageScribe$Store", "find", "(II)I"⟩ prog_10_method_10_code 5 (some .int)) ({ frames := 1, cells := 0, slots := 0, locals := 70 }) (va_Pc [.ref (ad 12), .int p0, .int p1] (Pw D T (cW T ad S) sz E0)) (va_Qi (fun (r : Int32) (u : Unit) => True) (fun u t => Bw D T (va_A (cW T ad S) sz) (cW T ad S) t) (va_A (cW T ad S) sz)) 0 0 (va_A (cW T ad S) sz) := by
  refine j_met (y := ⟨"PageScribe$Store", "find", "(II)I"⟩) (b := prog_10_method_10_code) (n := 5) (ret := (some .int)) (av := [.ref (ad 12), .int p0, .int p1]) (Qc := fun A => va_Qi (fun (r : Int32) (u : Unit) => True) (fun u t => Bw D T A (cW T ad S) t) A) (by decide +kernel) (Nat.le_of_ble_eq_true rfl) (fun p e s m args below meth c A ls F hr hlocks hnm hK hP hD hS hA hN hE hl => ?_)
  obtain ⟨hx, hb, hml, hown, hts⟩ := id F
  have hl : lv_has ls 5 [(0, .ref (ad 12)), (1, .int p0), (2, .int p1)] := hl
  obtain ⟨i_vst, i_vc0, i_vc1, i_vc2, i_vc3, i_vv0, i_vv1, i_vv2, i_vv3, i_vg, i_wct, i_wln, i_sd0, i_sd1, i_sd2, i_sd3, i_rln, i_rtx, i_rpl, i_rtk, i_cnv, i_pts, i_cik, i_und⟩ := id hI
  have rp0 := zt_rng p0
  have rp1 := zt_rng p1
  refine lv_aload_n hx hb d_Store_find_0 rfl (lv_at hl 0 rfl) ?_
  refine lv_iload_n hx hb d_Store_find_1 rfl (lv_at hl 1 rfl) ?_
  refine jc_ci (w := (fun _ => S)) hK hP hD hS hA (va_runV (As := [.int p0]) (rest := []) F (c_Store_hasDict l D T ad S p0  s.heap.size) (j_cV (k := 1) (C := "PageScribe$Store") hts k_3_188 k_1_6 k_3_185 k_3_186 k_3_187 (by decide +kernel) ⟨Nat.le_of_ble_eq_true rfl, Nat.le_of_ble_eq_true rfl⟩) (j_preV (q0 := 12) (ci := 3) hK hP hD csc csc_all csc_nd cl_3 (ce_12 _ _ _) (fun _ _ _ _ h => h) (fun _ _ _ => trivial)) rfl rfl hl.1 rfl (lv_room (Nat.le_of_ble_eq_true rfl)) d_Store_find_2 ⟨Nat.le_of_ble_eq_true rfl, Nat.le_of_ble_eq_true rfl⟩) (fun rv1 u1 H locs hw1 hP hD hS => ?_)
  have hP : va_P D classes (cW T ad S) H := hP
  have hD : va_D A (cW T ad S) := hD
  have qhw1 : rv1.toInt = 0 ∨ (rv1.toInt = 1 ∧ 0 ≤ p0.toInt ∧ p0.toInt < 7) := hw1
  have rrv1 := zt_rng rv1
  refine lv_if_ne (tgt := 10) hx hb d_Store_find_5 (by decide) (fun c5_1 => ?_) (fun c5_1 => ?_)
  · first | have fc5_1 : rv1.toInt < 0 := (by have := zt_ne (show rv1.toInt = _ from rfl) tI_0 c5_1; omega) | have fc5_1 : 0 < rv1.toInt := (by have := zt_ne (show rv1.toInt = _ from rfl) tI_0 c5_1; omega) | skip
    refine lv_iload_n hx hb d_Store_find_10 rfl (lv_at hl 1 rfl) ?_
    refine j_ci (wc := []) (wr := (cW T ad S)) hK hP hD hS hA [] csc rfl csc_all csc_nd (fun _ _ => List.not_mem_nil) (va_runS (As := [.int p0]) (rest := []) F (c_Store_firstEntry l D T p0  H.size (show 0 ≤ p0.toInt ∧ p0.toInt ≤ 6 by omega)) (j_cS (k := 1) hts k_3_191 k_1_6 k_3_189 k_3_190 (by decide +kernel) ⟨Nat.le_of_ble_eq_true rfl, Nat.le_of_ble_eq_true rfl⟩) (j_preS hK hP hD [] rfl (by decide) (fun _ _ _ _ h => h) (fun _ _ _ => trivial)) rfl rfl hl.1 rfl (lv_room (Nat.le_of_ble_eq_true rfl)) d_Store_find_11 ⟨Nat.le_of_ble_eq_true rfl, Nat.le_of_ble_eq_true rfl⟩) (fun rv2 u2 H locs hw2 hP hD hS => ?_)
    have hP : va_P D classes (cW T ad S) H := hP
    have hD : va_D A (cW T ad S) := hD
    have qhw2 : (p0.toInt = 0 → rv2.toInt = 0) ∧ (¬ p0.toInt = 0 → rv2.toInt = 10 + 10 * p0.toInt) := hw2
    have rrv2 := zt_rng rv2
    refine lv_istore_n (lv' := [(3, .int rv2), (0, .ref (ad 12)), (1, .int p0), (2, .int p1)]) hx hb d_Store_find_14 rfl hl (by decide) rfl (fun ls hl => ?_)
    refine lv_iconst (v := 0) hx hb d_Store_find_15 (by decide) ?_
    refine lv_istore (lv' := [(4, .int 0), (3, .int rv2), (0, .ref (ad 12)), (1, .int p0), (2, .int p1)]) hx hb d_Store_find_16 hl (by decide) rfl (fun ls hl => ?_)
    refine j_loop (α := Int32) (fun k x H locs ls => (0 ≤ x.toInt ∧ x.toInt ≤ 80 ∧ 80 ≤ x.toInt + ((k : Nat) : Int)) ∧ va_P D classes (cW T ad S) H ∧ va_D A (cW T ad S) ∧ va_S A s.heap H locs ∧ lv_has ls 5 [(4, .int x), (3, .int rv2), (0, .ref (ad 12)), (1, .int p0), (2, .int p1)]) (fun _ _ ls => F0 m 18 ls []) (fun k x H locs ls hI9 ih => ?_) 80 (0 : Int32) _ _ _ ⟨(show 0 ≤ (0 : Int32).toInt ∧ (0 : Int32).toInt ≤ 80 ∧ 80 ≤ (0 : Int32).toInt + ((80 : Nat) : Int) by have := tI_0; omega), hP, hD, hS, lv_sub hl [0, 1, 2, 3, 4] rfl⟩
    obtain ⟨i, rfl⟩ : ∃ z, z = x := ⟨_, rfl⟩
    obtain ⟨hf1, hP, hD, hS, hl⟩ := hI9
    have hf1 : 0 ≤ i.toInt ∧ i.toInt ≤ 80 ∧ 80 ≤ i.toInt + ((k : Nat) : Int) := hf1
    have hP : va_P D classes (cW T ad S) H := hP
    have hD : va_D A (cW T ad S) := hD
    have hl : lv_has ls 5 [(4, .int i), (3, .int rv2), (0, .ref (ad 12)), (1, .int p0), (2, .int p1)] := hl
    refine lv_iload hx hb d_Store_find_18 (lv_at hl 0 rfl) ?_
    refine lv_aload_n hx hb d_Store_find_20 rfl (lv_at hl 2 rfl) ?_
    refine va_get (D := D) (ci := 3) (v := .ref (ad 18)) (C := "PageScribe$Store") (T := F_Store) (N := 5) hx hb hts i_Store hown hK hP 12 (ce_12 _ _ _) cl_3 2 (by decide) (hts _ k_1_112) (fun _ h9 => h9) rfl d_Store_find_21 ?_
    refine lv_iload_n hx hb d_Store_find_24 rfl (lv_at hl 3 rfl) ?_
    refine va_iald hx hb hK hP 18 0 (ce_18 _ _ _) rfl (zt_in (show p0.toInt = _ from rfl) (by omega) (by omega)) d_Store_find_25 ?_
    refine lv_topi (fun x1 ex1 => ?_)
    have gx1 : x1 = (a_xd0_counts S) p0.toInt.toNat := ex1.trans (congrArg _ (zt_ix (show p0.toInt = _ from rfl)))
    have fx1 : x1.toInt = ((a_xd0_counts S) p0.toInt.toNat).toInt := by rw [gx1]
    have rx1 := zt_rng x1
    have kx1 := sd_at i_sd0 (k := p0.toInt.toNat) (by omega)
    refine lv_icmp_ge (tgt := 53) hx hb d_Store_find_26 (by decide) (fun c26_1 => ?_) (fun c26_1 => ?_)
    · have fc26_1 : x1.toInt ≤ i.toInt := zt_le (show x1.toInt = _ from rfl) (show i.toInt = _ from rfl) c26_1
      refine lv_iconst (v := (-1)) hx hb d_Store_find_53 (by decide) ?_
      exact j_iret F hr hlocks hK hS () trivial hP hD d_Store_find_54
    · have fc26_1 : i.toInt < x1.toInt := Int.not_le.mp (zt_nle (show x1.toInt = _ from rfl) (show i.toInt = _ from rfl) c26_1)
      refine lv_aload_n hx hb d_Store_find_29 rfl (lv_at hl 2 rfl) ?_
      refine va_get (D := D) (ci := 3) (v := .ref (ad 19)) (C := "PageScribe$Store") (T := F_Store) (N := 5) hx hb hts i_Store hown hK hP 12 (ce_12 _ _ _) cl_3 3 (by decide) (hts _ k_1_113) (fun _ h9 => h9) rfl d_Store_find_30 ?_
      refine lv_iload_n hx hb d_Store_find_33 rfl (lv_at hl 1 rfl) ?_
      refine lv_iload hx hb d_Store_find_34 (lv_at hl 0 rfl) ?_
      refine lv_iadd hx hb d_Store_find_36 ?_
      refine lv_topi (fun x2 ex2 => ?_)
      have fx2 : x2.toInt = (i.toInt + rv2.toInt) := by rw [ex2]; exact (zt_add (show rv2.toInt = _ from rfl) (show i.toInt = _ from rfl) (by omega) (by omega)).trans (by omega)
      refine va_iald hx hb hK hP 19 0 (ce_19 _ _ _) rfl (zt_in fx2 (by omega) (by omega)) d_Store_find_37 ?_
      refine lv_topi (fun x3 ex3 => ?_)
      have gx3 : x3 = (a_xd0_names S) (i.toInt + rv2.toInt).toNat := ex3.trans (congrArg _ (zt_ix fx2))
      have fx3 : x3.toInt = ((a_xd0_names S) (i.toInt + rv2.toInt).toNat).toInt := by rw [gx3]
      have rx3 := zt_rng x3
      refine lv_iload_n hx hb d_Store_find_38 rfl (lv_at hl 4 rfl) ?_
      refine lv_icmp_ne (tgt := 47) hx hb d_Store_find_39 (by decide) (fun c39_1 => ?_) (fun c39_1 => ?_)
      · first | have fc39_1 : x3.toInt < p1.toInt := (by have := zt_ne (show x3.toInt = _ from rfl) (show p1.toInt = _ from rfl) c39_1; omega) | have fc39_1 : p1.toInt < x3.toInt := (by have := zt_ne (show x3.toInt = _ from rfl) (show p1.toInt = _ from rfl) c39_1; omega) | skip
        refine lv_iinc (v := (i + 1)) (lv' := [(4, .int (i + 1)), (3, .int rv2), (0, .ref (ad 12)), (1, .int p0), (2, .int p1)]) hx hb d_Store_find_47 hl (k := 0) rfl (by first | rfl | decide) (by decide) rfl (fun ls hl => ?_)
        obtain ⟨x4, ex4⟩ : ∃ z, z = (i + 1) := ⟨_, rfl⟩
        rw [← ex4] at hl
        have fx4 : x4.toInt = (i.toInt + 1) := by rw [ex4]; exact (zt_add (show i.toInt = _ from rfl) tI_1 (by omega) (by omega)).trans (by omega)
        have hl : lv_has ls 5 [(4, .int x4), (3, .int rv2), (0, .ref (ad 12)), (1, .int p0), (2, .int p1)] := hl
        refine lv_goto (tgt := 18) hx hb d_Store_find_50 (by decide) ?_
        exact ih (k - 1) x4 _ _ _ (by omega) ⟨(show 0 ≤ x4.toInt ∧ x4.toInt ≤ 80 ∧ 80 ≤ x4.toInt + (((k - 1) : Nat) : Int) by omega), hP, hD, hS, lv_sub hl [0, 1, 2, 3, 4] rfl⟩
      · have fc39_1 : x3.toInt = p1.toInt := zt_eq (show x3.toInt = _ from rfl) (show p1.toInt = _ from rfl) c39_1
        refine lv_iload_n hx hb d_Store_find_42 rfl (lv_at hl 1 rfl) ?_
        refine lv_iload hx hb d_Store_find_43 (lv_at hl 0 rfl) ?_
        refine lv_iadd hx hb d_Store_find_45 ?_
        refine lv_topi (fun x5 ex5 => ?_)
        have rx5 := zt_rng x5
        exact j_iret F hr hlocks hK hS () trivial hP hD d_Store_find_46
  · have fc5_1 : rv1.toInt = 0 := zt_eq (show rv1.toInt = _ from rfl) tI_0 c5_1
    refine lv_iconst (v := (-1)) hx hb d_Store_find_8 (by decide) ?_
    exact j_iret F hr hlocks hK hS () trivial hP hD d_Store_find_9
theorem d_Store_define_0 : decode prog_10_method_11_code 0 = .ok (.aload_n 0, 1) := by decide +kernel
theorem d_Store_define_1 : decode prog_10_method_11_code 1 = .ok (.iload_n 1, 1) := by decide +kernel
theorem d_Store_define_2 : decode prog_10_method_11_code 2 = .ok (.iload_n 2, 1) := by decide +kernel
theorem d_Store_define_3 : decode prog_10_method_11_code 3 = .ok (.invokevirtual 66, 3) := by decide +kernel
theorem k_3_184 : Cond.code ⟨"PageScribe$Store", "find", "(II)I"⟩ prog_10_method_10_code 5 (some .int) ∈ gw := gw_of (tb_3 (List.mem_of_getElem? (i := 184) (by decide +kernel))) (by decide +kernel)
theorem k_5_32 : Cond.methodLink "PageScribe$Store" 66 ⟨"PageScribe$Store", "find", "(II)I"⟩ ∈ gw := gw_of (tb_5 (List.mem_of_getElem? (i := 32) (by decide +kernel))) (by decide +kernel)
theorem k_3_182 : Cond.instanceMethod ⟨"PageScribe$Store", "find", "(II)I"⟩ ∈ gw := gw_of (tb_3 (List.mem_of_getElem? (i := 182) (by decide +kernel))) (by decide +kernel)
theorem k_3_183 : Cond.selects "PageScribe$Store" ⟨"PageScribe$Store", "find", "(II)I"⟩ ⟨"PageScribe$Store", "find", "(II)I"⟩ ∈ gw := gw_of (tb_3 (List.mem_of_getElem? (i := 183) (by decide +kernel))) (by decide +kernel)
theorem d_Store_define_6 : decode prog_10_method_11_code 6 = .ok (.istore 5, 2) := by decide +kernel
theorem d_Store_define_8 : decode prog_10_method_11_code 8 = .ok (.iload 5, 2) := by decide +kernel
theorem d_Store_define_10 : decode prog_10_method_11_code 10 = .ok (.ifCond .ge 60, 3) := by decide +kernel
theorem d_Store_define_70 : decode prog_10_method_11_code 70 = .ok (.aload_n 0, 1) := by decide +kernel
theorem d_Store_define_71 : decode prog_10_method_11_code 71 = .ok (.getfield 30, 3) := by decide +kernel
theorem k_1_114 : Cond.fieldLink "PageScribe$Store" 30 "PageScribe$Store" "values" "LPageScribe$Row;" ∈ gw := gw_of (tb_1 (List.mem_of_getElem? (i := 114) (by decide +kernel))) (by decide +kernel)
theorem d_Store_define_74 : decode prog_10_method_11_code 74 = .ok (.iload 5, 2) := by decide +kernel
theorem d_Store_define_76 : decode prog_10_method_11_code 76 = .ok (.aload_n 3, 1) := by decide +kernel
theorem d_Store_define_77 : decode prog_10_method_11_code 77 = .ok (.iload 4, 2) := by decide +kernel
theorem d_Store_define_79 : decode prog_10_method_11_code 79 = .ok (.invokevirtual 69, 3) := by decide +kernel
theorem k_5_33 : Cond.methodLink "PageScribe$Store" 69 ⟨"PageScribe$Row", "kindAt", "(I)I"⟩ ∈ gw := gw_of (tb_5 (List.mem_of_getElem? (i := 33) (by decide +kernel))) (by decide +kernel)
theorem d_Store_define_82 : decode prog_10_method_11_code 82 = .ok (.aload_n 3, 1) := by decide +kernel
theorem d_Store_define_83 : decode prog_10_method_11_code 83 = .ok (.iload 4, 2) := by decide +kernel
theorem d_Store_define_85 : decode prog_10_method_11_code 85 = .ok (.invokevirtual 72, 3) := by decide +kernel
theorem k_5_34 : Cond.methodLink "PageScribe$Store" 72 ⟨"PageScribe$Row", "numberAt", "(I)I"⟩ ∈ gw := gw_of (tb_5 (List.mem_of_getElem? (i := 34) (by decide +kernel))) (by decide +kernel)
theorem d_Store_define_88 : decode prog_10_method_11_code 88 = .ok (.aload_n 3, 1) := by decide +kernel
theorem d_Store_define_89 : decode prog_10_method_11_code 89 = .ok (.iload 4, 2) := by decide +kernel
theorem d_Store_define_91 : decode prog_10_method_11_code 91 = .ok (.invokevirtual 75, 3) := by decide +kernel
theorem k_5_35 : Cond.methodLink "PageScribe$Store" 75 ⟨"PageScribe$Row", "realAt", "(I)D"⟩ ∈ gw := gw_of (tb_5 (List.mem_of_getElem? (i := 35) (by decide +kernel))) (by decide +kernel)
theorem d_Store_define_94 : decode prog_10_method_11_code 94 = .ok (.invokevirtual 79, 3) := by decide +kernel
theorem k_5_36 : Cond.methodLink "PageScribe$Store" 79 ⟨"PageScribe$Row", "put", "(IIID)V"⟩ ∈ gw := gw_of (tb_5 (List.mem_of_getElem? (i := 36) (by decide +kernel))) (by decide +kernel)
theorem k_8_182 : Cond.selects "PageScribe$Row" ⟨"PageScribe$Row", "put", "(IIID)V"⟩ ⟨"PageScribe$Row", "put", "(IIID)V"⟩ ∈ gw := gw_of (tb_8 (List.mem_of_getElem? (i := 182) (by decide +kernel))) (by decide +kernel)
theorem d_Store_define_97 : decode prog_10_method_11_code 97 = .ok (.iconst 0, 1) := by decide +kernel
theorem d_Store_define_98 : decode prog_10_method_11_code 98 = .ok (.ireturn, 1) := by decide +kernel
theorem d_Store_define_13 : decode prog_10_method_11_code 13 = .ok (.aload_n 0, 1) := by decide +kernel
theorem d_Store_define_14 : decode prog_10_method_11_code 14 = .ok (.iload_n 1, 1) := by decide +kernel
theorem d_Store_define_15 : decode prog_10_method_11_code 15 = .ok (.invokevirtual 59, 3) := by decide +kernel
theorem d_Store_define_18 : decode prog_10_method_11_code 18 = .ok (.ifCond .eq 18, 3) := by decide +kernel
theorem d_Store_define_36 : decode prog_10_method_11_code 36 = .ok (.bipush 8, 2) := by decide +kernel
theorem d_Store_define_38 : decode prog_10_method_11_code 38 = .ok (.ireturn, 1) := by decide +kernel
theorem d_Store_define_21 : decode prog_10_method_11_code 21 = .ok (.aload_n 0, 1) := by decide +kernel
theorem d_Store_define_22 : decode prog_10_method_11_code 22 = .ok (.getfield 24, 3) := by decide +kernel
theorem d_Store_define_25 : decode prog_10_method_11_code 25 = .ok (.iload_n 1, 1) := by decide +kernel
theorem d_Store_define_26 : decode prog_10_method_11_code 26 = .ok (.iaload, 1) := by decide +kernel
theorem d_Store_define_27 : decode prog_10_method_11_code 27 = .ok (.aload_n 0, 1) := by decide +kernel
theorem d_Store_define_28 : decode prog_10_method_11_code 28 = .ok (.getfield 20, 3) := by decide +kernel
theorem d_Store_define_31 : decode prog_10_method_11_code 31 = .ok (.iload_n 1, 1) := by decide +kernel
theorem d_Store_define_32 : decode prog_10_method_11_code 32 = .ok (.iaload, 1) := by decide +kernel
theorem d_Store_define_33 : decode prog_10_method_11_code 33 = .ok (.if_icmp .lt 6, 3) := by decide +kernel
theorem d_Store_define_39 : decode prog_10_method_11_code 39 = .ok (.iload_n 1, 1) := by decide +kernel
theorem d_Store_define_40 : decode prog_10_method_11_code 40 = .ok (.invokestatic 62, 3) := by decide +kernel
theorem d_Store_define_43 : decode prog_10_method_11_code 43 = .ok (.aload_n 0, 1) := by decide +kernel
theorem d_Store_define_44 : decode prog_10_method_11_code 44 = .ok (.getfield 24, 3) := by decide +kernel
theorem d_Store_define_47 : decode prog_10_method_11_code 47 = .ok (.iload_n 1, 1) := by decide +kernel
theorem d_Store_define_48 : decode prog_10_method_11_code 48 = .ok (.iaload, 1) := by decide +kernel
theorem d_Store_define_49 : decode prog_10_method_11_code 49 = .ok (.iadd, 1) := by decide +kernel
theorem d_Store_define_50 : decode prog_10_method_11_code 50 = .ok (.istore 5, 2) := by decide +kernel
theorem d_Store_define_52 : decode prog_10_method_11_code 52 = .ok (.aload_n 0, 1) := by decide +kernel
theorem d_Store_define_53 : decode prog_10_method_11_code 53 = .ok (.getfield 27, 3) := by decide +kernel
theorem d_Store_define_56 : decode prog_10_method_11_code 56 = .ok (.iload 5, 2) := by decide +kernel
theorem d_Store_define_58 : decode prog_10_method_11_code 58 = .ok (.iload_n 2, 1) := by decide +kernel
theorem d_Store_define_59 : decode prog_10_method_11_code 59 = .ok (.iastore, 1) := by decide +kernel
theorem d_Store_define_60 : decode prog_10_method_11_code 60 = .ok (.aload_n 0, 1) := by decide +kernel
theorem d_Store_define_61 : decode prog_10_method_11_code 61 = .ok (.getfield 24, 3) := by decide +kernel
theorem d_Store_define_64 : decode prog_10_method_11_code 64 = .ok (.iload_n 1, 1) := by decide +kernel
theorem d_Store_define_65 : decode prog_10_method_11_code 65 = .ok (.dup2, 1) := by decide +kernel
theorem d_Store_define_66 : decode prog_10_method_11_code 66 = .ok (.iaload, 1) := by decide +kernel
theorem d_Store_define_67 : decode prog_10_method_11_code 67 = .ok (.iconst 1, 1) := by decide +kernel
theorem d_Store_define_68 : decode prog_10_method_11_code 68 = .ok (.iadd, 1) := by decide +kernel
theorem d_Store_define_69 : decode prog_10_method_11_code 69 = .ok (.iastore, 1) := by decide +kernel
set_option maxHeartbeats 4000000 in
set_option maxRecDepth 100000 in
theorem c_Store_define (l : Launch) (D : va_G) (T : Nat → ClassId) (ad : Nat → Nat) (S : CS) (p0 : Int32) (p1 : Int32) (p2 : Int32) (sz : Nat)  (hI : CIv S) : Met l ⟨"PageScribe$Store", "define", "(IILPageScribe$Row;I)I"⟩ (wy ⟨"PageScribe$Store", "define", "(IILPageScribe$Row;I)I"⟩ prog_10_method_11_code 6 (some .int)) ({ frames := 2, cells := 0, slots := 0, locals := 140 }) (va_Pc [.ref (ad 12), .int p0, .int p1, .ref (ad 1), .int p2] (Pw D T (cW T ad S) sz E0)) (va_Qi (fun (r : Int32) (u : CS) => CIv u ∧ kcL S u ∧ kcP S u ∧ kcU S u ∧ kcW S u) (fun u t => Bw D T (va_A (cW T ad S) sz) (cW T ad u) t) (va_A (cW T ad S) sz)) 0 0 (va_A (cW T ad S) sz) := by
  refine j_met (y := ⟨"PageScribe$Store", "define", "(IILPageScribe$Row;I)I"⟩) (b := prog_10_method_11_code) (n := 6) (ret := (some .int)) (av := [.ref (ad 12), .int p0, .int p1, .ref (ad 1), .int p2]) (Qc := fun A => va_Qi (fun (r : Int32) (u : CS) => CIv u ∧ kcL S u ∧ kcP S u ∧ kcU S u ∧ kcW S u) (fun u t => Bw D T A (cW T ad u) t) A) (by decide +kernel) (Nat.le_of_ble_eq_true rfl) (fun p e s m args below meth c A ls F hr hlocks hnm hK hP hD hS hA hN hE hl => ?_)
  obtain ⟨hx, hb, hml, hown, hts⟩ := id F
  have hl : lv_has ls 6 [(0, .ref (ad 12)), (1, .int p0), (2, .int p1), (3, .ref (ad 1)), (4, .int p2)] := hl
  obtain ⟨i_vst, i_vc0, i_vc1, i_vc2, i_vc3, i_vv0, i_vv1, i_vv2, i_vv3, i_vg, i_wct, i_wln, i_sd0, i_sd1, i_sd2, i_sd3, i_rln, i_rtx, i_rpl, i_rtk, i_cnv, i_pts, i_cik, i_und⟩ := id hI
  have rp0 := zt_rng p0
  have rp1 := zt_rng p1
  have rp2 := zt_rng p2
  refine lv_aload_n hx hb d_Store_define_0 rfl (lv_at hl 0 rfl) ?_
  refine lv_iload_n hx hb d_Store_define_1 rfl (lv_at hl 1 rfl) ?_
  refine lv_iload_n hx hb d_Store_define_2 rfl (lv_at hl 2 rfl) ?_
  refine jc_ci (w := (fun _ => S)) hK hP hD hS hA (va_runV (As := [.int p0, .int p1]) (rest := []) F (c_Store_find l D T ad S p0 p1  s.heap.size ⟨i_vst, i_vc0, i_vc1, i_vc2, i_vc3, i_vv0, i_vv1, i_vv2, i_vv3, i_vg, i_wct, i_wln, i_sd0, i_sd1, i_sd2, i_sd3, i_rln, i_rtx, i_rpl, i_rtk, i_cnv, i_pts, i_cik, i_und⟩) (j_cV (k := 2) (C := "PageScribe$Store") hts k_3_184 k_1_6 k_5_32 k_3_182 k_3_183 (by decide +kernel) ⟨Nat.le_of_ble_eq_true rfl, Nat.le_of_ble_eq_true rfl⟩) (j_preV (q0 := 12) (ci := 3) hK hP hD csc csc_all csc_nd cl_3 (ce_12 _ _ _) (fun _ _ _ _ h => h) (fun _ _ _ => trivial)) rfl rfl hl.1 rfl (lv_room (Nat.le_of_ble_eq_true rfl)) d_Store_define_3 ⟨Nat.le_of_ble_eq_true rfl, Nat.le_of_ble_eq_true rfl⟩) (fun rv1 u1 H locs hw1 hP hD hS => ?_)
  have hP : va_P D classes (cW T ad S) H := hP
  have hD : va_D A (cW T ad S) := hD
  have rrv1 := zt_rng rv1
  refine lv_istore (lv' := [(5, .int rv1), (0, .ref (ad 12)), (1, .int p0), (2, .int p1), (3, .ref (ad 1)), (4, .int p2)]) hx hb d_Store_define_6 hl (by decide) rfl (fun ls hl => ?_)
  refine lv_iload hx hb d_Store_define_8 (lv_at hl 0 rfl) ?_
  refine lv_if_ge (tgt := 70) hx hb d_Store_define_10 (by decide) (fun c10_1 => ?_) (fun c10_1 => ?_)
  · have fc10_1 : 0 ≤ rv1.toInt := zt_le tI_0 (show rv1.toInt = _ from rfl) c10_1
    refine lv_aload_n hx hb d_Store_define_70 rfl (lv_at hl 1 rfl) ?_
    refine va_get (D := D) (ci := 3) (v := .ref (ad 20)) (C := "PageScribe$Store") (T := F_Store) (N := 5) hx hb hts i_Store hown hK hP 12 (ce_12 _ _ _) cl_3 4 (by decide) (hts _ k_1_114) (fun _ h9 => h9) rfl d_Store_define_71 ?_
    refine lv_iload hx hb d_Store_define_74 (lv_at hl 0 rfl) ?_
    refine lv_aload_n hx hb d_Store_define_76 rfl (lv_at hl 4 rfl) ?_
    refine lv_iload hx hb d_Store_define_77 (lv_at hl 5 rfl) ?_
    refine jc_ci (w := (fun _ => S)) hK hP hD hS hA (va_runV (As := [.int p2]) (rest := [.int rv1, .ref (ad 20)]) F (c_Row_kindAt l D T ad S p2  H.size) (j_cV (k := 1) (C := "PageScribe$Stack") hts k_2_126 k_1_2 k_5_33 k_2_125 k_8_174 (by decide +kernel) ⟨Nat.le_of_ble_eq_true rfl, Nat.le_of_ble_eq_true rfl⟩) (j_preV (q0 := 1) (ci := 0) hK hP hD csc csc_all csc_nd cl_0 (ce_1 _ _ _) (fun _ _ _ _ h => h) (fun _ _ _ => trivial)) rfl rfl hl.1 rfl (lv_room (Nat.le_of_ble_eq_true rfl)) d_Store_define_79 ⟨Nat.le_of_ble_eq_true rfl, Nat.le_of_ble_eq_true rfl⟩) (fun rv2 u2 H locs hw2 hP hD hS => ?_)
    have hP : va_P D classes (cW T ad S) H := hP
    have hD : va_D A (cW T ad S) := hD
    have rrv2 := zt_rng rv2
    refine lv_aload_n hx hb d_Store_define_82 rfl (lv_at hl 4 rfl) ?_
    refine lv_iload hx hb d_Store_define_83 (lv_at hl 5 rfl) ?_
    refine jc_ci (w := (fun _ => S)) hK hP hD hS hA (va_runV (As := [.int p2]) (rest := [.int rv2, .int rv1, .ref (ad 20)]) F (c_Row_numberAt l D T ad S p2  H.size) (j_cV (k := 1) (C := "PageScribe$Stack") hts k_2_136 k_1_2 k_5_34 k_2_135 k_8_177 (by decide +kernel) ⟨Nat.le_of_ble_eq_true rfl, Nat.le_of_ble_eq_true rfl⟩) (j_preV (q0 := 1) (ci := 0) hK hP hD csc csc_all csc_nd cl_0 (ce_1 _ _ _) (fun _ _ _ _ h => h) (fun _ _ _ => trivial)) rfl rfl hl.1 rfl (lv_room (Nat.le_of_ble_eq_true rfl)) d_Store_define_85 ⟨Nat.le_of_ble_eq_true rfl, Nat.le_of_ble_eq_true rfl⟩) (fun rv3 u3 H locs hw3 hP hD hS => ?_)
    have hP : va_P D classes (cW T ad S) H := hP
    have hD : va_D A (cW T ad S) := hD
    have rrv3 := zt_rng rv3
    refine lv_aload_n hx hb d_Store_define_88 rfl (lv_at hl 4 rfl) ?_
    refine lv_iload hx hb d_Store_define_89 (lv_at hl 5 rfl) ?_
    refine jc_cd (w := (fun _ => S)) hK hP hD hS hA (va_runV (As := [.int p2]) (rest := [.int rv3, .int rv2, .int rv1, .ref (ad 20)]) F (c_Row_realAt l D T ad S p2  H.size ⟨i_vst, i_vc0, i_vc1, i_vc2, i_vc3, i_vv0, i_vv1, i_vv2, i_vv3, i_vg, i_wct, i_wln, i_sd0, i_sd1, i_sd2, i_sd3, i_rln, i_rtx, i_rpl, i_rtk, i_cnv, i_pts, i_cik, i_und⟩) (j_cV (k := 1) (C := "PageScribe$Stack") hts k_3_104 k_1_2 k_5_35 k_3_100 k_3_103 (by decide +kernel) ⟨Nat.le_of_ble_eq_true rfl, Nat.le_of_ble_eq_true rfl⟩) (j_preV (q0 := 1) (ci := 0) hK hP hD csc csc_all csc_nd cl_0 (ce_1 _ _ _) (fun _ _ _ _ h => h) (fun _ _ _ => trivial)) rfl rfl hl.1 rfl (lv_room (Nat.le_of_ble_eq_true rfl)) d_Store_define_91 ⟨Nat.le_of_ble_eq_true rfl, Nat.le_of_ble_eq_true rfl⟩) (fun rv4 u4 H locs hw4 hP hD hS => ?_)
    have hP : va_P D classes (cW T ad S) H := hP
    have hD : va_D A (cW T ad S) := hD
    have qhw4 : dB rv4 := hw4
    refine jc_cv (w := (fun u => u)) hK hP hD hS hA (va_runV (As := [.int rv1, .int rv2, .int rv3, .double rv4]) (rest := []) F (c_Row_put_20 l D T ad S rv1 rv2 rv3 rv4  H.size ⟨i_vst, i_vc0, i_vc1, i_vc2, i_vc3, i_vv0, i_vv1, i_vv2, i_vv3, i_vg, i_wct, i_wln, i_sd0, i_sd1, i_sd2, i_sd3, i_rln, i_rtx, i_rpl, i_rtk, i_cnv, i_pts, i_cik, i_und⟩ (show dB rv4 by omega)) (j_cV (k := 4) (C := "PageScribe$Row") hts k_4_62 k_1_2 k_5_36 k_4_61 k_8_182 (by decide +kernel) ⟨Nat.le_of_ble_eq_true rfl, Nat.le_of_ble_eq_true rfl⟩) (j_preV (q0 := 20) (ci := 4) hK hP hD csc csc_all csc_nd cl_4 (ce_20 _ _ _) (fun _ _ _ _ h => h) (fun _ _ _ => trivial)) rfl rfl hl.1 rfl (lv_room (Nat.le_of_ble_eq_true rfl)) d_Store_define_94 ⟨Nat.le_of_ble_eq_true rfl, Nat.le_of_ble_eq_true rfl⟩) (fun S1 H locs hw5 hP hD hS => ?_)
    have hP : va_P D classes (cW T ad S1) H := hP
    have hD : va_D A (cW T ad S1) := hD
    obtain ⟨⟨i_vst, i_vc0, i_vc1, i_vc2, i_vc3, i_vv0, i_vv1, i_vv2, i_vv3, i_vg, i_wct, i_wln, i_sd0, i_sd1, i_sd2, i_sd3, i_rln, i_rtx, i_rpl, i_rtk, i_cnv, i_pts, i_cik, i_und⟩, kpcL_S1, kpcP_S1, kpcU_S1, kpcW_S1⟩ := hw5
    have kScL_S1 : kcL S S1 := kcL_t (show kcL S S from (kcL_r S)) kpcL_S1
    have kScP_S1 : kcP S S1 := kcP_t (show kcP S S from (kcP_r S)) kpcP_S1
    have kScU_S1 : kcU S S1 := kcU_t (show kcU S S from (kcU_r S)) kpcU_S1
    have kScW_S1 : kcW S S1 := kcW_t (show kcW S S from (kcW_r S)) kpcW_S1
    have nxr_length_S1 : (f_xr_length S1).toInt = (f_xr_length S).toInt := congrArg Int32.toInt kpcL_S1
    have nxr_length_S1 : (f_xr_length S1).toInt = (f_xr_length S).toInt := congrArg Int32.toInt kpcP_S1.1
    have nxr_place_S1 : (f_xr_place S1).toInt = (f_xr_place S).toInt := congrArg Int32.toInt kpcP_S1.2.1
    have nxe_underWay_S1 : (f_xe_underWay S1).toInt = (f_xe_underWay S).toInt := congrArg Int32.toInt kpcU_S1
    have nxp_columns_S1 : (f_xp_columns S1).toInt = (f_xp_columns S).toInt := congrArg Int32.toInt kpcW_S1.1
    have nxp_rows_S1 : (f_xp_rows S1).toInt = (f_xp_rows S).toInt := congrArg Int32.toInt kpcW_S1.2
    refine lv_iconst (v := 0) hx hb d_Store_define_97 (by decide) ?_
    exact j_iret F hr hlocks hK hS S1 ⟨⟨i_vst, i_vc0, i_vc1, i_vc2, i_vc3, i_vv0, i_vv1, i_vv2, i_vv3, i_vg, i_wct, i_wln, i_sd0, i_sd1, i_sd2, i_sd3, i_rln, i_rtx, i_rpl, i_rtk, i_cnv, i_pts, i_cik, i_und⟩, kScL_S1, kScP_S1, kScU_S1, kScW_S1⟩ hP hD d_Store_define_98
  · have fc10_1 : rv1.toInt < 0 := Int.not_le.mp (zt_nle tI_0 (show rv1.toInt = _ from rfl) c10_1)
    refine lv_aload_n hx hb d_Store_define_13 rfl (lv_at hl 1 rfl) ?_
    refine lv_iload_n hx hb d_Store_define_14 rfl (lv_at hl 2 rfl) ?_
    refine jc_ci (w := (fun _ => S)) hK hP hD hS hA (va_runV (As := [.int p0]) (rest := []) F (c_Store_hasDict l D T ad S p0  H.size) (j_cV (k := 1) (C := "PageScribe$Store") hts k_3_188 k_1_6 k_3_185 k_3_186 k_3_187 (by decide +kernel) ⟨Nat.le_of_ble_eq_true rfl, Nat.le_of_ble_eq_true rfl⟩) (j_preV (q0 := 12) (ci := 3) hK hP hD csc csc_all csc_nd cl_3 (ce_12 _ _ _) (fun _ _ _ _ h => h) (fun _ _ _ => trivial)) rfl rfl hl.1 rfl (lv_room (Nat.le_of_ble_eq_true rfl)) d_Store_define_15 ⟨Nat.le_of_ble_eq_true rfl, Nat.le_of_ble_eq_true rfl⟩) (fun rv6 u5 H locs hw6 hP hD hS => ?_)
    have hP : va_P D classes (cW T ad S) H := hP
    have hD : va_D A (cW T ad S) := hD
    have qhw6 : rv6.toInt = 0 ∨ (rv6.toInt = 1 ∧ 0 ≤ p0.toInt ∧ p0.toInt < 7) := hw6
    have rrv6 := zt_rng rv6
    refine lv_if_eq (tgt := 36) hx hb d_Store_define_18 (by decide) (fun c18_1 => ?_) (fun c18_1 => ?_)
    · have fc18_1 : rv6.toInt = 0 := zt_eq (show rv6.toInt = _ from rfl) tI_0 c18_1
      refine lv_bipush (v := 8) hx hb d_Store_define_36 (by decide) ?_
      exact j_iret F hr hlocks hK hS S ⟨⟨i_vst, i_vc0, i_vc1, i_vc2, i_vc3, i_vv0, i_vv1, i_vv2, i_vv3, i_vg, i_wct, i_wln, i_sd0, i_sd1, i_sd2, i_sd3, i_rln, i_rtx, i_rpl, i_rtk, i_cnv, i_pts, i_cik, i_und⟩, (kcL_r S), (kcP_r S), (kcU_r S), (kcW_r S)⟩ hP hD d_Store_define_38
    · first | have fc18_1 : rv6.toInt < 0 := (by have := zt_ne (show rv6.toInt = _ from rfl) tI_0 c18_1; omega) | have fc18_1 : 0 < rv6.toInt := (by have := zt_ne (show rv6.toInt = _ from rfl) tI_0 c18_1; omega) | skip
      refine lv_aload_n hx hb d_Store_define_21 rfl (lv_at hl 1 rfl) ?_
      refine va_get (D := D) (ci := 3) (v := .ref (ad 18)) (C := "PageScribe$Store") (T := F_Store) (N := 5) hx hb hts i_Store hown hK hP 12 (ce_12 _ _ _) cl_3 2 (by decide) (hts _ k_1_112) (fun _ h9 => h9) rfl d_Store_define_22 ?_
      refine lv_iload_n hx hb d_Store_define_25 rfl (lv_at hl 2 rfl) ?_
      refine va_iald hx hb hK hP 18 0 (ce_18 _ _ _) rfl (zt_in (show p0.toInt = _ from rfl) (by omega) (by omega)) d_Store_define_26 ?_
      refine lv_topi (fun x1 ex1 => ?_)
      have gx1 : x1 = (a_xd0_counts S) p0.toInt.toNat := ex1.trans (congrArg _ (zt_ix (show p0.toInt = _ from rfl)))
      have fx1 : x1.toInt = ((a_xd0_counts S) p0.toInt.toNat).toInt := by rw [gx1]
      have rx1 := zt_rng x1
      have kx1 := sd_at i_sd0 (k := p0.toInt.toNat) (by omega)
      refine lv_aload_n hx hb d_Store_define_27 rfl (lv_at hl 1 rfl) ?_
      refine va_get (D := D) (ci := 3) (v := .ref (ad 17)) (C := "PageScribe$Store") (T := F_Store) (N := 5) hx hb hts i_Store hown hK hP 12 (ce_12 _ _ _) cl_3 1 (by decide) (hts _ k_1_111) (fun _ h9 => h9) rfl d_Store_define_28 ?_
      refine lv_iload_n hx hb d_Store_define_31 rfl (lv_at hl 2 rfl) ?_
      refine va_iald hx hb hK hP 17 0 (ce_17 _ _ _) rfl (zt_in (show p0.toInt = _ from rfl) (by omega) (by omega)) d_Store_define_32 ?_
      refine lv_topi (fun x2 ex2 => ?_)
      have gx2 : x2 = (a_xd0_rooms S) p0.toInt.toNat := ex2.trans (congrArg _ (zt_ix (show p0.toInt = _ from rfl)))
      have fx2 : x2.toInt = ((a_xd0_rooms S) p0.toInt.toNat).toInt := by rw [gx2]
      have rx2 := zt_rng x2
      refine lv_icmp_lt (tgt := 39) hx hb d_Store_define_33 (by decide) (fun c33_1 => ?_) (fun c33_1 => ?_)
      · have fc33_1 : x1.toInt < x2.toInt := zt_lt (show x1.toInt = _ from rfl) (show x2.toInt = _ from rfl) c33_1
        refine lv_iload_n hx hb d_Store_define_39 rfl (lv_at hl 2 rfl) ?_
        refine j_ci (wc := []) (wr := (cW T ad S)) hK hP hD hS hA [] csc rfl csc_all csc_nd (fun _ _ => List.not_mem_nil) (va_runS (As := [.int p0]) (rest := []) F (c_Store_firstEntry l D T p0  H.size (show 0 ≤ p0.toInt ∧ p0.toInt ≤ 6 by omega)) (j_cS (k := 1) hts k_3_191 k_1_6 k_3_189 k_3_190 (by decide +kernel) ⟨Nat.le_of_ble_eq_true rfl, Nat.le_of_ble_eq_true rfl⟩) (j_preS hK hP hD [] rfl (by decide) (fun _ _ _ _ h => h) (fun _ _ _ => trivial)) rfl rfl hl.1 rfl (lv_room (Nat.le_of_ble_eq_true rfl)) d_Store_define_40 ⟨Nat.le_of_ble_eq_true rfl, Nat.le_of_ble_eq_true rfl⟩) (fun rv7 u6 H locs hw7 hP hD hS => ?_)
        have hP : va_P D classes (cW T ad S) H := hP
        have hD : va_D A (cW T ad S) := hD
        have qhw7 : (p0.toInt = 0 → rv7.toInt = 0) ∧ (¬ p0.toInt = 0 → rv7.toInt = 10 + 10 * p0.toInt) := hw7
        have rrv7 := zt_rng rv7
        refine lv_aload_n hx hb d_Store_define_43 rfl (lv_at hl 1 rfl) ?_
        refine va_get (D := D) (ci := 3) (v := .ref (ad 18)) (C := "PageScribe$Store") (T := F_Store) (N := 5) hx hb hts i_Store hown hK hP 12 (ce_12 _ _ _) cl_3 2 (by decide) (hts _ k_1_112) (fun _ h9 => h9) rfl d_Store_define_44 ?_
        refine lv_iload_n hx hb d_Store_define_47 rfl (lv_at hl 2 rfl) ?_
        refine va_iald hx hb hK hP 18 0 (ce_18 _ _ _) rfl (zt_in (show p0.toInt = _ from rfl) (by omega) (by omega)) d_Store_define_48 ?_
        refine j_eqi (y := x1) ex1.symm ?_
        refine lv_iadd hx hb d_Store_define_49 ?_
        refine lv_topi (fun x3 ex3 => ?_)
        have fx3 : x3.toInt = (rv7.toInt + x1.toInt) := by rw [ex3]; exact (zt_add (show rv7.toInt = _ from rfl) (show x1.toInt = _ from rfl) (by omega) (by omega)).trans (by omega)
        refine lv_istore (lv' := [(5, .int x3), (0, .ref (ad 12)), (1, .int p0), (2, .int p1), (3, .ref (ad 1)), (4, .int p2)]) hx hb d_Store_define_50 hl (by decide) rfl (fun ls hl => ?_)
        refine lv_aload_n hx hb d_Store_define_52 rfl (lv_at hl 1 rfl) ?_
        refine va_get (D := D) (ci := 3) (v := .ref (ad 19)) (C := "PageScribe$Store") (T := F_Store) (N := 5) hx hb hts i_Store hown hK hP 12 (ce_12 _ _ _) cl_3 3 (by decide) (hts _ k_1_113) (fun _ h9 => h9) rfl d_Store_define_53 ?_
        refine lv_iload hx hb d_Store_define_56 (lv_at hl 0 rfl) ?_
        refine lv_iload_n hx hb d_Store_define_58 rfl (lv_at hl 3 rfl) ?_
        refine va_iast hx hb hK hP hD hS 19 0 (ce_19 _ _ _) rfl (zt_in fx3 (by omega) (by omega)) d_Store_define_59 (fun H locs hP hD hS => ?_)
        rw [cs_xd0_names] at hP hD
        rw [zt_ix fx3] at hP hD
        have hP : va_P D classes (cW T ad ((S.1, S.2.1, ((a_xc0_k S), (a_xc0_n S), (a_xc0_r S), (f_xc0_z S), (a_xd0_rooms S), (a_xd0_counts S), (upd (a_xd0_names S) ((rv7.toInt + x1.toInt).toNat) p1), (a_xv0_k S), (a_xv0_n S), (a_xv0_r S), (f_xv0_z S)), S.2.2.2.1, S.2.2.2.2.1, S.2.2.2.2.2.1, S.2.2.2.2.2.2.1, S.2.2.2.2.2.2.2.1, S.2.2.2.2.2.2.2.2) : CS)) H := hP
        have hD : va_D A (cW T ad ((S.1, S.2.1, ((a_xc0_k S), (a_xc0_n S), (a_xc0_r S), (f_xc0_z S), (a_xd0_rooms S), (a_xd0_counts S), (upd (a_xd0_names S) ((rv7.toInt + x1.toInt).toNat) p1), (a_xv0_k S), (a_xv0_n S), (a_xv0_r S), (f_xv0_z S)), S.2.2.2.1, S.2.2.2.2.1, S.2.2.2.2.2.1, S.2.2.2.2.2.2.1, S.2.2.2.2.2.2.2.1, S.2.2.2.2.2.2.2.2) : CS)) := hD
        refine lv_aload_n hx hb d_Store_define_60 rfl (lv_at hl 1 rfl) ?_
        refine va_get (D := D) (ci := 3) (v := .ref (ad 18)) (C := "PageScribe$Store") (T := F_Store) (N := 5) hx hb hts i_Store hown hK hP 12 (ce_12 _ _ _) cl_3 2 (by decide) (hts _ k_1_112) (fun _ h9 => h9) rfl d_Store_define_61 ?_
        refine lv_iload_n hx hb d_Store_define_64 rfl (lv_at hl 2 rfl) ?_
        refine lv_dup2_11 hx hb d_Store_define_65 rfl rfl ?_
        refine va_iald hx hb hK hP 18 0 (ce_18 _ _ _) rfl (zt_in (show p0.toInt = _ from rfl) (by omega) (by omega)) d_Store_define_66 ?_
        refine j_eqi (y := x1) ex1.symm ?_
        refine lv_iconst (v := 1) hx hb d_Store_define_67 (by decide) ?_
        refine lv_iadd hx hb d_Store_define_68 ?_
        refine lv_topi (fun x4 ex4 => ?_)
        have fx4 : x4.toInt = (x1.toInt + 1) := by rw [ex4]; exact (zt_add (show x1.toInt = _ from rfl) tI_1 (by omega) (by omega)).trans (by omega)
        refine va_iast hx hb hK hP hD hS 18 0 (ce_18 _ _ _) rfl (zt_in (show p0.toInt = _ from rfl) (by omega) (by omega)) d_Store_define_69 (fun H locs hP hD hS => ?_)
        rw [cs_xd0_counts] at hP hD
        rw [zt_ix (show p0.toInt = _ from rfl)] at hP hD
        have hP : va_P D classes (cW T ad ((S.1, S.2.1, ((a_xc0_k S), (a_xc0_n S), (a_xc0_r S), (f_xc0_z S), (a_xd0_rooms S), (upd (a_xd0_counts S) (p0.toInt.toNat) x4), (upd (a_xd0_names S) ((rv7.toInt + x1.toInt).toNat) p1), (a_xv0_k S), (a_xv0_n S), (a_xv0_r S), (f_xv0_z S)), S.2.2.2.1, S.2.2.2.2.1, S.2.2.2.2.2.1, S.2.2.2.2.2.2.1, S.2.2.2.2.2.2.2.1, S.2.2.2.2.2.2.2.2) : CS)) H := hP
        have hD : va_D A (cW T ad ((S.1, S.2.1, ((a_xc0_k S), (a_xc0_n S), (a_xc0_r S), (f_xc0_z S), (a_xd0_rooms S), (upd (a_xd0_counts S) (p0.toInt.toNat) x4), (upd (a_xd0_names S) ((rv7.toInt + x1.toInt).toNat) p1), (a_xv0_k S), (a_xv0_n S), (a_xv0_r S), (f_xv0_z S)), S.2.2.2.1, S.2.2.2.2.1, S.2.2.2.2.2.1, S.2.2.2.2.2.2.1, S.2.2.2.2.2.2.2.1, S.2.2.2.2.2.2.2.2) : CS)) := hD
        refine lv_aload_n hx hb d_Store_define_70 rfl (lv_at hl 1 rfl) ?_
        refine va_get (D := D) (ci := 3) (v := .ref (ad 20)) (C := "PageScribe$Store") (T := F_Store) (N := 5) hx hb hts i_Store hown hK hP 12 (ce_12 _ _ _) cl_3 4 (by decide) (hts _ k_1_114) (fun _ h9 => h9) rfl d_Store_define_71 ?_
        refine lv_iload hx hb d_Store_define_74 (lv_at hl 0 rfl) ?_
        refine lv_aload_n hx hb d_Store_define_76 rfl (lv_at hl 4 rfl) ?_
        refine lv_iload hx hb d_Store_define_77 (lv_at hl 5 rfl) ?_
        refine jc_ci (w := (fun _ => ((S.1, S.2.1, ((a_xc0_k S), (a_xc0_n S), (a_xc0_r S), (f_xc0_z S), (a_xd0_rooms S), (upd (a_xd0_counts S) (p0.toInt.toNat) x4), (upd (a_xd0_names S) ((rv7.toInt + x1.toInt).toNat) p1), (a_xv0_k S), (a_xv0_n S), (a_xv0_r S), (f_xv0_z S)), S.2.2.2.1, S.2.2.2.2.1, S.2.2.2.2.2.1, S.2.2.2.2.2.2.1, S.2.2.2.2.2.2.2.1, S.2.2.2.2.2.2.2.2) : CS))) hK hP hD hS hA (va_runV (As := [.int p2]) (rest := [.int x3, .ref (ad 20)]) F (c_Row_kindAt l D T ad ((S.1, S.2.1, ((a_xc0_k S), (a_xc0_n S), (a_xc0_r S), (f_xc0_z S), (a_xd0_rooms S), (upd (a_xd0_counts S) (p0.toInt.toNat) x4), (upd (a_xd0_names S) ((rv7.toInt + x1.toInt).toNat) p1), (a_xv0_k S), (a_xv0_n S), (a_xv0_r S), (f_xv0_z S)), S.2.2.2.1, S.2.2.2.2.1, S.2.2.2.2.2.1, S.2.2.2.2.2.2.1, S.2.2.2.2.2.2.2.1, S.2.2.2.2.2.2.2.2) : CS) p2  H.size) (j_cV (k := 1) (C := "PageScribe$Stack") hts k_2_126 k_1_2 k_5_33 k_2_125 k_8_174 (by decide +kernel) ⟨Nat.le_of_ble_eq_true rfl, Nat.le_of_ble_eq_true rfl⟩) (j_preV (q0 := 1) (ci := 0) hK hP hD csc csc_all csc_nd cl_0 (ce_1 _ _ _) (fun _ _ _ _ h => h) (fun _ _ _ => trivial)) rfl rfl hl.1 rfl (lv_room (Nat.le_of_ble_eq_true rfl)) d_Store_define_79 ⟨Nat.le_of_ble_eq_true rfl, Nat.le_of_ble_eq_true rfl⟩) (fun rv8 u7 H locs hw8 hP hD hS => ?_)
        have hP : va_P D classes (cW T ad ((S.1, S.2.1, ((a_xc0_k S), (a_xc0_n S), (a_xc0_r S), (f_xc0_z S), (a_xd0_rooms S), (upd (a_xd0_counts S) (p0.toInt.toNat) x4), (upd (a_xd0_names S) ((rv7.toInt + x1.toInt).toNat) p1), (a_xv0_k S), (a_xv0_n S), (a_xv0_r S), (f_xv0_z S)), S.2.2.2.1, S.2.2.2.2.1, S.2.2.2.2.2.1, S.2.2.2.2.2.2.1, S.2.2.2.2.2.2.2.1, S.2.2.2.2.2.2.2.2) : CS)) H := hP
        have hD : va_D A (cW T ad ((S.1, S.2.1, ((a_xc0_k S), (a_xc0_n S), (a_xc0_r S), (f_xc0_z S), (a_xd0_rooms S), (upd (a_xd0_counts S) (p0.toInt.toNat) x4), (upd (a_xd0_names S) ((rv7.toInt + x1.toInt).toNat) p1), (a_xv0_k S), (a_xv0_n S), (a_xv0_r S), (f_xv0_z S)), S.2.2.2.1, S.2.2.2.2.1, S.2.2.2.2.2.1, S.2.2.2.2.2.2.1, S.2.2.2.2.2.2.2.1, S.2.2.2.2.2.2.2.2) : CS)) := hD
        have rrv8 := zt_rng rv8
        refine lv_aload_n hx hb d_Store_define_82 rfl (lv_at hl 4 rfl) ?_
        refine lv_iload hx hb d_Store_define_83 (lv_at hl 5 rfl) ?_
        refine jc_ci (w := (fun _ => ((S.1, S.2.1, ((a_xc0_k S), (a_xc0_n S), (a_xc0_r S), (f_xc0_z S), (a_xd0_rooms S), (upd (a_xd0_counts S) (p0.toInt.toNat) x4), (upd (a_xd0_names S) ((rv7.toInt + x1.toInt).toNat) p1), (a_xv0_k S), (a_xv0_n S), (a_xv0_r S), (f_xv0_z S)), S.2.2.2.1, S.2.2.2.2.1, S.2.2.2.2.2.1, S.2.2.2.2.2.2.1, S.2.2.2.2.2.2.2.1, S.2.2.2.2.2.2.2.2) : CS))) hK hP hD hS hA (va_runV (As := [.int p2]) (rest := [.int rv8, .int x3, .ref (ad 20)]) F (c_Row_numberAt l D T ad ((S.1, S.2.1, ((a_xc0_k S), (a_xc0_n S), (a_xc0_r S), (f_xc0_z S), (a_xd0_rooms S), (upd (a_xd0_counts S) (p0.toInt.toNat) x4), (upd (a_xd0_names S) ((rv7.toInt + x1.toInt).toNat) p1), (a_xv0_k S), (a_xv0_n S), (a_xv0_r S), (f_xv0_z S)), S.2.2.2.1, S.2.2.2.2.1, S.2.2.2.2.2.1, S.2.2.2.2.2.2.1, S.2.2.2.2.2.2.2.1, S.2.2.2.2.2.2.2.2) : CS) p2  H.size) (j_cV (k := 1) (C := "PageScribe$Stack") hts k_2_136 k_1_2 k_5_34 k_2_135 k_8_177 (by decide +kernel) ⟨Nat.le_of_ble_eq_true rfl, Nat.le_of_ble_eq_true rfl⟩) (j_preV (q0 := 1) (ci := 0) hK hP hD csc csc_all csc_nd cl_0 (ce_1 _ _ _) (fun _ _ _ _ h => h) (fun _ _ _ => trivial)) rfl rfl hl.1 rfl (lv_room (Nat.le_of_ble_eq_true rfl)) d_Store_define_85 ⟨Nat.le_of_ble_eq_true rfl, Nat.le_of_ble_eq_true rfl⟩) (fun rv9 u8 H locs hw9 hP hD hS => ?_)
        have hP : va_P D classes (cW T ad ((S.1, S.2.1, ((a_xc0_k S), (a_xc0_n S), (a_xc0_r S), (f_xc0_z S), (a_xd0_rooms S), (upd (a_xd0_counts S) (p0.toInt.toNat) x4), (upd (a_xd0_names S) ((rv7.toInt + x1.toInt).toNat) p1), (a_xv0_k S), (a_xv0_n S), (a_xv0_r S), (f_xv0_z S)), S.2.2.2.1, S.2.2.2.2.1, S.2.2.2.2.2.1, S.2.2.2.2.2.2.1, S.2.2.2.2.2.2.2.1, S.2.2.2.2.2.2.2.2) : CS)) H := hP
        have hD : va_D A (cW T ad ((S.1, S.2.1, ((a_xc0_k S), (a_xc0_n S), (a_xc0_r S), (f_xc0_z S), (a_xd0_rooms S), (upd (a_xd0_counts S) (p0.toInt.toNat) x4), (upd (a_xd0_names S) ((rv7.toInt + x1.toInt).toNat) p1), (a_xv0_k S), (a_xv0_n S), (a_xv0_r S), (f_xv0_z S)), S.2.2.2.1, S.2.2.2.2.1, S.2.2.2.2.2.1, S.2.2.2.2.2.2.1, S.2.2.2.2.2.2.2.1, S.2.2.2.2.2.2.2.2) : CS)) := hD
        have rrv9 := zt_rng rv9
        refine lv_aload_n hx hb d_Store_define_88 rfl (lv_at hl 4 rfl) ?_
        refine lv_iload hx hb d_Store_define_89 (lv_at hl 5 rfl) ?_
        refine jc_cd (w := (fun _ => ((S.1, S.2.1, ((a_xc0_k S), (a_xc0_n S), (a_xc0_r S), (f_xc0_z S), (a_xd0_rooms S), (upd (a_xd0_counts S) (p0.toInt.toNat) x4), (upd (a_xd0_names S) ((rv7.toInt + x1.toInt).toNat) p1), (a_xv0_k S), (a_xv0_n S), (a_xv0_r S), (f_xv0_z S)), S.2.2.2.1, S.2.2.2.2.1, S.2.2.2.2.2.1, S.2.2.2.2.2.2.1, S.2.2.2.2.2.2.2.1, S.2.2.2.2.2.2.2.2) : CS))) hK hP hD hS hA (va_runV (As := [.int p2]) (rest := [.int rv9, .int rv8, .int x3, .ref (ad 20)]) F (c_Row_realAt l D T ad ((S.1, S.2.1, ((a_xc0_k S), (a_xc0_n S), (a_xc0_r S), (f_xc0_z S), (a_xd0_rooms S), (upd (a_xd0_counts S) (p0.toInt.toNat) x4), (upd (a_xd0_names S) ((rv7.toInt + x1.toInt).toNat) p1), (a_xv0_k S), (a_xv0_n S), (a_xv0_r S), (f_xv0_z S)), S.2.2.2.1, S.2.2.2.2.1, S.2.2.2.2.2.1, S.2.2.2.2.2.2.1, S.2.2.2.2.2.2.2.1, S.2.2.2.2.2.2.2.2) : CS) p2  H.size ⟨i_vst, i_vc0, i_vc1, i_vc2, i_vc3, i_vv0, i_vv1, i_vv2, i_vv3, i_vg, i_wct, i_wln, (sd_up (r := (a_xd0_rooms S)) i_sd0 (by omega)), i_sd1, i_sd2, i_sd3, i_rln, i_rtx, i_rpl, i_rtk, i_cnv, i_pts, i_cik, i_und⟩) (j_cV (k := 1) (C := "PageScribe$Stack") hts k_3_104 k_1_2 k_5_35 k_3_100 k_3_103 (by decide +kernel) ⟨Nat.le_of_ble_eq_true rfl, Nat.le_of_ble_eq_true rfl⟩) (j_preV (q0 := 1) (ci := 0) hK hP hD csc csc_all csc_nd cl_0 (ce_1 _ _ _) (fun _ _ _ _ h => h) (fun _ _ _ => trivial)) rfl rfl hl.1 rfl (lv_room (Nat.le_of_ble_eq_true rfl)) d_Store_define_91 ⟨Nat.le_of_ble_eq_true rfl, Nat.le_of_ble_eq_true rfl⟩) (fun rv10 u9 H locs hw10 hP hD hS => ?_)
        have hP : va_P D classes (cW T ad ((S.1, S.2.1, ((a_xc0_k S), (a_xc0_n S), (a_xc0_r S), (f_xc0_z S), (a_xd0_rooms S), (upd (a_xd0_counts S) (p0.toInt.toNat) x4), (upd (a_xd0_names S) ((rv7.toInt + x1.toInt).toNat) p1), (a_xv0_k S), (a_xv0_n S), (a_xv0_r S), (f_xv0_z S)), S.2.2.2.1, S.2.2.2.2.1, S.2.2.2.2.2.1, S.2.2.2.2.2.2.1, S.2.2.2.2.2.2.2.1, S.2.2.2.2.2.2.2.2) : CS)) H := hP
        have hD : va_D A (cW T ad ((S.1, S.2.1, ((a_xc0_k S), (a_xc0_n S), (a_xc0_r S), (f_xc0_z S), (a_xd0_rooms S), (upd (a_xd0_counts S) (p0.toInt.toNat) x4), (upd (a_xd0_names S) ((rv7.toInt + x1.toInt).toNat) p1), (a_xv0_k S), (a_xv0_n S), (a_xv0_r S), (f_xv0_z S)), S.2.2.2.1, S.2.2.2.2.1, S.2.2.2.2.2.1, S.2.2.2.2.2.2.1, S.2.2.2.2.2.2.2.1, S.2.2.2.2.2.2.2.2) : CS)) := hD
        have qhw10 : dB rv10 := hw10
        refine jc_cv (w := (fun u => u)) hK hP hD hS hA (va_runV (As := [.int x3, .int rv8, .int rv9, .double rv10]) (rest := []) F (c_Row_put_20 l D T ad ((S.1, S.2.1, ((a_xc0_k S), (a_xc0_n S), (a_xc0_r S), (f_xc0_z S), (a_xd0_rooms S), (upd (a_xd0_counts S) (p0.toInt.toNat) x4), (upd (a_xd0_names S) ((rv7.toInt + x1.toInt).toNat) p1), (a_xv0_k S), (a_xv0_n S), (a_xv0_r S), (f_xv0_z S)), S.2.2.2.1, S.2.2.2.2.1, S.2.2.2.2.2.1, S.2.2.2.2.2.2.1, S.2.2.2.2.2.2.2.1, S.2.2.2.2.2.2.2.2) : CS) x3 rv8 rv9 rv10  H.size ⟨i_vst, i_vc0, i_vc1, i_vc2, i_vc3, i_vv0, i_vv1, i_vv2, i_vv3, i_vg, i_wct, i_wln, (sd_up (r := (a_xd0_rooms S)) i_sd0 (by omega)), i_sd1, i_sd2, i_sd3, i_rln, i_rtx, i_rpl, i_rtk, i_cnv, i_pts, i_cik, i_und⟩ (show dB rv10 by first | omega | (simp only [fx3]; omega))) (j_cV (k := 4) (C := "PageScribe$Row") hts k_4_62 k_1_2 k_5_36 k_4_61 k_8_182 (by decide +kernel) ⟨Nat.le_of_ble_eq_true rfl, Nat.le_of_ble_eq_true rfl⟩) (j_preV (q0 := 20) (ci := 4) hK hP hD csc csc_all csc_nd cl_4 (ce_20 _ _ _) (fun _ _ _ _ h => h) (fun _ _ _ => trivial)) rfl rfl hl.1 rfl (lv_room (Nat.le_of_ble_eq_true rfl)) d_Store_define_94 ⟨Nat.le_of_ble_eq_true rfl, Nat.le_of_ble_eq_true rfl⟩) (fun S2 H locs hw11 hP hD hS => ?_)
        have hP : va_P D classes (cW T ad S2) H := hP
        have hD : va_D A (cW T ad S2) := hD
        obtain ⟨⟨i_vst, i_vc0, i_vc1, i_vc2, i_vc3, i_vv0, i_vv1, i_vv2, i_vv3, i_vg, i_wct, i_wln, i_sd0, i_sd1, i_sd2, i_sd3, i_rln, i_rtx, i_rpl, i_rtk, i_cnv, i_pts, i_cik, i_und⟩, kpcL_S2, kpcP_S2, kpcU_S2, kpcW_S2⟩ := hw11
        have kScL_S2 : kcL S S2 := kcL_t (show kcL S ((S.1, S.2.1, ((a_xc0_k S), (a_xc0_n S), (a_xc0_r S), (f_xc0_z S), (a_xd0_rooms S), (upd (a_xd0_counts S) (p0.toInt.toNat) x4), (upd (a_xd0_names S) ((rv7.toInt + x1.toInt).toNat) p1), (a_xv0_k S), (a_xv0_n S), (a_xv0_r S), (f_xv0_z S)), S.2.2.2.1, S.2.2.2.2.1, S.2.2.2.2.2.1, S.2.2.2.2.2.2.1, S.2.2.2.2.2.2.2.1, S.2.2.2.2.2.2.2.2) : CS) from (kcL_r S)) kpcL_S2
        have kScP_S2 : kcP S S2 := kcP_t (show kcP S ((S.1, S.2.1, ((a_xc0_k S), (a_xc0_n S), (a_xc0_r S), (f_xc0_z S), (a_xd0_rooms S), (upd (a_xd0_counts S) (p0.toInt.toNat) x4), (upd (a_xd0_names S) ((rv7.toInt + x1.toInt).toNat) p1), (a_xv0_k S), (a_xv0_n S), (a_xv0_r S), (f_xv0_z S)), S.2.2.2.1, S.2.2.2.2.1, S.2.2.2.2.2.1, S.2.2.2.2.2.2.1, S.2.2.2.2.2.2.2.1, S.2.2.2.2.2.2.2.2) : CS) from (kcP_r S)) kpcP_S2
        have kScU_S2 : kcU S S2 := kcU_t (show kcU S ((S.1, S.2.1, ((a_xc0_k S), (a_xc0_n S), (a_xc0_r S), (f_xc0_z S), (a_xd0_rooms S), (upd (a_xd0_counts S) (p0.toInt.toNat) x4), (upd (a_xd0_names S) ((rv7.toInt + x1.toInt).toNat) p1), (a_xv0_k S), (a_xv0_n S), (a_xv0_r S), (f_xv0_z S)), S.2.2.2.1, S.2.2.2.2.1, S.2.2.2.2.2.1, S.2.2.2.2.2.2.1, S.2.2.2.2.2.2.2.1, S.2.2.2.2.2.2.2.2) : CS) from (kcU_r S)) kpcU_S2
        have kScW_S2 : kcW S S2 := kcW_t (show kcW S ((S.1, S.2.1, ((a_xc0_k S), (a_xc0_n S), (a_xc0_r S), (f_xc0_z S), (a_xd0_rooms S), (upd (a_xd0_counts S) (p0.toInt.toNat) x4), (upd (a_xd0_names S) ((rv7.toInt + x1.toInt).toNat) p1), (a_xv0_k S), (a_xv0_n S), (a_xv0_r S), (f_xv0_z S)), S.2.2.2.1, S.2.2.2.2.1, S.2.2.2.2.2.1, S.2.2.2.2.2.2.1, S.2.2.2.2.2.2.2.1, S.2.2.2.2.2.2.2.2) : CS) from (kcW_r S)) kpcW_S2
        have nxr_length_S2 : (f_xr_length S2).toInt = (f_xr_length S).toInt := congrArg Int32.toInt kpcL_S2
        have nxr_length_S2 : (f_xr_length S2).toInt = (f_xr_length S).toInt := congrArg Int32.toInt kpcP_S2.1
        have nxr_place_S2 : (f_xr_place S2).toInt = (f_xr_place S).toInt := congrArg Int32.toInt kpcP_S2.2.1
        have nxe_underWay_S2 : (f_xe_underWay S2).toInt = (f_xe_underWay S).toInt := congrArg Int32.toInt kpcU_S2
        have nxp_columns_S2 : (f_xp_columns S2).toInt = (f_xp_columns S).toInt := congrArg Int32.toInt kpcW_S2.1
        have nxp_rows_S2 : (f_xp_rows S2).toInt = (f_xp_rows S).toInt := congrArg Int32.toInt kpcW_S2.2
        refine lv_iconst (v := 0) hx hb d_Store_define_97 (by decide) ?_
        exact j_iret F hr hlocks hK hS S2 ⟨⟨i_vst, i_vc0, i_vc1, i_vc2, i_vc3, i_vv0, i_vv1, i_vv2, i_vv3, i_vg, i_wct, i_wln, i_sd0, i_sd1, i_sd2, i_sd3, i_rln, i_rtx, i_rpl, i_rtk, i_cnv, i_pts, i_cik, i_und⟩, kScL_S2, kScP_S2, kScU_S2, kScW_S2⟩ hP hD d_Store_define_98
      · have fc33_1 : x2.toInt ≤ x1.toInt := Int.not_lt.mp (zt_nlt (show x1.toInt = _ from rfl) (show x2.toInt = _ from rfl) c33_1)
        refine lv_bipush (v := 8) hx hb d_Store_define_36 (by decide) ?_
        exact j_iret F hr hlocks hK hS S ⟨⟨i_vst, i_vc0, i_vc1, i_vc2, i_vc3, i_vv0, i_vv1, i_vv2, i_vv3, i_vg, i_wct, i_wln, i_sd0, i_sd1, i_sd2, i_sd3, i_rln, i_rtx, i_rpl, i_rtk, i_cnv, i_pts, i_cik, i_und⟩, (kcL_r S), (kcP_r S), (kcU_r S), (kcW_r S)⟩ hP hD d_Store_define_38
