theorem d_Mo_entry_0 : decode prog_15_method_60_code 0 = .ok (.iload_n 1, 1) := by decide +kernel
theorem d_Mo_entry_1 : decode prog_15_method_60_code 1 = .ok (.invokestatic 516, 3) := by decide +kernel
theorem k_7_150 : Cond.code ⟨"PageScribeModel", "base", "(I)I"⟩ prog_15_method_59_code 1 (some .int) ∈ gw := gw_of (tb_7 (List.mem_of_getElem? (i := 150) (by decide +kernel))) (by decide +kernel)
theorem k_7_148 : Cond.methodLink "PageScribeModel" 516 ⟨"PageScribeModel", "base", "(I)I"⟩ ∈ gw := gw_of (tb_7 (List.mem_of_getElem? (i := 148) (by decide +kernel))) (by decide +kernel)
theorem k_7_149 : Cond.static ⟨"PageScribeModel", "base", "(I)I"⟩ ∈ gw := gw_of (tb_7 (List.mem_of_getElem? (i := 149) (by decide +kernel))) (by decide +kernel)
theorem d_Mo_entry_4 : decode prog_15_method_60_code 4 = .ok (.istore 4, 2) := by decide +kernel
theorem d_Mo_entry_6 : decode prog_15_method_60_code 6 = .ok (.iload 4, 2) := by decide +kernel
theorem d_Mo_entry_8 : decode prog_15_method_60_code 8 = .ok (.iload_n 1, 1) := by decide +kernel
theorem d_Mo_entry_9 : decode prog_15_method_60_code 9 = .ok (.invokestatic 516, 3) := by decide +kernel
theorem d_Mo_entry_12 : decode prog_15_method_60_code 12 = .ok (.aload_n 0, 1) := by decide +kernel
theorem k_6_167 : Cond.fieldLink "PageScribeModel" 24 "PageScribeModel" "many" "[I" ∈ gw := gw_of (tb_6 (List.mem_of_getElem? (i := 167) (by decide +kernel))) (by decide +kernel)
theorem d_Mo_entry_13 : decode prog_15_method_60_code 13 = .ok (.getfield 24, 3) := by decide +kernel
theorem d_Mo_entry_16 : decode prog_15_method_60_code 16 = .ok (.iload_n 1, 1) := by decide +kernel
theorem d_Mo_entry_17 : decode prog_15_method_60_code 17 = .ok (.iaload, 1) := by decide +kernel
theorem d_Mo_entry_18 : decode prog_15_method_60_code 18 = .ok (.iadd, 1) := by decide +kernel
theorem d_Mo_entry_19 : decode prog_15_method_60_code 19 = .ok (.if_icmp .ge 28, 3) := by decide +kernel
theorem d_Mo_entry_47 : decode prog_15_method_60_code 47 = .ok (.iconst (-1), 1) := by decide +kernel
theorem d_Mo_entry_48 : decode prog_15_method_60_code 48 = .ok (.ireturn, 1) := by decide +kernel
theorem tI_m1 : (-1 : Int32).toInt = -1 := by decide +kernel
theorem d_Mo_entry_22 : decode prog_15_method_60_code 22 = .ok (.aload_n 0, 1) := by decide +kernel
theorem k_6_166 : Cond.fieldLink "PageScribeModel" 21 "PageScribeModel" "words" "[J" ∈ gw := gw_of (tb_6 (List.mem_of_getElem? (i := 166) (by decide +kernel))) (by decide +kernel)
theorem d_Mo_entry_23 : decode prog_15_method_60_code 23 = .ok (.getfield 21, 3) := by decide +kernel
theorem d_Mo_entry_26 : decode prog_15_method_60_code 26 = .ok (.iload 4, 2) := by decide +kernel
theorem d_Mo_entry_28 : decode prog_15_method_60_code 28 = .ok (.laload, 1) := by decide +kernel
theorem d_Mo_entry_29 : decode prog_15_method_60_code 29 = .ok (.lload_n 2, 1) := by decide +kernel
theorem d_Mo_entry_30 : decode prog_15_method_60_code 30 = .ok (.lcmp, 1) := by decide +kernel
theorem d_Mo_entry_31 : decode prog_15_method_60_code 31 = .ok (.ifCond .ne 10, 3) := by decide +kernel
theorem d_Mo_entry_41 : decode prog_15_method_60_code 41 = .ok (.iinc 4 1, 3) := by decide +kernel
theorem d_Mo_entry_44 : decode prog_15_method_60_code 44 = .ok (.goto (-38), 3) := by decide +kernel
theorem d_Mo_entry_34 : decode prog_15_method_60_code 34 = .ok (.sipush 250, 3) := by decide +kernel
theorem d_Mo_entry_37 : decode prog_15_method_60_code 37 = .ok (.iload 4, 2) := by decide +kernel
theorem d_Mo_entry_39 : decode prog_15_method_60_code 39 = .ok (.iadd, 1) := by decide +kernel
theorem tI_250 : (250 : Int32).toInt = 250 := by decide +kernel
theorem d_Mo_entry_40 : decode prog_15_method_60_code 40 = .ok (.ireturn, 1) := by decide +kernel
set_option maxHeartbeats 4000000 in
set_option maxRecDepth 100000 in
theorem m_entry (l : Launch) (D : va_G) (T : Nat → ClassId) (h0 : Nat) (ar : Nat → Nat) (S : MS) (p0 : Int32) (v0 : Int64) (sz : Nat) (hI : MI S) (h1 : 0 ≤ p0.toInt ∧ p0.toInt ≤ 6) : Met l ⟨"PageScribeModel", "entry", "(IJ)I"⟩ (wy ⟨"PageScribeModel", "entry", "(IJ)I"⟩ prog_15_method_60_code 5 (some .int)) ({ frames := 1, cells := 0, slots := 0, locals := 70 }) (va_Pc [.ref h0, .int p0, .long v0] (Pw D T (mW T h0 ar S) sz E0)) (va_Qi (fun (r : Int32) (u : Unit) => r.toInt = -1 ∨ (250 ≤ r.toInt ∧ r.toInt ≤ 329)) (fun u t => Bw D T (va_A (mW T h0 ar S) sz) (mW T h0 ar S) t) (va_A (mW T h0 ar S) sz)) 0 0 (va_A (mW T h0 ar S) sz) := by
  refine j_met (y := ⟨"PageScribeModel", "entry", "(IJ)I"⟩) (b := prog_15_method_60_code) (n := 5) (ret := (some .int)) (av := [.ref h0, .int p0, .long v0]) (Qc := fun A => va_Qi (fun (r : Int32) (u : Unit) => r.toInt = -1 ∨ (250 ≤ r.toInt ∧ r.toInt ≤ 329)) (fun u t => Bw D T A (mW T h0 ar S) t) A) (by decide +kernel) (Nat.le_of_ble_eq_true rfl) (fun p e s m args below meth c A ls F hr hlocks hnm hK hP hD hS hA hN hE hl => ?_)
  obtain ⟨hx, hb, hml, hown, hts⟩ := id F
  have hl : lv_has ls 5 [(0, .ref h0), (1, .int p0), (2, .long v0)] := hl
  obtain ⟨i_size, i_taken, i_vals, i_room, i_dicts, i_deep, i_open, i_cells, i_points, i_part, i_length, i_knows, i_page, i_text, i_pats, i_fuel, i_fr, i_ink⟩ := id hI
  refine lv_iload_n hx hb d_Mo_entry_0 rfl (lv_at hl 1 rfl) ?_
  refine j_ci (wc := []) (wr := (mW T h0 ar S)) hK hP hD hS hA [] isc rfl isc_all isc_nd (fun _ _ => List.not_mem_nil) (va_runS (As := [.int p0]) (rest := []) F (m_base l D T p0 s.heap.size (show 0 ≤ p0.toInt ∧ p0.toInt ≤ 6 by omega)) (j_cS (k := 1) hts k_7_150 k_1_12 k_7_148 k_7_149 (by decide +kernel) ⟨Nat.le_of_ble_eq_true rfl, Nat.le_of_ble_eq_true rfl⟩) (j_preS hK hP hD [] rfl (by decide) (fun _ _ _ _ h => h) (fun _ _ _ => trivial)) rfl rfl hl.1 rfl (lv_room (Nat.le_of_ble_eq_true rfl)) d_Mo_entry_1 ⟨Nat.le_of_ble_eq_true rfl, Nat.le_of_ble_eq_true rfl⟩) (fun rv1 u1 H locs hw1 hP hD hS => ?_)
  have hP : va_P D classes (mW T h0 ar S) H := hP
  have hD : va_D A (mW T h0 ar S) := hD
  have qhw1 : (p0.toInt = 0 → rv1.toInt = 0) ∧ (¬ p0.toInt = 0 → rv1.toInt = 10 + 10 * p0.toInt) := hw1
  refine lv_istore (lv' := [(4, .int rv1), (0, .ref h0), (1, .int p0), (2, .long v0)]) hx hb d_Mo_entry_4 hl (by decide) rfl (fun ls hl => ?_)
  refine j_loop (α := Int32) (fun k x H locs ls => (0 ≤ x.toInt ∧ x.toInt ≤ 80 ∧ 80 ≤ x.toInt + ((k : Nat) : Int)) ∧ va_P D classes (mW T h0 ar S) H ∧ va_D A (mW T h0 ar S) ∧ va_S A s.heap H locs ∧ lv_has ls 5 [(4, .int x), (0, .ref h0), (1, .int p0), (2, .long v0)]) (fun _ _ ls => F0 m 6 ls []) (fun k x H locs ls hI9 ih => ?_) 80 rv1 _ _ _ ⟨(show 0 ≤ rv1.toInt ∧ rv1.toInt ≤ 80 ∧ 80 ≤ rv1.toInt + ((80 : Nat) : Int) by omega), hP, hD, hS, lv_sub hl [0, 1, 2, 3] rfl⟩
  obtain ⟨i, rfl⟩ : ∃ z, z = x := ⟨_, rfl⟩
  obtain ⟨hf1, hP, hD, hS, hl⟩ := hI9
  have hf1 : 0 ≤ i.toInt ∧ i.toInt ≤ 80 ∧ 80 ≤ i.toInt + ((k : Nat) : Int) := hf1
  have hP : va_P D classes (mW T h0 ar S) H := hP
  have hD : va_D A (mW T h0 ar S) := hD
  have hl : lv_has ls 5 [(4, .int i), (0, .ref h0), (1, .int p0), (2, .long v0)] := hl
  refine lv_iload hx hb d_Mo_entry_6 (lv_at hl 0 rfl) ?_
  refine lv_iload_n hx hb d_Mo_entry_8 rfl (lv_at hl 2 rfl) ?_
  refine j_ci (wc := []) (wr := (mW T h0 ar S)) hK hP hD hS hA [] isc rfl isc_all isc_nd (fun _ _ => List.not_mem_nil) (va_runS (As := [.int p0]) (rest := [.int i]) F (m_base l D T p0 H.size (show 0 ≤ p0.toInt ∧ p0.toInt ≤ 6 by omega)) (j_cS (k := 1) hts k_7_150 k_1_12 k_7_148 k_7_149 (by decide +kernel) ⟨Nat.le_of_ble_eq_true rfl, Nat.le_of_ble_eq_true rfl⟩) (j_preS hK hP hD [] rfl (by decide) (fun _ _ _ _ h => h) (fun _ _ _ => trivial)) rfl rfl hl.1 rfl (lv_room (Nat.le_of_ble_eq_true rfl)) d_Mo_entry_9 ⟨Nat.le_of_ble_eq_true rfl, Nat.le_of_ble_eq_true rfl⟩) (fun rv2 u2 H locs hw2 hP hD hS => ?_)
  have hP : va_P D classes (mW T h0 ar S) H := hP
  have hD : va_D A (mW T h0 ar S) := hD
  have qhw2 : (p0.toInt = 0 → rv2.toInt = 0) ∧ (¬ p0.toInt = 0 → rv2.toInt = 10 + 10 * p0.toInt) := hw2
  refine lv_aload_n hx hb d_Mo_entry_12 rfl (lv_at hl 1 rfl) ?_
  refine va_get (D := D) (ci := 11) (v := .ref (ar 4)) (C := "PageScribeModel") (T := F_Mo) (N := 45) hx hb hts i_Mo hown hK hP 0 mW_0 cl_11 7 (by decide) (hts _ k_6_167) (fun _ h9 => h9) (mg_many _ _) d_Mo_entry_13 ?_
  refine lv_iload_n hx hb d_Mo_entry_16 rfl (lv_at hl 2 rfl) ?_
  refine va_iald hx hb hK hP 5 0 (ma_many _ _ _ _) rfl (zt_in (show p0.toInt = _ from rfl) (by omega) (by omega)) d_Mo_entry_17 ?_
  refine lv_topi (fun x1 ex1 => ?_)
  have gx1 : x1 = (a_many S) p0.toInt.toNat := ex1.trans (congrArg _ (zt_ix (show p0.toInt = _ from rfl)))
  have fx1 : x1.toInt = ((a_many S) p0.toInt.toNat).toInt := by rw [gx1]
  have kx1 := rm_at i_room (k := p0.toInt.toNat) (by omega)
  refine lv_iadd hx hb d_Mo_entry_18 ?_
  refine lv_topi (fun x2 ex2 => ?_)
  have fx2 : x2.toInt = (rv2.toInt + x1.toInt) := by rw [ex2]; exact (zt_add (show rv2.toInt = _ from rfl) (show x1.toInt = _ from rfl) (by omega) (by omega)).trans (by omega)
  refine lv_icmp_ge (tgt := 47) hx hb d_Mo_entry_19 (by decide) (fun c19_1 => ?_) (fun c19_1 => ?_)
  · have fc19_1 : (rv2.toInt + x1.toInt) ≤ i.toInt := zt_le fx2 (show i.toInt = _ from rfl) c19_1
    refine lv_iconst (v := (-1)) hx hb d_Mo_entry_47 (by decide) ?_
    exact j_iret F hr hlocks hK hS () (show (-1 : Int32).toInt = -1 ∨ (250 ≤ (-1 : Int32).toInt ∧ (-1 : Int32).toInt ≤ 329) by have := tI_m1; omega) hP hD d_Mo_entry_48
  · have fc19_1 : i.toInt < (rv2.toInt + x1.toInt) := Int.not_le.mp (zt_nle fx2 (show i.toInt = _ from rfl) c19_1)
    refine lv_aload_n hx hb d_Mo_entry_22 rfl (lv_at hl 1 rfl) ?_
    refine va_get (D := D) (ci := 11) (v := .ref (ar 3)) (C := "PageScribeModel") (T := F_Mo) (N := 45) hx hb hts i_Mo hown hK hP 0 mW_0 cl_11 6 (by decide) (hts _ k_6_166) (fun _ h9 => h9) (mg_words _ _) d_Mo_entry_23 ?_
    refine lv_iload hx hb d_Mo_entry_26 (lv_at hl 0 rfl) ?_
    refine va_lald hx hb hK hP 4 1 (ma_words _ _ _ _) rfl (zt_in (show i.toInt = _ from rfl) (by omega) (by omega)) d_Mo_entry_28 ?_
    refine lv_topl (fun x3 ex3 => ?_)
    have gx3 : x3 = (a_words S) i.toInt.toNat := ex3.trans (congrArg _ (zt_ix (show i.toInt = _ from rfl)))
    have fx3 : x3.toInt = ((a_words S) i.toInt.toNat).toInt := by rw [gx3]
    refine lv_lload_n hx hb d_Mo_entry_29 rfl (lv_at hl 3 rfl) ?_
    refine W.lcmp hx hb d_Mo_entry_30 ?_
    refine lv_topi (fun x4 ex4 => ?_)
    refine lv_if_ne (tgt := 41) hx hb d_Mo_entry_31 (by decide) (fun c31_1 => ?_) (fun c31_1 => ?_)
    · first | have fc31_1 : x4.toInt < 0 := (by have := zt_ne (show x4.toInt = _ from rfl) tI_0 c31_1; omega) | have fc31_1 : 0 < x4.toInt := (by have := zt_ne (show x4.toInt = _ from rfl) tI_0 c31_1; omega) | skip
      have vc31_1 : ¬ x3.toInt = v0.toInt := by have := zr_cmp ex4 (show x3.toInt = _ from rfl) (show v0.toInt = _ from rfl); have := zt_ne (show x4.toInt = _ from rfl) tI_0 c31_1; omega
      refine lv_iinc (v := (i + 1)) (lv' := [(4, .int (i + 1)), (0, .ref h0), (1, .int p0), (2, .long v0)]) hx hb d_Mo_entry_41 hl (k := 0) rfl (by first | rfl | decide) (by decide) rfl (fun ls hl => ?_)
      obtain ⟨x5, ex5⟩ : ∃ z, z = (i + 1) := ⟨_, rfl⟩
      rw [← ex5] at hl
      have fx5 : x5.toInt = (i.toInt + 1) := by rw [ex5]; exact (zt_add (show i.toInt = _ from rfl) tI_1 (by omega) (by omega)).trans (by omega)
      have hl : lv_has ls 5 [(4, .int x5), (0, .ref h0), (1, .int p0), (2, .long v0)] := hl
      refine lv_goto (tgt := 6) hx hb d_Mo_entry_44 (by decide) ?_
      exact ih (k - 1) x5 _ _ _ (by omega) ⟨(show 0 ≤ x5.toInt ∧ x5.toInt ≤ 80 ∧ 80 ≤ x5.toInt + (((k - 1) : Nat) : Int) by omega), hP, hD, hS, lv_sub hl [0, 1, 2, 3] rfl⟩
    · have fc31_1 : x4.toInt = 0 := zt_eq (show x4.toInt = _ from rfl) tI_0 c31_1
      have vc31_1 : x3.toInt = v0.toInt := by have := zr_cmp ex4 (show x3.toInt = _ from rfl) (show v0.toInt = _ from rfl); have := zt_eq (show x4.toInt = _ from rfl) tI_0 c31_1; omega
      refine lv_sipush (v := 250) hx hb d_Mo_entry_34 (by decide) ?_
      refine lv_iload hx hb d_Mo_entry_37 (lv_at hl 0 rfl) ?_
      refine lv_iadd hx hb d_Mo_entry_39 ?_
      refine lv_topi (fun x6 ex6 => ?_)
      have fx6 : x6.toInt = (i.toInt + 250) := by rw [ex6]; exact (zt_add tI_250 (show i.toInt = _ from rfl) (by omega) (by omega)).trans (by omega)
      exact j_iret F hr hlocks hK hS () (show x6.toInt = -1 ∨ (250 ≤ x6.toInt ∧ x6.toInt ≤ 329) by omega) hP hD d_Mo_entry_40
