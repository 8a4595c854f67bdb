theorem d_Mo_topMark_0 : decode prog_15_method_43_code 0 = .ok (.aload_n 0, 1) := by decide +kernel
theorem d_Mo_topMark_1 : decode prog_15_method_43_code 1 = .ok (.getfield 247, 3) := by decide +kernel
theorem d_Mo_topMark_4 : decode prog_15_method_43_code 4 = .ok (.iconst 1, 1) := by decide +kernel
theorem d_Mo_topMark_5 : decode prog_15_method_43_code 5 = .ok (.isub, 1) := by decide +kernel
theorem d_Mo_topMark_6 : decode prog_15_method_43_code 6 = .ok (.istore_n 1, 1) := by decide +kernel
theorem d_Mo_topMark_7 : decode prog_15_method_43_code 7 = .ok (.iload_n 1, 1) := by decide +kernel
theorem d_Mo_topMark_8 : decode prog_15_method_43_code 8 = .ok (.ifCond .lt 19, 3) := by decide +kernel
theorem d_Mo_topMark_27 : decode prog_15_method_43_code 27 = .ok (.iload_n 1, 1) := by decide +kernel
theorem d_Mo_topMark_28 : decode prog_15_method_43_code 28 = .ok (.ireturn, 1) := by decide +kernel
theorem d_Mo_topMark_11 : decode prog_15_method_43_code 11 = .ok (.aload_n 0, 1) := by decide +kernel
theorem d_Mo_topMark_12 : decode prog_15_method_43_code 12 = .ok (.getfield 7, 3) := by decide +kernel
theorem d_Mo_topMark_15 : decode prog_15_method_43_code 15 = .ok (.iload_n 1, 1) := by decide +kernel
theorem d_Mo_topMark_16 : decode prog_15_method_43_code 16 = .ok (.iaload, 1) := by decide +kernel
theorem d_Mo_topMark_17 : decode prog_15_method_43_code 17 = .ok (.iconst 4, 1) := by decide +kernel
theorem d_Mo_topMark_18 : decode prog_15_method_43_code 18 = .ok (.if_icmp .eq 9, 3) := by decide +kernel
theorem d_Mo_topMark_21 : decode prog_15_method_43_code 21 = .ok (.iinc 1 (-1), 3) := by decide +kernel
theorem d_Mo_topMark_24 : decode prog_15_method_43_code 24 = .ok (.goto (-17), 3) := by decide +kernel
set_option maxHeartbeats 4000000 in
set_option maxRecDepth 100000 in
theorem m_topMark (l : Launch) (D : va_G) (T : Nat → ClassId) (h0 : Nat) (ar : Nat → Nat) (S : MS)  (sz : Nat) (hI : MI S) : Met l ⟨"PageScribeModel", "topMark", "()I"⟩ (wy ⟨"PageScribeModel", "topMark", "()I"⟩ prog_15_method_43_code 2 (some .int)) ({ frames := 0, cells := 0, slots := 0, locals := 0 }) (va_Pc [.ref h0] (Pw D T (mW T h0 ar S) sz E0)) (va_Qi (fun (r : Int32) (u : Unit) => -1 ≤ r.toInt ∧ r.toInt ≤ (f_size S).toInt - 1) (fun u t => Bw D T (va_A (mW T h0 ar S) sz) (mW T h0 ar S) t) (va_A (mW T h0 ar S) sz)) 0 0 (va_A (mW T h0 ar S) sz) := by
  refine j_met (y := ⟨"PageScribeModel", "topMark", "()I"⟩) (b := prog_15_method_43_code) (n := 2) (ret := (some .int)) (av := [.ref h0]) (Qc := fun A => va_Qi (fun (r : Int32) (u : Unit) => -1 ≤ r.toInt ∧ r.toInt ≤ (f_size S).toInt - 1) (fun u t => Bw D T A (mW T h0 ar S) t) A) (by decide +kernel) (Nat.le_of_ble_eq_true rfl) (fun p e s m args below meth c A ls F hr hlocks hnm hK hP hD hS hA hN hE hl => ?_)
  obtain ⟨hx, hb, hml, hown, hts⟩ := id F
  have hl : lv_has ls 2 [(0, .ref h0)] := hl
  obtain ⟨i_size, i_taken, i_vals, i_room, i_dicts, i_deep, i_open, i_cells, i_points, i_part, i_length, i_knows, i_page, i_text, i_pats, i_fuel, i_fr, i_ink⟩ := id hI
  refine lv_aload_n hx hb d_Mo_topMark_0 rfl (lv_at hl 0 rfl) ?_
  refine va_get (D := D) (ci := 11) (v := .int (f_size S)) (C := "PageScribeModel") (T := F_Mo) (N := 45) hx hb hts i_Mo hown hK hP 0 mW_0 cl_11 4 (by decide) (hts _ k_6_164) (fun _ h9 => h9) (mg_size _ _) d_Mo_topMark_1 ?_
  refine lv_iconst (v := 1) hx hb d_Mo_topMark_4 (by decide) ?_
  refine lv_isub hx hb d_Mo_topMark_5 ?_
  refine lv_topi (fun x1 ex1 => ?_)
  have fx1 : x1.toInt = ((f_size S).toInt - 1) := by rw [ex1]; exact (zt_sub (show (f_size S).toInt = _ from rfl) tI_1 (by omega) (by omega)).trans (by omega)
  refine lv_istore_n (lv' := [(1, .int x1), (0, .ref h0)]) hx hb d_Mo_topMark_6 rfl hl (by decide) rfl (fun ls hl => ?_)
  refine j_loop (α := Int32) (fun k x H locs ls => (-1 ≤ x.toInt ∧ x.toInt ≤ (f_size S).toInt - 1 ∧ x.toInt + 1 ≤ ((k : Nat) : Int)) ∧ va_P D classes (mW T h0 ar S) H ∧ va_D A (mW T h0 ar S) ∧ va_S A s.heap H locs ∧ lv_has ls 2 [(1, .int x), (0, .ref h0)]) (fun _ _ ls => F0 m 7 ls []) (fun k x H locs ls hI9 ih => ?_) 40 x1 _ _ _ ⟨(show -1 ≤ x1.toInt ∧ x1.toInt ≤ (f_size S).toInt - 1 ∧ x1.toInt + 1 ≤ ((40 : Nat) : Int) by omega), hP, hD, hS, lv_sub hl [0, 1] rfl⟩
  obtain ⟨i, rfl⟩ : ∃ z, z = x := ⟨_, rfl⟩
  obtain ⟨hf1, hP, hD, hS, hl⟩ := hI9
  have hf1 : -1 ≤ i.toInt ∧ i.toInt ≤ (f_size S).toInt - 1 ∧ i.toInt + 1 ≤ ((k : Nat) : Int) := hf1
  have hP : va_P D classes (mW T h0 ar S) H := hP
  have hD : va_D A (mW T h0 ar S) := hD
  have hl : lv_has ls 2 [(1, .int i), (0, .ref h0)] := hl
  refine lv_iload_n hx hb d_Mo_topMark_7 rfl (lv_at hl 0 rfl) ?_
  refine lv_if_lt (tgt := 27) hx hb d_Mo_topMark_8 (by decide) (fun c8_1 => ?_) (fun c8_1 => ?_)
  · have fc8_1 : i.toInt < 0 := zt_lt (show i.toInt = _ from rfl) tI_0 c8_1
    refine lv_iload_n hx hb d_Mo_topMark_27 rfl (lv_at hl 0 rfl) ?_
    exact j_iret F hr hlocks hK hS () (show -1 ≤ i.toInt ∧ i.toInt ≤ (f_size S).toInt - 1 by omega) hP hD d_Mo_topMark_28
  · have fc8_1 : 0 ≤ i.toInt := Int.not_lt.mp (zt_nlt (show i.toInt = _ from rfl) tI_0 c8_1)
    refine lv_aload_n hx hb d_Mo_topMark_11 rfl (lv_at hl 1 rfl) ?_
    refine va_get (D := D) (ci := 11) (v := .ref (ar 0)) (C := "PageScribeModel") (T := F_Mo) (N := 45) hx hb hts i_Mo hown hK hP 0 mW_0 cl_11 1 (by decide) (hts _ k_6_161) (fun _ h9 => h9) (mg_kinds _ _) d_Mo_topMark_12 ?_
    refine lv_iload_n hx hb d_Mo_topMark_15 rfl (lv_at hl 0 rfl) ?_
    refine va_iald hx hb hK hP 1 0 (ma_kinds _ _ _ _) rfl (zt_in (show i.toInt = _ from rfl) (by omega) (by omega)) d_Mo_topMark_16 ?_
    refine lv_topi (fun x2 ex2 => ?_)
    have gx2 : x2 = (a_kinds S) i.toInt.toNat := ex2.trans (congrArg _ (zt_ix (show i.toInt = _ from rfl)))
    have fx2 : x2.toInt = ((a_kinds S) i.toInt.toNat).toInt := by rw [gx2]
    have kx2 : vOk ((a_kinds S) i.toInt.toNat) ((a_codes S) i.toInt.toNat) ((a_reals S) i.toInt.toNat) := i_vals (i.toInt.toNat) (by omega)
    have rx2 := vk_rng kx2
    refine lv_iconst (v := 4) hx hb d_Mo_topMark_17 (by decide) ?_
    refine lv_icmp_eq (tgt := 27) hx hb d_Mo_topMark_18 (by decide) (fun c18_1 => ?_) (fun c18_1 => ?_)
    · have fc18_1 : x2.toInt = 4 := zt_eq (show x2.toInt = _ from rfl) tI_4 c18_1
      refine lv_iload_n hx hb d_Mo_topMark_27 rfl (lv_at hl 0 rfl) ?_
      exact j_iret F hr hlocks hK hS () (show -1 ≤ i.toInt ∧ i.toInt ≤ (f_size S).toInt - 1 by omega) hP hD d_Mo_topMark_28
    · first | have fc18_1 : x2.toInt < 4 := (by have := zt_ne (show x2.toInt = _ from rfl) tI_4 c18_1; omega) | have fc18_1 : 4 < x2.toInt := (by have := zt_ne (show x2.toInt = _ from rfl) tI_4 c18_1; omega) | skip
      refine lv_iinc (v := (i + (-1))) (lv' := [(1, .int (i + (-1))), (0, .ref h0)]) hx hb d_Mo_topMark_21 hl (k := 0) rfl (by first | rfl | decide) (by decide) rfl (fun ls hl => ?_)
      obtain ⟨x3, ex3⟩ : ∃ z, z = (i + (-1)) := ⟨_, rfl⟩
      rw [← ex3] at hl
      have fx3 : x3.toInt = (i.toInt - 1) := by rw [ex3]; exact (zt_add (show i.toInt = _ from rfl) tI_m1 (by omega) (by omega)).trans (by omega)
      have hl : lv_has ls 2 [(1, .int x3), (0, .ref h0)] := hl
      refine lv_goto (tgt := 7) hx hb d_Mo_topMark_24 (by decide) ?_
      exact ih (k - 1) x3 _ _ _ (by omega) ⟨(show -1 ≤ x3.toInt ∧ x3.toInt ≤ (f_size S).toInt - 1 ∧ x3.toInt + 1 ≤ (((k - 1) : Nat) : Int) by omega), hP, hD, hS, lv_sub hl [0, 1] rfl⟩
theorem d_Mo_newArray_0 : decode prog_15_method_25_code 0 = .ok (.aload_n 0, 1) := by decide +kernel
theorem k_6_165 : Cond.fieldLink "PageScribeModel" 325 "PageScribeModel" "taken" "I" ∈ gw := gw_of (tb_6 (List.mem_of_getElem? (i := 165) (by decide +kernel))) (by decide +kernel)
theorem d_Mo_newArray_1 : decode prog_15_method_25_code 1 = .ok (.getfield 325, 3) := by decide +kernel
theorem d_Mo_newArray_4 : decode prog_15_method_25_code 4 = .ok (.iload_n 2, 1) := by decide +kernel
theorem d_Mo_newArray_5 : decode prog_15_method_25_code 5 = .ok (.iadd, 1) := by decide +kernel
theorem d_Mo_newArray_6 : decode prog_15_method_25_code 6 = .ok (.sipush 160, 3) := by decide +kernel
theorem d_Mo_newArray_9 : decode prog_15_method_25_code 9 = .ok (.if_icmp .le 6, 3) := by decide +kernel
theorem tI_160 : (160 : Int32).toInt = 160 := by decide +kernel
theorem d_Mo_newArray_15 : decode prog_15_method_25_code 15 = .ok (.iconst 0, 1) := by decide +kernel
theorem d_Mo_newArray_16 : decode prog_15_method_25_code 16 = .ok (.istore 4, 2) := by decide +kernel
theorem d_Mo_newArray_18 : decode prog_15_method_25_code 18 = .ok (.iload 4, 2) := by decide +kernel
theorem d_Mo_newArray_20 : decode prog_15_method_25_code 20 = .ok (.iload_n 2, 1) := by decide +kernel
theorem d_Mo_newArray_21 : decode prog_15_method_25_code 21 = .ok (.if_icmp .ge 27, 3) := by decide +kernel
theorem d_Mo_newArray_48 : decode prog_15_method_25_code 48 = .ok (.aload_n 0, 1) := by decide +kernel
theorem d_Mo_newArray_49 : decode prog_15_method_25_code 49 = .ok (.bipush 40, 2) := by decide +kernel
theorem d_Mo_newArray_51 : decode prog_15_method_25_code 51 = .ok (.iload_n 3, 1) := by decide +kernel
theorem d_Mo_newArray_52 : decode prog_15_method_25_code 52 = .ok (.aload_n 0, 1) := by decide +kernel
theorem d_Mo_newArray_53 : decode prog_15_method_25_code 53 = .ok (.getfield 325, 3) := by decide +kernel
theorem d_Mo_newArray_56 : decode prog_15_method_25_code 56 = .ok (.i2l, 1) := by decide +kernel
theorem d_Mo_newArray_57 : decode prog_15_method_25_code 57 = .ok (.ldc2_w 328, 3) := by decide +kernel
theorem k_7_77 : Cond.constantLong "PageScribeModel" 328 (1024 : Int64) ∈ gw := gw_of (tb_7 (List.mem_of_getElem? (i := 77) (by decide +kernel))) (by decide +kernel)
theorem d_Mo_newArray_60 : decode prog_15_method_25_code 60 = .ok (.iload_n 2, 1) := by decide +kernel
theorem d_Mo_newArray_61 : decode prog_15_method_25_code 61 = .ok (.i2l, 1) := by decide +kernel
theorem d_Mo_newArray_62 : decode prog_15_method_25_code 62 = .ok (.lmul, 1) := by decide +kernel
theorem tJ_1024 : (1024 : Int64).toInt = 1024 := by decide +kernel
theorem d_Mo_newArray_63 : decode prog_15_method_25_code 63 = .ok (.ladd, 1) := by decide +kernel
theorem d_Mo_newArray_64 : decode prog_15_method_25_code 64 = .ok (.invokevirtual 250, 3) := by decide +kernel
theorem d_Mo_newArray_67 : decode prog_15_method_25_code 67 = .ok (.aload_n 0, 1) := by decide +kernel
theorem d_Mo_newArray_68 : decode prog_15_method_25_code 68 = .ok (.dup, 1) := by decide +kernel
theorem d_Mo_newArray_69 : decode prog_15_method_25_code 69 = .ok (.getfield 325, 3) := by decide +kernel
theorem d_Mo_newArray_72 : decode prog_15_method_25_code 72 = .ok (.iload_n 2, 1) := by decide +kernel
theorem d_Mo_newArray_73 : decode prog_15_method_25_code 73 = .ok (.iadd, 1) := by decide +kernel
theorem d_Mo_newArray_74 : decode prog_15_method_25_code 74 = .ok (.putfield 325, 3) := by decide +kernel
theorem d_Mo_newArray_77 : decode prog_15_method_25_code 77 = .ok (.iconst 0, 1) := by decide +kernel
theorem d_Mo_newArray_78 : decode prog_15_method_25_code 78 = .ok (.ireturn, 1) := by decide +kernel
theorem d_Mo_newArray_24 : decode prog_15_method_25_code 24 = .ok (.aload_n 0, 1) := by decide +kernel
theorem d_Mo_newArray_25 : decode prog_15_method_25_code 25 = .ok (.bipush 50, 2) := by decide +kernel
theorem d_Mo_newArray_27 : decode prog_15_method_25_code 27 = .ok (.aload_n 0, 1) := by decide +kernel
theorem d_Mo_newArray_28 : decode prog_15_method_25_code 28 = .ok (.getfield 325, 3) := by decide +kernel
theorem d_Mo_newArray_31 : decode prog_15_method_25_code 31 = .ok (.iadd, 1) := by decide +kernel
theorem tI_50 : (50 : Int32).toInt = 50 := by decide +kernel
theorem d_Mo_newArray_32 : decode prog_15_method_25_code 32 = .ok (.iload 4, 2) := by decide +kernel
theorem d_Mo_newArray_34 : decode prog_15_method_25_code 34 = .ok (.iadd, 1) := by decide +kernel
theorem d_Mo_newArray_35 : decode prog_15_method_25_code 35 = .ok (.iload_n 1, 1) := by decide +kernel
theorem d_Mo_newArray_36 : decode prog_15_method_25_code 36 = .ok (.iload 4, 2) := by decide +kernel
theorem d_Mo_newArray_38 : decode prog_15_method_25_code 38 = .ok (.iadd, 1) := by decide +kernel
theorem d_Mo_newArray_39 : decode prog_15_method_25_code 39 = .ok (.invokevirtual 254, 3) := by decide +kernel
theorem d_Mo_newArray_42 : decode prog_15_method_25_code 42 = .ok (.iinc 4 1, 3) := by decide +kernel
theorem d_Mo_newArray_45 : decode prog_15_method_25_code 45 = .ok (.goto (-27), 3) := by decide +kernel
theorem d_Mo_newArray_12 : decode prog_15_method_25_code 12 = .ok (.bipush 7, 2) := by decide +kernel
theorem d_Mo_newArray_14 : decode prog_15_method_25_code 14 = .ok (.ireturn, 1) := by decide +kernel
set_option maxHeartbeats 4000000 in
set_option maxRecDepth 100000 in
theorem m_newArray (l : Launch) (D : va_G) (T : Nat → ClassId) (h0 : Nat) (ar : Nat → Nat) (S : MS) (p0 : Int32) (p1 : Int32) (p2 : Int32) (sz : Nat) (hI : MI S) (h1 : 0 ≤ p0.toInt ∧ 0 ≤ p1.toInt ∧ p0.toInt + p1.toInt ≤ 1300) (h2 : p2.toInt = 5 ∨ p2.toInt = 13) : Met l ⟨"PageScribeModel", "newArray", "(III)I"⟩ (wy ⟨"PageScribeModel", "newArray", "(III)I"⟩ prog_15_method_25_code 5 (some .int)) ({ frames := 1, cells := 0, slots := 0, locals := 70 }) (va_Pc [.ref h0, .int p0, .int p1, .int p2] (Pw D T (mW T h0 ar S) sz E0)) (va_Qi (fun (r : Int32) (u : MS) => MI u ∧ kA S u ∧ kF S u ∧ (r.toInt = 0 ∨ r.toInt = 7)) (fun u t => Bw D T (va_A (mW T h0 ar S) sz) (mW T h0 ar u) t) (va_A (mW T h0 ar S) sz)) 0 0 (va_A (mW T h0 ar S) sz) := by
  refine j_met (y := ⟨"PageScribeModel", "newArray", "(III)I"⟩) (b := prog_15_method_25_code) (n := 5) (ret := (some .int)) (av := [.ref h0, .int p0, .int p1, .int p2]) (Qc := fun A => va_Qi (fun (r : Int32) (u : MS) => MI u ∧ kA S u ∧ kF S u ∧ (r.toInt = 0 ∨ r.toInt = 7)) (fun u t => Bw D T A (mW T h0 ar u) t) A) (by decide +kernel) (Nat.le_of_ble_eq_true rfl) (fun p e s m args below meth c A ls F hr hlocks hnm hK hP hD hS hA hN hE hl => ?_)
  obtain ⟨hx, hb, hml, hown, hts⟩ := id F
  have hl : lv_has ls 5 [(0, .ref h0), (1, .int p0), (2, .int p1), (3, .int p2)] := hl
  obtain ⟨i_size, i_taken, i_vals, i_room, i_dicts, i_deep, i_open, i_cells, i_points, i_part, i_length, i_knows, i_page, i_text, i_pats, i_fuel, i_fr, i_ink⟩ := id hI
  refine lv_aload_n hx hb d_Mo_newArray_0 rfl (lv_at hl 0 rfl) ?_
  refine va_get (D := D) (ci := 11) (v := .int (f_taken S)) (C := "PageScribeModel") (T := F_Mo) (N := 45) hx hb hts i_Mo hown hK hP 0 mW_0 cl_11 5 (by decide) (hts _ k_6_165) (fun _ h9 => h9) (mg_taken _ _) d_Mo_newArray_1 ?_
  refine lv_iload_n hx hb d_Mo_newArray_4 rfl (lv_at hl 2 rfl) ?_
  refine lv_iadd hx hb d_Mo_newArray_5 ?_
  refine lv_topi (fun x1 ex1 => ?_)
  have fx1 : x1.toInt = ((f_taken S).toInt + p1.toInt) := by rw [ex1]; exact (zt_add (show (f_taken S).toInt = _ from rfl) (show p1.toInt = _ from rfl) (by omega) (by omega)).trans (by omega)
  refine lv_sipush (v := 160) hx hb d_Mo_newArray_6 (by decide) ?_
  refine lv_icmp_le (tgt := 15) hx hb d_Mo_newArray_9 (by decide) (fun c9_1 => ?_) (fun c9_1 => ?_)
  · have fc9_1 : ((f_taken S).toInt + p1.toInt) ≤ 160 := zt_le fx1 tI_160 c9_1
    refine lv_iconst (v := 0) hx hb d_Mo_newArray_15 (by decide) ?_
    refine lv_istore (lv' := [(4, .int 0), (0, .ref h0), (1, .int p0), (2, .int p1), (3, .int p2)]) hx hb d_Mo_newArray_16 hl (by decide) rfl (fun ls hl => ?_)
    refine j_loop (α := MS × Int32) (fun k x H locs ls => (0 ≤ x.2.toInt ∧ x.2.toInt ≤ p1.toInt ∧ p1.toInt ≤ x.2.toInt + ((k : Nat) : Int) ∧ (f_taken x.1).toInt + p1.toInt ≤ 160) ∧ MI x.1 ∧ kA S x.1 ∧ kF S x.1 ∧ va_P D classes (mW T h0 ar x.1) H ∧ va_D A (mW T h0 ar x.1) ∧ va_S A s.heap H locs ∧ lv_has ls 5 [(4, .int x.2), (0, .ref h0), (1, .int p0), (2, .int p1), (3, .int p2)]) (fun _ _ ls => F0 m 18 ls []) (fun k x H locs ls hI9 ih => ?_) 160 (S, (0 : Int32)) _ _ _ ⟨(show 0 ≤ (0 : Int32).toInt ∧ (0 : Int32).toInt ≤ p1.toInt ∧ p1.toInt ≤ (0 : Int32).toInt + ((160 : Nat) : Int) ∧ (f_taken S).toInt + p1.toInt ≤ 160 by have := tI_0; omega), ⟨i_size, i_taken, i_vals, i_room, i_dicts, i_deep, i_open, i_cells, i_points, i_part, i_length, i_knows, i_page, i_text, i_pats, i_fuel, i_fr, i_ink⟩, (show kA S S from (kA_r S)), (show kF S S from (kF_r S)), hP, hD, hS, lv_sub hl [0, 1, 2, 3, 4] rfl⟩
    obtain ⟨S1, i⟩ := x
    obtain ⟨hf1, hIx, klA_S1, klF_S1, hP, hD, hS, hl⟩ := hI9
    obtain ⟨i_size, i_taken, i_vals, i_room, i_dicts, i_deep, i_open, i_cells, i_points, i_part, i_length, i_knows, i_page, i_text, i_pats, i_fuel, i_fr, i_ink⟩ := (show MI S1 from hIx)
    have klA_S1 : kA S S1 := klA_S1
    have klF_S1 : kF S S1 := klF_S1
    have hf1 : 0 ≤ i.toInt ∧ i.toInt ≤ p1.toInt ∧ p1.toInt ≤ i.toInt + ((k : Nat) : Int) ∧ (f_taken S1).toInt + p1.toInt ≤ 160 := hf1
    have hP : va_P D classes (mW T h0 ar S1) H := hP
    have hD : va_D A (mW T h0 ar S1) := hD
    have hl : lv_has ls 5 [(4, .int i), (0, .ref h0), (1, .int p0), (2, .int p1), (3, .int p2)] := hl
    refine lv_iload hx hb d_Mo_newArray_18 (lv_at hl 0 rfl) ?_
    refine lv_iload_n hx hb d_Mo_newArray_20 rfl (lv_at hl 3 rfl) ?_
    refine lv_icmp_ge (tgt := 48) hx hb d_Mo_newArray_21 (by decide) (fun c21_1 => ?_) (fun c21_1 => ?_)
    · have fc21_1 : p1.toInt ≤ i.toInt := zt_le (show p1.toInt = _ from rfl) (show i.toInt = _ from rfl) c21_1
      refine lv_aload_n hx hb d_Mo_newArray_48 rfl (lv_at hl 1 rfl) ?_
      refine lv_bipush (v := 40) hx hb d_Mo_newArray_49 (by decide) ?_
      refine lv_iload_n hx hb d_Mo_newArray_51 rfl (lv_at hl 4 rfl) ?_
      refine lv_aload_n hx hb d_Mo_newArray_52 rfl (lv_at hl 1 rfl) ?_
      refine va_get (D := D) (ci := 11) (v := .int (f_taken S1)) (C := "PageScribeModel") (T := F_Mo) (N := 45) hx hb hts i_Mo hown hK hP 0 mW_0 cl_11 5 (by decide) (hts _ k_6_165) (fun _ h9 => h9) (mg_taken _ _) d_Mo_newArray_53 ?_
      refine lv_i2l (v := ((f_taken S1)).toInt64) hx hb d_Mo_newArray_56 rfl ?_
      refine lv_topl (fun x2 ex2 => ?_)
      have fx2 : x2.toInt = (f_taken S1).toInt := by rw [ex2]; exact zu_i2l (show (f_taken S1).toInt = _ from rfl)
      refine lv_ldc2 (v := (1024)) hx hb hown (hts _ k_7_77) d_Mo_newArray_57 ?_
      refine lv_iload_n hx hb d_Mo_newArray_60 rfl (lv_at hl 3 rfl) ?_
      refine lv_i2l (v := (p1).toInt64) hx hb d_Mo_newArray_61 rfl ?_
      refine lv_topl (fun x3 ex3 => ?_)
      have fx3 : x3.toInt = p1.toInt := by rw [ex3]; exact zu_i2l (show p1.toInt = _ from rfl)
      refine lv_lmul hx hb d_Mo_newArray_62 ?_
      refine lv_topl (fun x4 ex4 => ?_)
      have fx4 : x4.toInt = (1024 * p1.toInt) := by rw [ex4]; exact (zu_mul tJ_1024 fx3 rfl (by omega) (by omega)).trans (by omega)
      refine lv_ladd hx hb d_Mo_newArray_63 ?_
      refine lv_topl (fun x5 ex5 => ?_)
      have fx5 : x5.toInt = ((f_taken S1).toInt + 1024 * p1.toInt) := by rw [ex5]; exact (zu_add fx2 fx4 (by omega) (by omega)).trans (by omega)
      refine jm_cv (w := (fun u => u)) hK hP hD hS hA (va_runV (As := [.int 40, .int p2, .long x5]) (rest := []) F (m_set l D T h0 ar S1 (40 : Int32) p2 x5 H.size (show 0 ≤ (40 : Int32).toInt ∧ (40 : Int32).toInt < 1300 by have := tI_40; first | omega | (simp only [fx5]; omega))) (j_cV (k := 3) (C := "PageScribeModel") hts k_7_81 k_1_12 k_7_78 k_7_80 k_0_83 (by decide +kernel) ⟨Nat.le_of_ble_eq_true rfl, Nat.le_of_ble_eq_true rfl⟩) (jm_pre hK hP hD) rfl rfl hl.1 rfl (lv_room (Nat.le_of_ble_eq_true rfl)) d_Mo_newArray_64 ⟨Nat.le_of_ble_eq_true rfl, Nat.le_of_ble_eq_true rfl⟩) (fun S2 H locs hw1 hP hD hS => ?_)
      try simp only [tI_40, fx5] at hw1
      obtain rfl := hw1
      have hP : va_P D classes (mW T h0 ar ((((f_thrown S1), (upd (a_kinds S1) (40) p2), (vp_updL (a_codes S1) (40) x5), (vf_upd (a_reals S1) (40) 0), (f_size S1), (f_taken S1), (a_words S1), (a_many S1)), S1.2.1, S1.2.2.1, S1.2.2.2.1, S1.2.2.2.2.1, S1.2.2.2.2.2) : MS)) H := hP
      have hD : va_D A (mW T h0 ar ((((f_thrown S1), (upd (a_kinds S1) (40) p2), (vp_updL (a_codes S1) (40) x5), (vf_upd (a_reals S1) (40) 0), (f_size S1), (f_taken S1), (a_words S1), (a_many S1)), S1.2.1, S1.2.2.1, S1.2.2.2.1, S1.2.2.2.2.1, S1.2.2.2.2.2) : MS)) := hD
      have i_vals : ∀ k, k < 1300 → vOk ((upd (a_kinds S1) (40) p2) k) ((vp_updL (a_codes S1) (40) x5) k) ((vf_upd (a_reals S1) (40) 0) k) := vOk_upd i_vals (vO_arr _ rfl h2 (zc_mk (by assumption) (by omega)))
      have fa1 : ((upd (a_kinds S1) (40) p2) 40).toInt = p2.toInt := congrArg Int32.toInt upd_s
      refine lv_aload_n hx hb d_Mo_newArray_67 rfl (lv_at hl 1 rfl) ?_
      refine lv_dup hx hb d_Mo_newArray_68 rfl ?_
      refine va_get (D := D) (ci := 11) (v := .int (f_taken S1)) (C := "PageScribeModel") (T := F_Mo) (N := 45) hx hb hts i_Mo hown hK hP 0 mW_0 cl_11 5 (by decide) (hts _ k_6_165) (fun _ h9 => h9) (mg_taken _ _) d_Mo_newArray_69 ?_
      refine lv_iload_n hx hb d_Mo_newArray_72 rfl (lv_at hl 3 rfl) ?_
      refine lv_iadd hx hb d_Mo_newArray_73 ?_
      refine lv_topi (fun x6 ex6 => ?_)
      have fx6 : x6.toInt = ((f_taken S1).toInt + p1.toInt) := by rw [ex6]; exact (zt_add (show (f_taken S1).toInt = _ from rfl) (show p1.toInt = _ from rfl) (by omega) (by omega)).trans (by omega)
      refine va_put (D := D) (ci := 11) (v := .int x6) (ty := .int) (C := "PageScribeModel") (T := F_Mo) (N := 45) hx hb hts i_Mo t_Mo t_Mo_ok n_Mo hown hK hP hD hS 0 mW_0 cl_11 5 (by decide) (hts _ k_6_165) (fun _ h9 => h9) rfl (by decide +kernel) rfl rfl (Nat.le_of_ble_eq_true rfl) d_Mo_newArray_74 (fun H locs hP hD hS => ?_)
      rw [mp_taken] at hP hD
      have hP : va_P D classes (mW T h0 ar ((((f_thrown S1), (upd (a_kinds S1) (40) p2), (vp_updL (a_codes S1) (40) x5), (vf_upd (a_reals S1) (40) 0), (f_size S1), x6, (a_words S1), (a_many S1)), S1.2.1, S1.2.2.1, S1.2.2.2.1, S1.2.2.2.2.1, S1.2.2.2.2.2) : MS)) H := hP
      have hD : va_D A (mW T h0 ar ((((f_thrown S1), (upd (a_kinds S1) (40) p2), (vp_updL (a_codes S1) (40) x5), (vf_upd (a_reals S1) (40) 0), (f_size S1), x6, (a_words S1), (a_many S1)), S1.2.1, S1.2.2.1, S1.2.2.2.1, S1.2.2.2.2.1, S1.2.2.2.2.2) : MS)) := hD
      refine lv_iconst (v := 0) hx hb d_Mo_newArray_77 (by decide) ?_
      exact j_iret F hr hlocks hK hS ((((f_thrown S1), (upd (a_kinds S1) (40) p2), (vp_updL (a_codes S1) (40) x5), (vf_upd (a_reals S1) (40) 0), (f_size S1), x6, (a_words S1), (a_many S1)), S1.2.1, S1.2.2.1, S1.2.2.2.1, S1.2.2.2.2.1, S1.2.2.2.2.2) : MS) ⟨⟨i_size, (show 0 ≤ x6.toInt ∧ x6.toInt ≤ 160 by omega), i_vals, i_room, i_dicts, i_deep, i_open, i_cells, i_points, i_part, i_length, i_knows, i_page, i_text, i_pats, i_fuel, i_fr, i_ink⟩, klA_S1, klF_S1, (show (0 : Int32).toInt = 0 ∨ (0 : Int32).toInt = 7 by have := tI_0; omega)⟩ hP hD d_Mo_newArray_78
    · have fc21_1 : i.toInt < p1.toInt := Int.not_le.mp (zt_nle (show p1.toInt = _ from rfl) (show i.toInt = _ from rfl) c21_1)
      refine lv_aload_n hx hb d_Mo_newArray_24 rfl (lv_at hl 1 rfl) ?_
      refine lv_bipush (v := 50) hx hb d_Mo_newArray_25 (by decide) ?_
      refine lv_aload_n hx hb d_Mo_newArray_27 rfl (lv_at hl 1 rfl) ?_
      refine va_get (D := D) (ci := 11) (v := .int (f_taken S1)) (C := "PageScribeModel") (T := F_Mo) (N := 45) hx hb hts i_Mo hown hK hP 0 mW_0 cl_11 5 (by decide) (hts _ k_6_165) (fun _ h9 => h9) (mg_taken _ _) d_Mo_newArray_28 ?_
      refine lv_iadd hx hb d_Mo_newArray_31 ?_
      refine lv_topi (fun x7 ex7 => ?_)
      have fx7 : x7.toInt = ((f_taken S1).toInt + 50) := by rw [ex7]; exact (zt_add tI_50 (show (f_taken S1).toInt = _ from rfl) (by omega) (by omega)).trans (by omega)
      refine lv_iload hx hb d_Mo_newArray_32 (lv_at hl 0 rfl) ?_
      refine lv_iadd hx hb d_Mo_newArray_34 ?_
      refine lv_topi (fun x8 ex8 => ?_)
      have fx8 : x8.toInt = ((f_taken S1).toInt + i.toInt + 50) := by rw [ex8]; exact (zt_add fx7 (show i.toInt = _ from rfl) (by omega) (by omega)).trans (by omega)
      refine lv_iload_n hx hb d_Mo_newArray_35 rfl (lv_at hl 2 rfl) ?_
      refine lv_iload hx hb d_Mo_newArray_36 (lv_at hl 0 rfl) ?_
      refine lv_iadd hx hb d_Mo_newArray_38 ?_
      refine lv_topi (fun x9 ex9 => ?_)
      have fx9 : x9.toInt = (i.toInt + p0.toInt) := by rw [ex9]; exact (zt_add (show p0.toInt = _ from rfl) (show i.toInt = _ from rfl) (by omega) (by omega)).trans (by omega)
      refine jm_cv (w := (fun u => u)) hK hP hD hS hA (va_runV (As := [.int x8, .int x9]) (rest := []) F (m_move l D T h0 ar S1 x8 x9 H.size (show 0 ≤ x8.toInt ∧ x8.toInt < 1300 by first | omega | (simp only [fx8, fx9]; omega)) (show 0 ≤ x9.toInt ∧ x9.toInt < 1300 by first | omega | (simp only [fx8, fx9]; omega))) (j_cV (k := 2) (C := "PageScribeModel") hts k_7_76 k_1_12 k_7_73 k_7_75 k_0_82 (by decide +kernel) ⟨Nat.le_of_ble_eq_true rfl, Nat.le_of_ble_eq_true rfl⟩) (jm_pre hK hP hD) rfl rfl hl.1 rfl (lv_room (Nat.le_of_ble_eq_true rfl)) d_Mo_newArray_39 ⟨Nat.le_of_ble_eq_true rfl, Nat.le_of_ble_eq_true rfl⟩) (fun S3 H locs hw2 hP hD hS => ?_)
      try simp only [fx8, fx9] at hw2
      obtain rfl := hw2
      have hP : va_P D classes (mW T h0 ar ((((f_thrown S1), (upd (a_kinds S1) (((f_taken S1).toInt + i.toInt + 50).toNat) ((a_kinds S1) ((i.toInt + p0.toInt).toNat))), (vp_updL (a_codes S1) (((f_taken S1).toInt + i.toInt + 50).toNat) ((a_codes S1) ((i.toInt + p0.toInt).toNat))), (vf_upd (a_reals S1) (((f_taken S1).toInt + i.toInt + 50).toNat) ((a_reals S1) ((i.toInt + p0.toInt).toNat))), (f_size S1), (f_taken S1), (a_words S1), (a_many S1)), S1.2.1, S1.2.2.1, S1.2.2.2.1, S1.2.2.2.2.1, S1.2.2.2.2.2) : MS)) H := hP
      have hD : va_D A (mW T h0 ar ((((f_thrown S1), (upd (a_kinds S1) (((f_taken S1).toInt + i.toInt + 50).toNat) ((a_kinds S1) ((i.toInt + p0.toInt).toNat))), (vp_updL (a_codes S1) (((f_taken S1).toInt + i.toInt + 50).toNat) ((a_codes S1) ((i.toInt + p0.toInt).toNat))), (vf_upd (a_reals S1) (((f_taken S1).toInt + i.toInt + 50).toNat) ((a_reals S1) ((i.toInt + p0.toInt).toNat))), (f_size S1), (f_taken S1), (a_words S1), (a_many S1)), S1.2.1, S1.2.2.1, S1.2.2.2.1, S1.2.2.2.2.1, S1.2.2.2.2.2) : MS)) := hD
      have i_vals : ∀ k, k < 1300 → vOk ((upd (a_kinds S1) (((f_taken S1).toInt + i.toInt + 50).toNat) ((a_kinds S1) ((i.toInt + p0.toInt).toNat))) k) ((vp_updL (a_codes S1) (((f_taken S1).toInt + i.toInt + 50).toNat) ((a_codes S1) ((i.toInt + p0.toInt).toNat))) k) ((vf_upd (a_reals S1) (((f_taken S1).toInt + i.toInt + 50).toNat) ((a_reals S1) ((i.toInt + p0.toInt).toNat))) k) := vOk_upd i_vals (i_vals ((i.toInt + p0.toInt).toNat) (by omega))
      have fa2 : ((upd (a_kinds S1) (((f_taken S1).toInt + i.toInt + 50).toNat) ((a_kinds S1) ((i.toInt + p0.toInt).toNat))) (((f_taken S1).toInt + i.toInt + 50).toNat)).toInt = ((a_kinds S1) ((i.toInt + p0.toInt).toNat)).toInt := congrArg Int32.toInt upd_s
      have fa3 : ((vp_updL (a_codes S1) (((f_taken S1).toInt + i.toInt + 50).toNat) ((a_codes S1) ((i.toInt + p0.toInt).toNat))) (((f_taken S1).toInt + i.toInt + 50).toNat)).toInt = ((a_codes S1) ((i.toInt + p0.toInt).toNat)).toInt := congrArg Int64.toInt updL_s
      refine lv_iinc (v := (i + 1)) (lv' := [(4, .int (i + 1)), (0, .ref h0), (1, .int p0), (2, .int p1), (3, .int p2)]) hx hb d_Mo_newArray_42 hl (k := 0) rfl (by first | rfl | decide) (by decide) rfl (fun ls hl => ?_)
      obtain ⟨x10, ex10⟩ : ∃ z, z = (i + 1) := ⟨_, rfl⟩
      rw [← ex10] at hl
      have fx10 : x10.toInt = (i.toInt + 1) := by rw [ex10]; exact (zt_add (show i.toInt = _ from rfl) tI_1 (by omega) (by omega)).trans (by omega)
      have hl : lv_has ls 5 [(4, .int x10), (0, .ref h0), (1, .int p0), (2, .int p1), (3, .int p2)] := hl
      refine lv_goto (tgt := 18) hx hb d_Mo_newArray_45 (by decide) ?_
      exact ih (k - 1) (((((f_thrown S1), (upd (a_kinds S1) (((f_taken S1).toInt + i.toInt + 50).toNat) ((a_kinds S1) ((i.toInt + p0.toInt).toNat))), (vp_updL (a_codes S1) (((f_taken S1).toInt + i.toInt + 50).toNat) ((a_codes S1) ((i.toInt + p0.toInt).toNat))), (vf_upd (a_reals S1) (((f_taken S1).toInt + i.toInt + 50).toNat) ((a_reals S1) ((i.toInt + p0.toInt).toNat))), (f_size S1), (f_taken S1), (a_words S1), (a_many S1)), S1.2.1, S1.2.2.1, S1.2.2.2.1, S1.2.2.2.2.1, S1.2.2.2.2.2) : MS), x10) _ _ _ (by omega) ⟨(show 0 ≤ x10.toInt ∧ x10.toInt ≤ p1.toInt ∧ p1.toInt ≤ x10.toInt + (((k - 1) : Nat) : Int) ∧ (f_taken S1).toInt + p1.toInt ≤ 160 by omega), ⟨i_size, i_taken, i_vals, i_room, i_dicts, i_deep, i_open, i_cells, i_points, i_part, i_length, i_knows, i_page, i_text, i_pats, i_fuel, i_fr, i_ink⟩, (show kA S ((((f_thrown S1), (upd (a_kinds S1) (((f_taken S1).toInt + i.toInt + 50).toNat) ((a_kinds S1) ((i.toInt + p0.toInt).toNat))), (vp_updL (a_codes S1) (((f_taken S1).toInt + i.toInt + 50).toNat) ((a_codes S1) ((i.toInt + p0.toInt).toNat))), (vf_upd (a_reals S1) (((f_taken S1).toInt + i.toInt + 50).toNat) ((a_reals S1) ((i.toInt + p0.toInt).toNat))), (f_size S1), (f_taken S1), (a_words S1), (a_many S1)), S1.2.1, S1.2.2.1, S1.2.2.2.1, S1.2.2.2.2.1, S1.2.2.2.2.2) : MS) from klA_S1), (show kF S ((((f_thrown S1), (upd (a_kinds S1) (((f_taken S1).toInt + i.toInt + 50).toNat) ((a_kinds S1) ((i.toInt + p0.toInt).toNat))), (vp_updL (a_codes S1) (((f_taken S1).toInt + i.toInt + 50).toNat) ((a_codes S1) ((i.toInt + p0.toInt).toNat))), (vf_upd (a_reals S1) (((f_taken S1).toInt + i.toInt + 50).toNat) ((a_reals S1) ((i.toInt + p0.toInt).toNat))), (f_size S1), (f_taken S1), (a_words S1), (a_many S1)), S1.2.1, S1.2.2.1, S1.2.2.2.1, S1.2.2.2.2.1, S1.2.2.2.2.2) : MS) from klF_S1), hP, hD, hS, lv_sub hl [0, 1, 2, 3, 4] rfl⟩
  · have fc9_1 : 160 < ((f_taken S).toInt + p1.toInt) := Int.not_le.mp (zt_nle fx1 tI_160 c9_1)
    refine lv_bipush (v := 7) hx hb d_Mo_newArray_12 (by decide) ?_
    exact j_iret F hr hlocks hK hS S ⟨⟨i_size, i_taken, i_vals, i_room, i_dicts, i_deep, i_open, i_cells, i_points, i_part, i_length, i_knows, i_page, i_text, i_pats, i_fuel, i_fr, i_ink⟩, (kA_r S), (kF_r S), (show (7 : Int32).toInt = 0 ∨ (7 : Int32).toInt = 7 by have := tI_7; omega)⟩ hP hD d_Mo_newArray_14
theorem d_Mo_get_0 : decode prog_15_method_55_code 0 = .ok (.aload_n 0, 1) := by decide +kernel
theorem d_Mo_get_1 : decode prog_15_method_55_code 1 = .ok (.getfield 13, 3) := by decide +kernel
theorem d_Mo_get_4 : decode prog_15_method_55_code 4 = .ok (.iload_n 1, 1) := by decide +kernel
theorem d_Mo_get_5 : decode prog_15_method_55_code 5 = .ok (.iconst 1, 1) := by decide +kernel
theorem d_Mo_get_6 : decode prog_15_method_55_code 6 = .ok (.isub, 1) := by decide +kernel
theorem d_Mo_get_7 : decode prog_15_method_55_code 7 = .ok (.laload, 1) := by decide +kernel
theorem d_Mo_get_8 : decode prog_15_method_55_code 8 = .ok (.lstore_n 2, 1) := by decide +kernel
theorem d_Mo_get_81 : decode prog_15_method_55_code 81 = .ok (.istore 4, 2) := by decide +kernel
theorem d_Mo_get_83 : decode prog_15_method_55_code 83 = .ok (.iload 4, 2) := by decide +kernel
theorem d_Mo_get_85 : decode prog_15_method_55_code 85 = .ok (.iconst (-1), 1) := by decide +kernel
theorem d_Mo_get_86 : decode prog_15_method_55_code 86 = .ok (.if_icmp .ne 21, 3) := by decide +kernel
theorem d_Mo_get_107 : decode prog_15_method_55_code 107 = .ok (.aload_n 0, 1) := by decide +kernel
theorem d_Mo_get_108 : decode prog_15_method_55_code 108 = .ok (.iload_n 1, 1) := by decide +kernel
theorem d_Mo_get_109 : decode prog_15_method_55_code 109 = .ok (.iconst 1, 1) := by decide +kernel
theorem d_Mo_get_110 : decode prog_15_method_55_code 110 = .ok (.isub, 1) := by decide +kernel
theorem d_Mo_get_111 : decode prog_15_method_55_code 111 = .ok (.iload 4, 2) := by decide +kernel
theorem d_Mo_get_113 : decode prog_15_method_55_code 113 = .ok (.invokevirtual 254, 3) := by decide +kernel
theorem d_Mo_get_116 : decode prog_15_method_55_code 116 = .ok (.aload_n 0, 1) := by decide +kernel
theorem d_Mo_get_117 : decode prog_15_method_55_code 117 = .ok (.dup, 1) := by decide +kernel
theorem d_Mo_get_118 : decode prog_15_method_55_code 118 = .ok (.getfield 247, 3) := by decide +kernel
theorem d_Mo_get_121 : decode prog_15_method_55_code 121 = .ok (.iconst 1, 1) := by decide +kernel
theorem d_Mo_get_122 : decode prog_15_method_55_code 122 = .ok (.isub, 1) := by decide +kernel
theorem d_Mo_get_123 : decode prog_15_method_55_code 123 = .ok (.putfield 247, 3) := by decide +kernel
theorem d_Mo_get_126 : decode prog_15_method_55_code 126 = .ok (.iconst 0, 1) := by decide +kernel
theorem d_Mo_get_127 : decode prog_15_method_55_code 127 = .ok (.ireturn, 1) := by decide +kernel
theorem d_Mo_get_89 : decode prog_15_method_55_code 89 = .ok (.aload_n 0, 1) := by decide +kernel
theorem d_Mo_get_90 : decode prog_15_method_55_code 90 = .ok (.iload_n 1, 1) := by decide +kernel
theorem d_Mo_get_91 : decode prog_15_method_55_code 91 = .ok (.iconst 1, 1) := by decide +kernel
theorem d_Mo_get_92 : decode prog_15_method_55_code 92 = .ok (.isub, 1) := by decide +kernel
theorem d_Mo_get_93 : decode prog_15_method_55_code 93 = .ok (.invokevirtual 421, 3) := by decide +kernel
theorem d_Mo_get_96 : decode prog_15_method_55_code 96 = .ok (.bipush 6, 2) := by decide +kernel
theorem d_Mo_get_98 : decode prog_15_method_55_code 98 = .ok (.if_icmp .ne 7, 3) := by decide +kernel
theorem d_Mo_get_105 : decode prog_15_method_55_code 105 = .ok (.iconst 4, 1) := by decide +kernel
theorem d_Mo_get_106 : decode prog_15_method_55_code 106 = .ok (.ireturn, 1) := by decide +kernel
theorem d_Mo_get_101 : decode prog_15_method_55_code 101 = .ok (.iconst 5, 1) := by decide +kernel
theorem d_Mo_get_102 : decode prog_15_method_55_code 102 = .ok (.goto 4, 3) := by decide +kernel
theorem d_Mo_get_9 : decode prog_15_method_55_code 9 = .ok (.aload_n 0, 1) := by decide +kernel
theorem d_Mo_get_10 : decode prog_15_method_55_code 10 = .ok (.iload_n 1, 1) := by decide +kernel
theorem d_Mo_get_11 : decode prog_15_method_55_code 11 = .ok (.iconst 1, 1) := by decide +kernel
theorem d_Mo_get_12 : decode prog_15_method_55_code 12 = .ok (.isub, 1) := by decide +kernel
theorem d_Mo_get_13 : decode prog_15_method_55_code 13 = .ok (.invokevirtual 421, 3) := by decide +kernel
theorem d_Mo_get_16 : decode prog_15_method_55_code 16 = .ok (.bipush 6, 2) := by decide +kernel
theorem d_Mo_get_18 : decode prog_15_method_55_code 18 = .ok (.if_icmp .ne 18, 3) := by decide +kernel
theorem d_Mo_get_36 : decode prog_15_method_55_code 36 = .ok (.aload_n 0, 1) := by decide +kernel
theorem d_Mo_get_37 : decode prog_15_method_55_code 37 = .ok (.getfield 13, 3) := by decide +kernel
theorem d_Mo_get_40 : decode prog_15_method_55_code 40 = .ok (.iload_n 1, 1) := by decide +kernel
theorem d_Mo_get_41 : decode prog_15_method_55_code 41 = .ok (.laload, 1) := by decide +kernel
theorem d_Mo_get_42 : decode prog_15_method_55_code 42 = .ok (.lconst 0, 1) := by decide +kernel
theorem d_Mo_get_43 : decode prog_15_method_55_code 43 = .ok (.lcmp, 1) := by decide +kernel
theorem d_Mo_get_44 : decode prog_15_method_55_code 44 = .ok (.ifCond .lt 18, 3) := by decide +kernel
theorem d_Mo_get_62 : decode prog_15_method_55_code 62 = .ok (.iconst (-1), 1) := by decide +kernel
theorem d_Mo_get_63 : decode prog_15_method_55_code 63 = .ok (.goto 18, 3) := by decide +kernel
theorem d_Mo_get_47 : decode prog_15_method_55_code 47 = .ok (.aload_n 0, 1) := by decide +kernel
theorem d_Mo_get_48 : decode prog_15_method_55_code 48 = .ok (.getfield 13, 3) := by decide +kernel
theorem d_Mo_get_51 : decode prog_15_method_55_code 51 = .ok (.iload_n 1, 1) := by decide +kernel
theorem d_Mo_get_52 : decode prog_15_method_55_code 52 = .ok (.laload, 1) := by decide +kernel
theorem d_Mo_get_53 : decode prog_15_method_55_code 53 = .ok (.lload_n 2, 1) := by decide +kernel
theorem d_Mo_get_54 : decode prog_15_method_55_code 54 = .ok (.invokestatic 391, 3) := by decide +kernel
theorem d_Mo_get_57 : decode prog_15_method_55_code 57 = .ok (.i2l, 1) := by decide +kernel
theorem d_Mo_get_58 : decode prog_15_method_55_code 58 = .ok (.lcmp, 1) := by decide +kernel
theorem d_Mo_get_59 : decode prog_15_method_55_code 59 = .ok (.ifCond .lt 7, 3) := by decide +kernel
theorem d_Mo_get_66 : decode prog_15_method_55_code 66 = .ok (.bipush 50, 2) := by decide +kernel
theorem d_Mo_get_68 : decode prog_15_method_55_code 68 = .ok (.lload_n 2, 1) := by decide +kernel
theorem d_Mo_get_69 : decode prog_15_method_55_code 69 = .ok (.invokestatic 394, 3) := by decide +kernel
theorem k_8_22 : Cond.code ⟨"PageScribeModel", "first", "(J)I"⟩ prog_15_method_6_code 2 (some .int) ∈ gw := gw_of (tb_8 (List.mem_of_getElem? (i := 22) (by decide +kernel))) (by decide +kernel)
theorem k_8_20 : Cond.methodLink "PageScribeModel" 394 ⟨"PageScribeModel", "first", "(J)I"⟩ ∈ gw := gw_of (tb_8 (List.mem_of_getElem? (i := 20) (by decide +kernel))) (by decide +kernel)
theorem k_8_21 : Cond.static ⟨"PageScribeModel", "first", "(J)I"⟩ ∈ gw := gw_of (tb_8 (List.mem_of_getElem? (i := 21) (by decide +kernel))) (by decide +kernel)
theorem d_Mo_get_72 : decode prog_15_method_55_code 72 = .ok (.iadd, 1) := by decide +kernel
theorem d_Mo_get_73 : decode prog_15_method_55_code 73 = .ok (.aload_n 0, 1) := by decide +kernel
theorem d_Mo_get_74 : decode prog_15_method_55_code 74 = .ok (.getfield 13, 3) := by decide +kernel
theorem d_Mo_get_77 : decode prog_15_method_55_code 77 = .ok (.iload_n 1, 1) := by decide +kernel
theorem d_Mo_get_78 : decode prog_15_method_55_code 78 = .ok (.laload, 1) := by decide +kernel
theorem d_Mo_get_79 : decode prog_15_method_55_code 79 = .ok (.l2i, 1) := by decide +kernel
theorem d_Mo_get_80 : decode prog_15_method_55_code 80 = .ok (.iadd, 1) := by decide +kernel
theorem d_Mo_get_21 : decode prog_15_method_55_code 21 = .ok (.aload_n 0, 1) := by decide +kernel
theorem d_Mo_get_22 : decode prog_15_method_55_code 22 = .ok (.lload_n 2, 1) := by decide +kernel
theorem d_Mo_get_23 : decode prog_15_method_55_code 23 = .ok (.l2i, 1) := by decide +kernel
theorem d_Mo_get_24 : decode prog_15_method_55_code 24 = .ok (.aload_n 0, 1) := by decide +kernel
theorem d_Mo_get_25 : decode prog_15_method_55_code 25 = .ok (.getfield 13, 3) := by decide +kernel
theorem d_Mo_get_28 : decode prog_15_method_55_code 28 = .ok (.iload_n 1, 1) := by decide +kernel
theorem d_Mo_get_29 : decode prog_15_method_55_code 29 = .ok (.laload, 1) := by decide +kernel
theorem d_Mo_get_30 : decode prog_15_method_55_code 30 = .ok (.invokevirtual 362, 3) := by decide +kernel
theorem k_7_147 : Cond.code ⟨"PageScribeModel", "entry", "(IJ)I"⟩ prog_15_method_60_code 5 (some .int) ∈ gw := gw_of (tb_7 (List.mem_of_getElem? (i := 147) (by decide +kernel))) (by decide +kernel)
theorem k_7_144 : Cond.methodLink "PageScribeModel" 362 ⟨"PageScribeModel", "entry", "(IJ)I"⟩ ∈ gw := gw_of (tb_7 (List.mem_of_getElem? (i := 144) (by decide +kernel))) (by decide +kernel)
theorem k_7_146 : Cond.instanceMethod ⟨"PageScribeModel", "entry", "(IJ)I"⟩ ∈ gw := gw_of (tb_7 (List.mem_of_getElem? (i := 146) (by decide +kernel))) (by decide +kernel)
theorem k_0_96 : Cond.selects "PageScribeModel" ⟨"PageScribeModel", "entry", "(IJ)I"⟩ ⟨"PageScribeModel", "entry", "(IJ)I"⟩ ∈ gw := gw_of (tb_0 (List.mem_of_getElem? (i := 96) (by decide +kernel))) (by decide +kernel)
theorem d_Mo_get_33 : decode prog_15_method_55_code 33 = .ok (.goto 48, 3) := by decide +kernel
set_option maxHeartbeats 4000000 in
set_option maxRecDepth 100000 in
theorem m_get (l : Launch) (D : va_G) (T : Nat → ClassId) (h0 : Nat) (ar : Nat → Nat) (S : MS) (p0 : Int32) (sz : Nat) (hI : MI S) (h3 : p0.toInt = (f_size S).toInt - 1 ∧ 2 ≤ (f_size S).toInt) (h2 : ((a_kinds S) ((f_size S).toInt - 2).toNat).toInt % 8 = 6 ∨ ((a_kinds S) ((f_size S).toInt - 2).toNat).toInt % 8 = 5) : Met l ⟨"PageScribeModel", "get", "(I)I"⟩ (wy ⟨"PageScribeModel", "get", "(I)I"⟩ prog_15_method_55_code 5 (some .int)) ({ frames := 2, cells := 0, slots := 0, locals := 140 }) (va_Pc [.ref h0, .int p0] (Pw D T (mW T h0 ar S) sz E0)) (va_Qi (fun (r : Int32) (u : MS) => MI u ∧ kA S u ∧ kF S u ∧ (r.toInt = 0 ∨ r.toInt = 4 ∨ r.toInt = 5)) (fun u t => Bw D T (va_A (mW T h0 ar S) sz) (mW T h0 ar u) t) (va_A (mW T h0 ar S) sz)) 0 0 (va_A (mW T h0 ar S) sz) := by
  refine j_met (y := ⟨"PageScribeModel", "get", "(I)I"⟩) (b := prog_15_method_55_code) (n := 5) (ret := (some .int)) (av := [.ref h0, .int p0]) (Qc := fun A => va_Qi (fun (r : Int32) (u : MS) => MI u ∧ kA S u ∧ kF S u ∧ (r.toInt = 0 ∨ r.toInt = 4 ∨ r.toInt = 5)) (fun u t => Bw D T A (mW T h0 ar u) t) A) (by decide +kernel) (Nat.le_of_ble_eq_true rfl) (fun p e s m args below meth c A ls F hr hlocks hnm hK hP hD hS hA hN hE hl => ?_)
  obtain ⟨hx, hb, hml, hown, hts⟩ := id F
  have hl : lv_has ls 5 [(0, .ref h0), (1, .int p0)] := hl
  obtain ⟨i_size, i_taken, i_vals, i_room, i_dicts, i_deep, i_open, i_cells, i_points, i_part, i_length, i_knows, i_page, i_text, i_pats, i_fuel, i_fr, i_ink⟩ := id hI
  refine lv_aload_n hx hb d_Mo_get_0 rfl (lv_at hl 0 rfl) ?_
  refine va_get (D := D) (ci := 11) (v := .ref (ar 1)) (C := "PageScribeModel") (T := F_Mo) (N := 45) hx hb hts i_Mo hown hK hP 0 mW_0 cl_11 2 (by decide) (hts _ k_6_162) (fun _ h9 => h9) (mg_codes _ _) d_Mo_get_1 ?_
  refine lv_iload_n hx hb d_Mo_get_4 rfl (lv_at hl 1 rfl) ?_
  refine lv_iconst (v := 1) hx hb d_Mo_get_5 (by decide) ?_
  refine lv_isub hx hb d_Mo_get_6 ?_
  refine lv_topi (fun x1 ex1 => ?_)
  have fx1 : x1.toInt = ((f_size S).toInt - 2) := by rw [ex1]; exact (zt_sub h3.1 tI_1 (by omega) (by omega)).trans (by omega)
  refine va_lald hx hb hK hP 2 1 (ma_codes _ _ _ _) rfl (zt_in fx1 (by omega) (by omega)) d_Mo_get_7 ?_
  refine lv_topl (fun x2 ex2 => ?_)
  have gx2 : x2 = (a_codes S) ((f_size S).toInt - 2).toNat := ex2.trans (congrArg _ (zt_ix fx1))
  have fx2 : x2.toInt = ((a_codes S) ((f_size S).toInt - 2).toNat).toInt := by rw [gx2]
  have kx2 : vOk ((a_kinds S) ((f_size S).toInt - 2).toNat) ((a_codes S) ((f_size S).toInt - 2).toNat) ((a_reals S) ((f_size S).toInt - 2).toNat) := i_vals (((f_size S).toInt - 2).toNat) (by omega)
  refine lv_lstore_n (lv' := [(2, .long x2), (0, .ref h0), (1, .int p0)]) hx hb d_Mo_get_8 rfl hl (by decide) rfl (fun ls hl => ?_)
  refine j_joinH (α := Int32) (fun x H locs ls => (x.toInt = -1 ∨ (50 ≤ x.toInt ∧ x.toInt ≤ 329)) ∧ va_P D classes (mW T h0 ar S) H ∧ va_D A (mW T h0 ar S) ∧ va_S A s.heap H locs ∧ lv_has ls 5 [(2, .long x2), (0, .ref h0), (1, .int p0)]) (fun x ls => F0 m 81 ls (.int x :: [])) (fun x H locs ls hI9 => ?_) (fun key1 => ?_)
  · obtain ⟨j1, rfl⟩ : ∃ z, z = x := ⟨_, rfl⟩
    obtain ⟨hj1, hP, hD, hS, hl⟩ := hI9
    have hj1 : j1.toInt = -1 ∨ (50 ≤ j1.toInt ∧ j1.toInt ≤ 329) := hj1
    have hP : va_P D classes (mW T h0 ar S) H := hP
    have hD : va_D A (mW T h0 ar S) := hD
    have hl : lv_has ls 5 [(2, .long x2), (0, .ref h0), (1, .int p0)] := hl
    refine lv_istore (lv' := [(4, .int j1), (2, .long x2), (0, .ref h0), (1, .int p0)]) hx hb d_Mo_get_81 hl (by decide) rfl (fun ls hl => ?_)
    refine lv_iload hx hb d_Mo_get_83 (lv_at hl 0 rfl) ?_
    refine lv_iconst (v := (-1)) hx hb d_Mo_get_85 (by decide) ?_
    refine lv_icmp_ne (tgt := 107) hx hb d_Mo_get_86 (by decide) (fun c86_1 => ?_) (fun c86_1 => ?_)
    · first | have fc86_1 : j1.toInt < (-1) := (by have := zt_ne (show j1.toInt = _ from rfl) tI_m1 c86_1; omega) | have fc86_1 : (-1) < j1.toInt := (by have := zt_ne (show j1.toInt = _ from rfl) tI_m1 c86_1; omega) | skip
      refine lv_aload_n hx hb d_Mo_get_107 rfl (lv_at hl 2 rfl) ?_
      refine lv_iload_n hx hb d_Mo_get_108 rfl (lv_at hl 3 rfl) ?_
      refine lv_iconst (v := 1) hx hb d_Mo_get_109 (by decide) ?_
      refine lv_isub hx hb d_Mo_get_110 ?_
      refine j_eqi (y := x1) ex1.symm ?_
      refine lv_iload hx hb d_Mo_get_111 (lv_at hl 0 rfl) ?_
      refine jm_cv (w := (fun u => u)) hK hP hD hS hA (va_runV (As := [.int x1, .int j1]) (rest := []) F (m_move l D T h0 ar S x1 j1 H.size (show 0 ≤ x1.toInt ∧ x1.toInt < 1300 by first | omega | (simp only [fx1]; omega)) (show 0 ≤ j1.toInt ∧ j1.toInt < 1300 by first | omega | (simp only [fx1]; omega))) (j_cV (k := 2) (C := "PageScribeModel") hts k_7_76 k_1_12 k_7_73 k_7_75 k_0_82 (by decide +kernel) ⟨Nat.le_of_ble_eq_true rfl, Nat.le_of_ble_eq_true rfl⟩) (jm_pre hK hP hD) rfl rfl hl.1 rfl (lv_room (Nat.le_of_ble_eq_true rfl)) d_Mo_get_113 ⟨Nat.le_of_ble_eq_true rfl, Nat.le_of_ble_eq_true rfl⟩) (fun S1 H locs hw1 hP hD hS => ?_)
      try simp only [fx1] at hw1
      obtain rfl := hw1
      have hP : va_P D classes (mW T h0 ar ((((f_thrown S), (upd (a_kinds S) (((f_size S).toInt - 2).toNat) ((a_kinds S) (j1.toInt.toNat))), (vp_updL (a_codes S) (((f_size S).toInt - 2).toNat) ((a_codes S) (j1.toInt.toNat))), (vf_upd (a_reals S) (((f_size S).toInt - 2).toNat) ((a_reals S) (j1.toInt.toNat))), (f_size S), (f_taken S), (a_words S), (a_many S)), S.2.1, S.2.2.1, S.2.2.2.1, S.2.2.2.2.1, S.2.2.2.2.2) : MS)) H := hP
      have hD : va_D A (mW T h0 ar ((((f_thrown S), (upd (a_kinds S) (((f_size S).toInt - 2).toNat) ((a_kinds S) (j1.toInt.toNat))), (vp_updL (a_codes S) (((f_size S).toInt - 2).toNat) ((a_codes S) (j1.toInt.toNat))), (vf_upd (a_reals S) (((f_size S).toInt - 2).toNat) ((a_reals S) (j1.toInt.toNat))), (f_size S), (f_taken S), (a_words S), (a_many S)), S.2.1, S.2.2.1, S.2.2.2.1, S.2.2.2.2.1, S.2.2.2.2.2) : MS)) := hD
      have i_vals : ∀ k, k < 1300 → vOk ((upd (a_kinds S) (((f_size S).toInt - 2).toNat) ((a_kinds S) (j1.toInt.toNat))) k) ((vp_updL (a_codes S) (((f_size S).toInt - 2).toNat) ((a_codes S) (j1.toInt.toNat))) k) ((vf_upd (a_reals S) (((f_size S).toInt - 2).toNat) ((a_reals S) (j1.toInt.toNat))) k) := vOk_upd i_vals (i_vals (j1.toInt.toNat) (by omega))
      have fa1 : ((upd (a_kinds S) (((f_size S).toInt - 2).toNat) ((a_kinds S) (j1.toInt.toNat))) (((f_size S).toInt - 2).toNat)).toInt = ((a_kinds S) (j1.toInt.toNat)).toInt := congrArg Int32.toInt upd_s
      have fa2 : ((vp_updL (a_codes S) (((f_size S).toInt - 2).toNat) ((a_codes S) (j1.toInt.toNat))) (((f_size S).toInt - 2).toNat)).toInt = ((a_codes S) (j1.toInt.toNat)).toInt := congrArg Int64.toInt updL_s
      refine lv_aload_n hx hb d_Mo_get_116 rfl (lv_at hl 2 rfl) ?_
      refine lv_dup hx hb d_Mo_get_117 rfl ?_
      refine va_get (D := D) (ci := 11) (v := .int (f_size S)) (C := "PageScribeModel") (T := F_Mo) (N := 45) hx hb hts i_Mo hown hK hP 0 mW_0 cl_11 4 (by decide) (hts _ k_6_164) (fun _ h9 => h9) (mg_size _ _) d_Mo_get_118 ?_
      refine lv_iconst (v := 1) hx hb d_Mo_get_121 (by decide) ?_
      refine lv_isub hx hb d_Mo_get_122 ?_
      refine lv_topi (fun x3 ex3 => ?_)
      have fx3 : x3.toInt = ((f_size S).toInt - 1) := by rw [ex3]; exact (zt_sub (show (f_size S).toInt = _ from rfl) tI_1 (by omega) (by omega)).trans (by omega)
      refine va_put (D := D) (ci := 11) (v := .int x3) (ty := .int) (C := "PageScribeModel") (T := F_Mo) (N := 45) hx hb hts i_Mo t_Mo t_Mo_ok n_Mo hown hK hP hD hS 0 mW_0 cl_11 4 (by decide) (hts _ k_6_164) (fun _ h9 => h9) rfl (by decide +kernel) rfl rfl (Nat.le_of_ble_eq_true rfl) d_Mo_get_123 (fun H locs hP hD hS => ?_)
      rw [mp_size] at hP hD
      have hP : va_P D classes (mW T h0 ar ((((f_thrown S), (upd (a_kinds S) (((f_size S).toInt - 2).toNat) ((a_kinds S) (j1.toInt.toNat))), (vp_updL (a_codes S) (((f_size S).toInt - 2).toNat) ((a_codes S) (j1.toInt.toNat))), (vf_upd (a_reals S) (((f_size S).toInt - 2).toNat) ((a_reals S) (j1.toInt.toNat))), x3, (f_taken S), (a_words S), (a_many S)), S.2.1, S.2.2.1, S.2.2.2.1, S.2.2.2.2.1, S.2.2.2.2.2) : MS)) H := hP
      have hD : va_D A (mW T h0 ar ((((f_thrown S), (upd (a_kinds S) (((f_size S).toInt - 2).toNat) ((a_kinds S) (j1.toInt.toNat))), (vp_updL (a_codes S) (((f_size S).toInt - 2).toNat) ((a_codes S) (j1.toInt.toNat))), (vf_upd (a_reals S) (((f_size S).toInt - 2).toNat) ((a_reals S) (j1.toInt.toNat))), x3, (f_taken S), (a_words S), (a_many S)), S.2.1, S.2.2.1, S.2.2.2.1, S.2.2.2.2.1, S.2.2.2.2.2) : MS)) := hD
      refine lv_iconst (v := 0) hx hb d_Mo_get_126 (by decide) ?_
      exact j_iret F hr hlocks hK hS ((((f_thrown S), (upd (a_kinds S) (((f_size S).toInt - 2).toNat) ((a_kinds S) (j1.toInt.toNat))), (vp_updL (a_codes S) (((f_size S).toInt - 2).toNat) ((a_codes S) (j1.toInt.toNat))), (vf_upd (a_reals S) (((f_size S).toInt - 2).toNat) ((a_reals S) (j1.toInt.toNat))), x3, (f_taken S), (a_words S), (a_many S)), S.2.1, S.2.2.1, S.2.2.2.1, S.2.2.2.2.1, S.2.2.2.2.2) : MS) ⟨⟨(show 0 ≤ x3.toInt ∧ x3.toInt ≤ 40 by omega), i_taken, i_vals, i_room, i_dicts, i_deep, i_open, i_cells, i_points, i_part, i_length, i_knows, i_page, i_text, i_pats, i_fuel, i_fr, i_ink⟩, (kA_r S), (kF_r S), (show (0 : Int32).toInt = 0 ∨ (0 : Int32).toInt = 4 ∨ (0 : Int32).toInt = 5 by have := tI_0; omega)⟩ hP hD d_Mo_get_127
    · have fc86_1 : j1.toInt = (-1) := zt_eq (show j1.toInt = _ from rfl) tI_m1 c86_1
      refine lv_aload_n hx hb d_Mo_get_89 rfl (lv_at hl 2 rfl) ?_
      refine lv_iload_n hx hb d_Mo_get_90 rfl (lv_at hl 3 rfl) ?_
      refine lv_iconst (v := 1) hx hb d_Mo_get_91 (by decide) ?_
      refine lv_isub hx hb d_Mo_get_92 ?_
      refine j_eqi (y := x1) ex1.symm ?_
      have kv1 : vOk ((a_kinds S) (((f_size S).toInt - 2).toNat)) ((a_codes S) (((f_size S).toInt - 2).toNat)) ((a_reals S) (((f_size S).toInt - 2).toNat)) := i_vals (((f_size S).toInt - 2).toNat) (by omega)
      have rkv1 := vk_rng kv1
      refine jm_ci (w := (fun _ => S)) hK hP hD hS hA (va_runV (As := [.int x1]) (rest := []) F (m_kindOf l D T h0 ar S x1 H.size (show 0 ≤ x1.toInt ∧ x1.toInt < 1300 by first | omega | (simp only [fx1]; omega)) (show 0 ≤ ((a_kinds S) x1.toInt.toNat).toInt by first | omega | (simp only [fx1]; omega))) (j_cV (k := 1) (C := "PageScribeModel") hts k_7_174 k_1_12 k_7_171 k_7_173 k_0_102 (by decide +kernel) ⟨Nat.le_of_ble_eq_true rfl, Nat.le_of_ble_eq_true rfl⟩) (jm_pre hK hP hD) rfl rfl hl.1 rfl (lv_room (Nat.le_of_ble_eq_true rfl)) d_Mo_get_93 ⟨Nat.le_of_ble_eq_true rfl, Nat.le_of_ble_eq_true rfl⟩) (fun rv2 u1 H locs hw2 hP hD hS => ?_)
      have hP : va_P D classes (mW T h0 ar S) H := hP
      have hD : va_D A (mW T h0 ar S) := hD
      have qhw2 : rv2.toInt = ((a_kinds S) ((f_size S).toInt - 2).toNat).toInt % 8 := by simpa only [fx1] using hw2
      refine lv_bipush (v := 6) hx hb d_Mo_get_96 (by decide) ?_
      refine lv_icmp_ne (tgt := 105) hx hb d_Mo_get_98 (by decide) (fun c98_1 => ?_) (fun c98_1 => ?_)
      · first | have fc98_1 : rv2.toInt < 6 := (by have := zt_ne (show rv2.toInt = _ from rfl) tI_6 c98_1; omega) | have fc98_1 : 6 < rv2.toInt := (by have := zt_ne (show rv2.toInt = _ from rfl) tI_6 c98_1; omega) | skip
        refine lv_iconst (v := 4) hx hb d_Mo_get_105 (by decide) ?_
        exact j_iret F hr hlocks hK hS S ⟨⟨i_size, i_taken, i_vals, i_room, i_dicts, i_deep, i_open, i_cells, i_points, i_part, i_length, i_knows, i_page, i_text, i_pats, i_fuel, i_fr, i_ink⟩, (kA_r S), (kF_r S), (show (4 : Int32).toInt = 0 ∨ (4 : Int32).toInt = 4 ∨ (4 : Int32).toInt = 5 by have := tI_4; omega)⟩ hP hD d_Mo_get_106
      · have fc98_1 : rv2.toInt = 6 := zt_eq (show rv2.toInt = _ from rfl) tI_6 c98_1
        refine lv_iconst (v := 5) hx hb d_Mo_get_101 (by decide) ?_
        refine lv_goto (tgt := 106) hx hb d_Mo_get_102 (by decide) ?_
        exact j_iret F hr hlocks hK hS S ⟨⟨i_size, i_taken, i_vals, i_room, i_dicts, i_deep, i_open, i_cells, i_points, i_part, i_length, i_knows, i_page, i_text, i_pats, i_fuel, i_fr, i_ink⟩, (kA_r S), (kF_r S), (show (5 : Int32).toInt = 0 ∨ (5 : Int32).toInt = 4 ∨ (5 : Int32).toInt = 5 by have := tI_5; omega)⟩ hP hD d_Mo_get_106
  · refine lv_aload_n hx hb d_Mo_get_9 rfl (lv_at hl 1 rfl) ?_
    refine lv_iload_n hx hb d_Mo_get_10 rfl (lv_at hl 2 rfl) ?_
    refine lv_iconst (v := 1) hx hb d_Mo_get_11 (by decide) ?_
    refine lv_isub hx hb d_Mo_get_12 ?_
    refine j_eqi (y := x1) ex1.symm ?_
    have kv2 : vOk ((a_kinds S) (((f_size S).toInt - 2).toNat)) ((a_codes S) (((f_size S).toInt - 2).toNat)) ((a_reals S) (((f_size S).toInt - 2).toNat)) := i_vals (((f_size S).toInt - 2).toNat) (by omega)
    have rkv2 := vk_rng kv2
    refine jm_ci (w := (fun _ => S)) hK hP hD hS hA (va_runV (As := [.int x1]) (rest := []) F (m_kindOf l D T h0 ar S x1 s.heap.size (show 0 ≤ x1.toInt ∧ x1.toInt < 1300 by first | omega | (simp only [fx1]; omega)) (show 0 ≤ ((a_kinds S) x1.toInt.toNat).toInt by first | omega | (simp only [fx1]; omega))) (j_cV (k := 1) (C := "PageScribeModel") hts k_7_174 k_1_12 k_7_171 k_7_173 k_0_102 (by decide +kernel) ⟨Nat.le_of_ble_eq_true rfl, Nat.le_of_ble_eq_true rfl⟩) (jm_pre hK hP hD) rfl rfl hl.1 rfl (lv_room (Nat.le_of_ble_eq_true rfl)) d_Mo_get_13 ⟨Nat.le_of_ble_eq_true rfl, Nat.le_of_ble_eq_true rfl⟩) (fun rv3 u2 H locs hw3 hP hD hS => ?_)
    have hP : va_P D classes (mW T h0 ar S) H := hP
    have hD : va_D A (mW T h0 ar S) := hD
    have qhw3 : rv3.toInt = ((a_kinds S) ((f_size S).toInt - 2).toNat).toInt % 8 := by simpa only [fx1] using hw3
    refine lv_bipush (v := 6) hx hb d_Mo_get_16 (by decide) ?_
    refine lv_icmp_ne (tgt := 36) hx hb d_Mo_get_18 (by decide) (fun c18_1 => ?_) (fun c18_1 => ?_)
    · have fc18_1 : ¬ rv3.toInt = 6 := zt_ne (show rv3.toInt = _ from rfl) tI_6 c18_1
      have aa := vk_ar8 kx2 (by omega)
      refine lv_aload_n hx hb d_Mo_get_36 rfl (lv_at hl 1 rfl) ?_
      refine va_get (D := D) (ci := 11) (v := .ref (ar 1)) (C := "PageScribeModel") (T := F_Mo) (N := 45) hx hb hts i_Mo hown hK hP 0 mW_0 cl_11 2 (by decide) (hts _ k_6_162) (fun _ h9 => h9) (mg_codes _ _) d_Mo_get_37 ?_
      refine lv_iload_n hx hb d_Mo_get_40 rfl (lv_at hl 2 rfl) ?_
      refine va_lald hx hb hK hP 2 1 (ma_codes _ _ _ _) rfl (zt_in h3.1 (by omega) (by omega)) d_Mo_get_41 ?_
      refine lv_topl (fun x4 ex4 => ?_)
      have gx4 : x4 = (a_codes S) ((f_size S).toInt - 1).toNat := ex4.trans (congrArg _ (zt_ix h3.1))
      have fx4 : x4.toInt = ((a_codes S) ((f_size S).toInt - 1).toNat).toInt := by rw [gx4]
      have kx4 : vOk ((a_kinds S) ((f_size S).toInt - 1).toNat) ((a_codes S) ((f_size S).toInt - 1).toNat) ((a_reals S) ((f_size S).toInt - 1).toNat) := i_vals (((f_size S).toInt - 1).toNat) (by omega)
      refine lv_lconst (v := 0) hx hb d_Mo_get_42 (by decide) ?_
      refine W.lcmp hx hb d_Mo_get_43 ?_
      refine lv_topi (fun x5 ex5 => ?_)
      refine lv_if_lt (tgt := 62) hx hb d_Mo_get_44 (by decide) (fun c44_1 => ?_) (fun c44_1 => ?_)
      · have fc44_1 : x5.toInt < 0 := zt_lt (show x5.toInt = _ from rfl) tI_0 c44_1
        have vc44_1 : x4.toInt < 0 := by have := zr_cmp ex5 (show x4.toInt = _ from rfl) tJ_0; have := zt_lt (show x5.toInt = _ from rfl) tI_0 c44_1; omega
        refine lv_iconst (v := (-1)) hx hb d_Mo_get_62 (by decide) ?_
        refine lv_goto (tgt := 81) hx hb d_Mo_get_63 (by decide) ?_
        exact key1 (-1 : Int32) _ _ _ ⟨(show (-1 : Int32).toInt = -1 ∨ (50 ≤ (-1 : Int32).toInt ∧ (-1 : Int32).toInt ≤ 329) by have := tI_m1; omega), hP, hD, hS, lv_sub hl [0, 1, 2] rfl⟩
      · have fc44_1 : 0 ≤ x5.toInt := Int.not_lt.mp (zt_nlt (show x5.toInt = _ from rfl) tI_0 c44_1)
        have vc44_1 : x4.toInt ≥ 0 := by have := zr_cmp ex5 (show x4.toInt = _ from rfl) tJ_0; have := Int.not_lt.mp (zt_nlt (show x5.toInt = _ from rfl) tI_0 c44_1); omega
        refine lv_aload_n hx hb d_Mo_get_47 rfl (lv_at hl 1 rfl) ?_
        refine va_get (D := D) (ci := 11) (v := .ref (ar 1)) (C := "PageScribeModel") (T := F_Mo) (N := 45) hx hb hts i_Mo hown hK hP 0 mW_0 cl_11 2 (by decide) (hts _ k_6_162) (fun _ h9 => h9) (mg_codes _ _) d_Mo_get_48 ?_
        refine lv_iload_n hx hb d_Mo_get_51 rfl (lv_at hl 2 rfl) ?_
        refine va_lald hx hb hK hP 2 1 (ma_codes _ _ _ _) rfl (zt_in h3.1 (by omega) (by omega)) d_Mo_get_52 ?_
        refine lv_topl (fun x6 ex6 => ?_)
        have gx6 : x6 = (a_codes S) ((f_size S).toInt - 1).toNat := ex6.trans (congrArg _ (zt_ix h3.1))
        have fx6 : x6.toInt = ((a_codes S) ((f_size S).toInt - 1).toNat).toInt := by rw [gx6]
        have kx6 : vOk ((a_kinds S) ((f_size S).toInt - 1).toNat) ((a_codes S) ((f_size S).toInt - 1).toNat) ((a_reals S) ((f_size S).toInt - 1).toNat) := i_vals (((f_size S).toInt - 1).toNat) (by omega)
        refine lv_lload_n hx hb d_Mo_get_53 rfl (lv_at hl 0 rfl) ?_
        refine j_ci (wc := []) (wr := (mW T h0 ar S)) hK hP hD hS hA [] isc rfl isc_all isc_nd (fun _ _ => List.not_mem_nil) (va_runS (As := [.long x2]) (rest := [.long x6]) F (m_count l D T x2 H.size (show 0 ≤ x2.toInt ∧ x2.toInt < 1048576 by omega)) (j_cS (k := 1) hts k_8_7 k_1_12 k_8_5 k_8_6 (by decide +kernel) ⟨Nat.le_of_ble_eq_true rfl, Nat.le_of_ble_eq_true rfl⟩) (j_preS hK hP hD [] rfl (by decide) (fun _ _ _ _ h => h) (fun _ _ _ => trivial)) rfl rfl hl.1 rfl (lv_room (Nat.le_of_ble_eq_true rfl)) d_Mo_get_54 ⟨Nat.le_of_ble_eq_true rfl, Nat.le_of_ble_eq_true rfl⟩) (fun rv4 u3 H locs hw4 hP hD hS => ?_)
        have hP : va_P D classes (mW T h0 ar S) H := hP
        have hD : va_D A (mW T h0 ar S) := hD
        have qhw4 : rv4.toInt = x2.toInt / 1024 := hw4
        refine lv_i2l (v := (rv4).toInt64) hx hb d_Mo_get_57 rfl ?_
        refine lv_topl (fun x7 ex7 => ?_)
        have fx7 : x7.toInt = rv4.toInt := by rw [ex7]; exact zu_i2l (show rv4.toInt = _ from rfl)
        refine W.lcmp hx hb d_Mo_get_58 ?_
        refine lv_topi (fun x8 ex8 => ?_)
        refine lv_if_lt (tgt := 66) hx hb d_Mo_get_59 (by decide) (fun c59_1 => ?_) (fun c59_1 => ?_)
        · have fc59_1 : x8.toInt < 0 := zt_lt (show x8.toInt = _ from rfl) tI_0 c59_1
          have vc59_1 : x6.toInt < rv4.toInt := by have := zr_cmp ex8 (show x6.toInt = _ from rfl) fx7; have := zt_lt (show x8.toInt = _ from rfl) tI_0 c59_1; omega
          refine lv_bipush (v := 50) hx hb d_Mo_get_66 (by decide) ?_
          refine lv_lload_n hx hb d_Mo_get_68 rfl (lv_at hl 0 rfl) ?_
          refine j_ci (wc := []) (wr := (mW T h0 ar S)) hK hP hD hS hA [] isc rfl isc_all isc_nd (fun _ _ => List.not_mem_nil) (va_runS (As := [.long x2]) (rest := [.int 50]) F (m_first l D T x2 H.size (show 0 ≤ x2.toInt by omega)) (j_cS (k := 1) hts k_8_22 k_1_12 k_8_20 k_8_21 (by decide +kernel) ⟨Nat.le_of_ble_eq_true rfl, Nat.le_of_ble_eq_true rfl⟩) (j_preS hK hP hD [] rfl (by decide) (fun _ _ _ _ h => h) (fun _ _ _ => trivial)) rfl rfl hl.1 rfl (lv_room (Nat.le_of_ble_eq_true rfl)) d_Mo_get_69 ⟨Nat.le_of_ble_eq_true rfl, Nat.le_of_ble_eq_true rfl⟩) (fun rv5 u4 H locs hw5 hP hD hS => ?_)
          have hP : va_P D classes (mW T h0 ar S) H := hP
          have hD : va_D A (mW T h0 ar S) := hD
          have qhw5 : rv5.toInt = x2.toInt % 1024 := hw5
          refine lv_iadd hx hb d_Mo_get_72 ?_
          refine lv_topi (fun x9 ex9 => ?_)
          have fx9 : x9.toInt = (rv5.toInt + 50) := by rw [ex9]; exact (zt_add tI_50 (show rv5.toInt = _ from rfl) (by omega) (by omega)).trans (by omega)
          refine lv_aload_n hx hb d_Mo_get_73 rfl (lv_at hl 1 rfl) ?_
          refine va_get (D := D) (ci := 11) (v := .ref (ar 1)) (C := "PageScribeModel") (T := F_Mo) (N := 45) hx hb hts i_Mo hown hK hP 0 mW_0 cl_11 2 (by decide) (hts _ k_6_162) (fun _ h9 => h9) (mg_codes _ _) d_Mo_get_74 ?_
          refine lv_iload_n hx hb d_Mo_get_77 rfl (lv_at hl 2 rfl) ?_
          refine va_lald hx hb hK hP 2 1 (ma_codes _ _ _ _) rfl (zt_in h3.1 (by omega) (by omega)) d_Mo_get_78 ?_
          refine lv_topl (fun x10 ex10 => ?_)
          have gx10 : x10 = (a_codes S) ((f_size S).toInt - 1).toNat := ex10.trans (congrArg _ (zt_ix h3.1))
          have fx10 : x10.toInt = ((a_codes S) ((f_size S).toInt - 1).toNat).toInt := by rw [gx10]
          have kx10 : vOk ((a_kinds S) ((f_size S).toInt - 1).toNat) ((a_codes S) ((f_size S).toInt - 1).toNat) ((a_reals S) ((f_size S).toInt - 1).toNat) := i_vals (((f_size S).toInt - 1).toNat) (by omega)
          refine lv_l2i (v := (x10).toInt32) hx hb d_Mo_get_79 rfl ?_
          refine lv_topi (fun x11 ex11 => ?_)
          have wx11 := zt_rng x11
          have fx11 : x11.toInt = x10.toInt := by rw [ex11]; exact zt_l2i (show x10.toInt = _ from rfl) (by omega) (by omega)
          refine lv_iadd hx hb d_Mo_get_80 ?_
          refine lv_topi (fun x12 ex12 => ?_)
          have fx12 : x12.toInt = (rv5.toInt + x11.toInt + 50) := by rw [ex12]; exact (zt_add fx9 (show x11.toInt = _ from rfl) (by omega) (by omega)).trans (by omega)
          exact key1 (x12) _ _ _ ⟨(show x12.toInt = -1 ∨ (50 ≤ x12.toInt ∧ x12.toInt ≤ 329) by omega), hP, hD, hS, lv_sub hl [0, 1, 2] rfl⟩
        · have fc59_1 : 0 ≤ x8.toInt := Int.not_lt.mp (zt_nlt (show x8.toInt = _ from rfl) tI_0 c59_1)
          have vc59_1 : x6.toInt ≥ rv4.toInt := by have := zr_cmp ex8 (show x6.toInt = _ from rfl) fx7; have := Int.not_lt.mp (zt_nlt (show x8.toInt = _ from rfl) tI_0 c59_1); omega
          refine lv_iconst (v := (-1)) hx hb d_Mo_get_62 (by decide) ?_
          refine lv_goto (tgt := 81) hx hb d_Mo_get_63 (by decide) ?_
          exact key1 (-1 : Int32) _ _ _ ⟨(show (-1 : Int32).toInt = -1 ∨ (50 ≤ (-1 : Int32).toInt ∧ (-1 : Int32).toInt ≤ 329) by have := tI_m1; omega), hP, hD, hS, lv_sub hl [0, 1, 2] rfl⟩
    · have fc18_1 : rv3.toInt = 6 := zt_eq (show rv3.toInt = _ from rfl) tI_6 c18_1
      have dd := vk_dict kx2 (by omega)
      refine lv_aload_n hx hb d_Mo_get_21 rfl (lv_at hl 1 rfl) ?_
      refine lv_lload_n hx hb d_Mo_get_22 rfl (lv_at hl 0 rfl) ?_
      refine lv_l2i (v := (x2).toInt32) hx hb d_Mo_get_23 rfl ?_
      refine lv_topi (fun x13 ex13 => ?_)
      have wx13 := zt_rng x13
      have fx13 : x13.toInt = x2.toInt := by rw [ex13]; exact zt_l2i (show x2.toInt = _ from rfl) (by omega) (by omega)
      refine lv_aload_n hx hb d_Mo_get_24 rfl (lv_at hl 1 rfl) ?_
      refine va_get (D := D) (ci := 11) (v := .ref (ar 1)) (C := "PageScribeModel") (T := F_Mo) (N := 45) hx hb hts i_Mo hown hK hP 0 mW_0 cl_11 2 (by decide) (hts _ k_6_162) (fun _ h9 => h9) (mg_codes _ _) d_Mo_get_25 ?_
      refine lv_iload_n hx hb d_Mo_get_28 rfl (lv_at hl 2 rfl) ?_
      refine va_lald hx hb hK hP 2 1 (ma_codes _ _ _ _) rfl (zt_in h3.1 (by omega) (by omega)) d_Mo_get_29 ?_
      refine lv_topl (fun x14 ex14 => ?_)
      have gx14 : x14 = (a_codes S) ((f_size S).toInt - 1).toNat := ex14.trans (congrArg _ (zt_ix h3.1))
      have fx14 : x14.toInt = ((a_codes S) ((f_size S).toInt - 1).toNat).toInt := by rw [gx14]
      have kx14 : vOk ((a_kinds S) ((f_size S).toInt - 1).toNat) ((a_codes S) ((f_size S).toInt - 1).toNat) ((a_reals S) ((f_size S).toInt - 1).toNat) := i_vals (((f_size S).toInt - 1).toNat) (by omega)
      refine jm_ci (w := (fun _ => S)) hK hP hD hS hA (va_runV (As := [.int x13, .long x14]) (rest := []) F (m_entry l D T h0 ar S x13 x14 H.size ⟨i_size, i_taken, i_vals, i_room, i_dicts, i_deep, i_open, i_cells, i_points, i_part, i_length, i_knows, i_page, i_text, i_pats, i_fuel, i_fr, i_ink⟩ (show 0 ≤ x13.toInt ∧ x13.toInt ≤ 6 by omega)) (j_cV (k := 2) (C := "PageScribeModel") hts k_7_147 k_1_12 k_7_144 k_7_146 k_0_96 (by decide +kernel) ⟨Nat.le_of_ble_eq_true rfl, Nat.le_of_ble_eq_true rfl⟩) (jm_pre hK hP hD) rfl rfl hl.1 rfl (lv_room (Nat.le_of_ble_eq_true rfl)) d_Mo_get_30 ⟨Nat.le_of_ble_eq_true rfl, Nat.le_of_ble_eq_true rfl⟩) (fun rv6 u5 H locs hw6 hP hD hS => ?_)
      have hP : va_P D classes (mW T h0 ar S) H := hP
      have hD : va_D A (mW T h0 ar S) := hD
      have qhw6 : rv6.toInt = -1 ∨ (250 ≤ rv6.toInt ∧ rv6.toInt ≤ 329) := hw6
      refine lv_goto (tgt := 81) hx hb d_Mo_get_33 (by decide) ?_
      exact key1 (rv6) _ _ _ ⟨(show rv6.toInt = -1 ∨ (50 ≤ rv6.toInt ∧ rv6.toInt ≤ 329) by omega), hP, hD, hS, lv_sub hl [0, 1, 2] rfl⟩
theorem d_Mo_putCell_0 : decode prog_15_method_56_code 0 = .ok (.aload_n 0, 1) := by decide +kernel
theorem d_Mo_putCell_1 : decode prog_15_method_56_code 1 = .ok (.getfield 13, 3) := by decide +kernel
theorem d_Mo_putCell_4 : decode prog_15_method_56_code 4 = .ok (.iload_n 1, 1) := by decide +kernel
theorem d_Mo_putCell_5 : decode prog_15_method_56_code 5 = .ok (.iconst 1, 1) := by decide +kernel
theorem d_Mo_putCell_6 : decode prog_15_method_56_code 6 = .ok (.isub, 1) := by decide +kernel
theorem d_Mo_putCell_7 : decode prog_15_method_56_code 7 = .ok (.laload, 1) := by decide +kernel
theorem d_Mo_putCell_8 : decode prog_15_method_56_code 8 = .ok (.lstore_n 2, 1) := by decide +kernel
theorem d_Mo_putCell_9 : decode prog_15_method_56_code 9 = .ok (.lload_n 2, 1) := by decide +kernel
theorem d_Mo_putCell_10 : decode prog_15_method_56_code 10 = .ok (.lconst 0, 1) := by decide +kernel
theorem d_Mo_putCell_11 : decode prog_15_method_56_code 11 = .ok (.lcmp, 1) := by decide +kernel
theorem d_Mo_putCell_12 : decode prog_15_method_56_code 12 = .ok (.ifCond .lt 20, 3) := by decide +kernel
theorem d_Mo_putCell_32 : decode prog_15_method_56_code 32 = .ok (.iconst 4, 1) := by decide +kernel
theorem d_Mo_putCell_33 : decode prog_15_method_56_code 33 = .ok (.ireturn, 1) := by decide +kernel
theorem d_Mo_putCell_15 : decode prog_15_method_56_code 15 = .ok (.lload_n 2, 1) := by decide +kernel
theorem d_Mo_putCell_16 : decode prog_15_method_56_code 16 = .ok (.aload_n 0, 1) := by decide +kernel
theorem d_Mo_putCell_17 : decode prog_15_method_56_code 17 = .ok (.getfield 13, 3) := by decide +kernel
theorem d_Mo_putCell_20 : decode prog_15_method_56_code 20 = .ok (.iload_n 1, 1) := by decide +kernel
theorem d_Mo_putCell_21 : decode prog_15_method_56_code 21 = .ok (.iconst 2, 1) := by decide +kernel
theorem d_Mo_putCell_22 : decode prog_15_method_56_code 22 = .ok (.isub, 1) := by decide +kernel
theorem d_Mo_putCell_23 : decode prog_15_method_56_code 23 = .ok (.laload, 1) := by decide +kernel
theorem d_Mo_putCell_24 : decode prog_15_method_56_code 24 = .ok (.invokestatic 391, 3) := by decide +kernel
theorem d_Mo_putCell_27 : decode prog_15_method_56_code 27 = .ok (.i2l, 1) := by decide +kernel
theorem d_Mo_putCell_28 : decode prog_15_method_56_code 28 = .ok (.lcmp, 1) := by decide +kernel
theorem d_Mo_putCell_29 : decode prog_15_method_56_code 29 = .ok (.ifCond .lt 5, 3) := by decide +kernel
theorem d_Mo_putCell_34 : decode prog_15_method_56_code 34 = .ok (.aload_n 0, 1) := by decide +kernel
theorem d_Mo_putCell_35 : decode prog_15_method_56_code 35 = .ok (.bipush 50, 2) := by decide +kernel
theorem d_Mo_putCell_37 : decode prog_15_method_56_code 37 = .ok (.aload_n 0, 1) := by decide +kernel
theorem d_Mo_putCell_38 : decode prog_15_method_56_code 38 = .ok (.getfield 13, 3) := by decide +kernel
theorem d_Mo_putCell_41 : decode prog_15_method_56_code 41 = .ok (.iload_n 1, 1) := by decide +kernel
theorem d_Mo_putCell_42 : decode prog_15_method_56_code 42 = .ok (.iconst 2, 1) := by decide +kernel
theorem d_Mo_putCell_43 : decode prog_15_method_56_code 43 = .ok (.isub, 1) := by decide +kernel
theorem d_Mo_putCell_44 : decode prog_15_method_56_code 44 = .ok (.laload, 1) := by decide +kernel
theorem d_Mo_putCell_45 : decode prog_15_method_56_code 45 = .ok (.invokestatic 394, 3) := by decide +kernel
theorem d_Mo_putCell_48 : decode prog_15_method_56_code 48 = .ok (.iadd, 1) := by decide +kernel
theorem d_Mo_putCell_49 : decode prog_15_method_56_code 49 = .ok (.lload_n 2, 1) := by decide +kernel
theorem d_Mo_putCell_50 : decode prog_15_method_56_code 50 = .ok (.l2i, 1) := by decide +kernel
theorem d_Mo_putCell_51 : decode prog_15_method_56_code 51 = .ok (.iadd, 1) := by decide +kernel
theorem d_Mo_putCell_52 : decode prog_15_method_56_code 52 = .ok (.iload_n 1, 1) := by decide +kernel
theorem d_Mo_putCell_53 : decode prog_15_method_56_code 53 = .ok (.invokevirtual 254, 3) := by decide +kernel
theorem d_Mo_putCell_56 : decode prog_15_method_56_code 56 = .ok (.aload_n 0, 1) := by decide +kernel
theorem d_Mo_putCell_57 : decode prog_15_method_56_code 57 = .ok (.dup, 1) := by decide +kernel
theorem d_Mo_putCell_58 : decode prog_15_method_56_code 58 = .ok (.getfield 247, 3) := by decide +kernel
theorem d_Mo_putCell_61 : decode prog_15_method_56_code 61 = .ok (.iconst 3, 1) := by decide +kernel
theorem d_Mo_putCell_62 : decode prog_15_method_56_code 62 = .ok (.isub, 1) := by decide +kernel
theorem d_Mo_putCell_63 : decode prog_15_method_56_code 63 = .ok (.putfield 247, 3) := by decide +kernel
theorem d_Mo_putCell_66 : decode prog_15_method_56_code 66 = .ok (.iconst 0, 1) := by decide +kernel
theorem d_Mo_putCell_67 : decode prog_15_method_56_code 67 = .ok (.ireturn, 1) := by decide +kernel
set_option maxHeartbeats 4000000 in
set_option maxRecDepth 100000 in
theorem m_putCell (l : Launch) (D : va_G) (T : Nat → ClassId) (h0 : Nat) (ar : Nat → Nat) (S : MS) (p0 : Int32) (sz : Nat) (hI : MI S) (h3 : p0.toInt = (f_size S).toInt - 1 ∧ 3 ≤ (f_size S).toInt) (h2 : ((a_kinds S) ((f_size S).toInt - 3).toNat).toInt % 8 = 5) : Met l ⟨"PageScribeModel", "putCell", "(I)I"⟩ (wy ⟨"PageScribeModel", "putCell", "(I)I"⟩ prog_15_method_56_code 4 (some .int)) ({ frames := 1, cells := 0, slots := 0, locals := 70 }) (va_Pc [.ref h0, .int p0] (Pw D T (mW T h0 ar S) sz E0)) (va_Qi (fun (r : Int32) (u : MS) => MI u ∧ kA S u ∧ kF S u ∧ (r.toInt = 0 ∨ r.toInt = 4)) (fun u t => Bw D T (va_A (mW T h0 ar S) sz) (mW T h0 ar u) t) (va_A (mW T h0 ar S) sz)) 0 0 (va_A (mW T h0 ar S) sz) := by
  refine j_met (y := ⟨"PageScribeModel", "putCell", "(I)I"⟩) (b := prog_15_method_56_code) (n := 4) (ret := (some .int)) (av := [.ref h0, .int p0]) (Qc := fun A => va_Qi (fun (r : Int32) (u : MS) => MI u ∧ kA S u ∧ kF S u ∧ (r.toInt = 0 ∨ r.toInt = 4)) (fun u t => Bw D T A (mW T h0 ar u) t) A) (by decide +kernel) (Nat.le_of_ble_eq_true rfl) (fun p e s m args below meth c A ls F hr hlocks hnm hK hP hD hS hA hN hE hl => ?_)
  obtain ⟨hx, hb, hml, hown, hts⟩ := id F
  have hl : lv_has ls 4 [(0, .ref h0), (1, .int p0)] := hl
  obtain ⟨i_size, i_taken, i_vals, i_room, i_dicts, i_deep, i_open, i_cells, i_points, i_part, i_length, i_knows, i_page, i_text, i_pats, i_fuel, i_fr, i_ink⟩ := id hI
  refine lv_aload_n hx hb d_Mo_putCell_0 rfl (lv_at hl 0 rfl) ?_
  refine va_get (D := D) (ci := 11) (v := .ref (ar 1)) (C := "PageScribeModel") (T := F_Mo) (N := 45) hx hb hts i_Mo hown hK hP 0 mW_0 cl_11 2 (by decide) (hts _ k_6_162) (fun _ h9 => h9) (mg_codes _ _) d_Mo_putCell_1 ?_
  refine lv_iload_n hx hb d_Mo_putCell_4 rfl (lv_at hl 1 rfl) ?_
  refine lv_iconst (v := 1) hx hb d_Mo_putCell_5 (by decide) ?_
  refine lv_isub hx hb d_Mo_putCell_6 ?_
  refine lv_topi (fun x1 ex1 => ?_)
  have fx1 : x1.toInt = ((f_size S).toInt - 2) := by rw [ex1]; exact (zt_sub h3.1 tI_1 (by omega) (by omega)).trans (by omega)
  refine va_lald hx hb hK hP 2 1 (ma_codes _ _ _ _) rfl (zt_in fx1 (by omega) (by omega)) d_Mo_putCell_7 ?_
  refine lv_topl (fun x2 ex2 => ?_)
  have gx2 : x2 = (a_codes S) ((f_size S).toInt - 2).toNat := ex2.trans (congrArg _ (zt_ix fx1))
  have fx2 : x2.toInt = ((a_codes S) ((f_size S).toInt - 2).toNat).toInt := by rw [gx2]
  have kx2 : vOk ((a_kinds S) ((f_size S).toInt - 2).toNat) ((a_codes S) ((f_size S).toInt - 2).toNat) ((a_reals S) ((f_size S).toInt - 2).toNat) := i_vals (((f_size S).toInt - 2).toNat) (by omega)
  refine lv_lstore_n (lv' := [(2, .long x2), (0, .ref h0), (1, .int p0)]) hx hb d_Mo_putCell_8 rfl hl (by decide) rfl (fun ls hl => ?_)
  refine lv_lload_n hx hb d_Mo_putCell_9 rfl (lv_at hl 0 rfl) ?_
  refine lv_lconst (v := 0) hx hb d_Mo_putCell_10 (by decide) ?_
  refine W.lcmp hx hb d_Mo_putCell_11 ?_
  refine lv_topi (fun x3 ex3 => ?_)
  refine lv_if_lt (tgt := 32) hx hb d_Mo_putCell_12 (by decide) (fun c12_1 => ?_) (fun c12_1 => ?_)
  · have fc12_1 : x3.toInt < 0 := zt_lt (show x3.toInt = _ from rfl) tI_0 c12_1
    have vc12_1 : x2.toInt < 0 := by have := zr_cmp ex3 (show x2.toInt = _ from rfl) tJ_0; have := zt_lt (show x3.toInt = _ from rfl) tI_0 c12_1; omega
    refine lv_iconst (v := 4) hx hb d_Mo_putCell_32 (by decide) ?_
    exact j_iret F hr hlocks hK hS S ⟨⟨i_size, i_taken, i_vals, i_room, i_dicts, i_deep, i_open, i_cells, i_points, i_part, i_length, i_knows, i_page, i_text, i_pats, i_fuel, i_fr, i_ink⟩, (kA_r S), (kF_r S), (show (4 : Int32).toInt = 0 ∨ (4 : Int32).toInt = 4 by have := tI_4; omega)⟩ hP hD d_Mo_putCell_33
  · have fc12_1 : 0 ≤ x3.toInt := Int.not_lt.mp (zt_nlt (show x3.toInt = _ from rfl) tI_0 c12_1)
    have vc12_1 : x2.toInt ≥ 0 := by have := zr_cmp ex3 (show x2.toInt = _ from rfl) tJ_0; have := Int.not_lt.mp (zt_nlt (show x3.toInt = _ from rfl) tI_0 c12_1); omega
    refine lv_lload_n hx hb d_Mo_putCell_15 rfl (lv_at hl 0 rfl) ?_
    refine lv_aload_n hx hb d_Mo_putCell_16 rfl (lv_at hl 1 rfl) ?_
    refine va_get (D := D) (ci := 11) (v := .ref (ar 1)) (C := "PageScribeModel") (T := F_Mo) (N := 45) hx hb hts i_Mo hown hK hP 0 mW_0 cl_11 2 (by decide) (hts _ k_6_162) (fun _ h9 => h9) (mg_codes _ _) d_Mo_putCell_17 ?_
    refine lv_iload_n hx hb d_Mo_putCell_20 rfl (lv_at hl 2 rfl) ?_
    refine lv_iconst (v := 2) hx hb d_Mo_putCell_21 (by decide) ?_
    refine lv_isub hx hb d_Mo_putCell_22 ?_
    refine lv_topi (fun x4 ex4 => ?_)
    have fx4 : x4.toInt = ((f_size S).toInt - 3) := by rw [ex4]; exact (zt_sub h3.1 tI_2 (by omega) (by omega)).trans (by omega)
    refine va_lald hx hb hK hP 2 1 (ma_codes _ _ _ _) rfl (zt_in fx4 (by omega) (by omega)) d_Mo_putCell_23 ?_
    refine lv_topl (fun x5 ex5 => ?_)
    have gx5 : x5 = (a_codes S) ((f_size S).toInt - 3).toNat := ex5.trans (congrArg _ (zt_ix fx4))
    have fx5 : x5.toInt = ((a_codes S) ((f_size S).toInt - 3).toNat).toInt := by rw [gx5]
    have kx5 : vOk ((a_kinds S) ((f_size S).toInt - 3).toNat) ((a_codes S) ((f_size S).toInt - 3).toNat) ((a_reals S) ((f_size S).toInt - 3).toNat) := i_vals (((f_size S).toInt - 3).toNat) (by omega)
    have aa := vk_ar8 kx5 (by omega)
    refine j_ci (wc := []) (wr := (mW T h0 ar S)) hK hP hD hS hA [] isc rfl isc_all isc_nd (fun _ _ => List.not_mem_nil) (va_runS (As := [.long x5]) (rest := [.long x2]) F (m_count l D T x5 s.heap.size (show 0 ≤ x5.toInt ∧ x5.toInt < 1048576 by omega)) (j_cS (k := 1) hts k_8_7 k_1_12 k_8_5 k_8_6 (by decide +kernel) ⟨Nat.le_of_ble_eq_true rfl, Nat.le_of_ble_eq_true rfl⟩) (j_preS hK hP hD [] rfl (by decide) (fun _ _ _ _ h => h) (fun _ _ _ => trivial)) rfl rfl hl.1 rfl (lv_room (Nat.le_of_ble_eq_true rfl)) d_Mo_putCell_24 ⟨Nat.le_of_ble_eq_true rfl, Nat.le_of_ble_eq_true rfl⟩) (fun rv1 u1 H locs hw1 hP hD hS => ?_)
    have hP : va_P D classes (mW T h0 ar S) H := hP
    have hD : va_D A (mW T h0 ar S) := hD
    have qhw1 : rv1.toInt = x5.toInt / 1024 := hw1
    refine lv_i2l (v := (rv1).toInt64) hx hb d_Mo_putCell_27 rfl ?_
    refine lv_topl (fun x6 ex6 => ?_)
    have fx6 : x6.toInt = rv1.toInt := by rw [ex6]; exact zu_i2l (show rv1.toInt = _ from rfl)
    refine W.lcmp hx hb d_Mo_putCell_28 ?_
    refine lv_topi (fun x7 ex7 => ?_)
    refine lv_if_lt (tgt := 34) hx hb d_Mo_putCell_29 (by decide) (fun c29_1 => ?_) (fun c29_1 => ?_)
    · have fc29_1 : x7.toInt < 0 := zt_lt (show x7.toInt = _ from rfl) tI_0 c29_1
      have vc29_1 : x2.toInt < rv1.toInt := by have := zr_cmp ex7 (show x2.toInt = _ from rfl) fx6; have := zt_lt (show x7.toInt = _ from rfl) tI_0 c29_1; omega
      refine lv_aload_n hx hb d_Mo_putCell_34 rfl (lv_at hl 1 rfl) ?_
      refine lv_bipush (v := 50) hx hb d_Mo_putCell_35 (by decide) ?_
      refine lv_aload_n hx hb d_Mo_putCell_37 rfl (lv_at hl 1 rfl) ?_
      refine va_get (D := D) (ci := 11) (v := .ref (ar 1)) (C := "PageScribeModel") (T := F_Mo) (N := 45) hx hb hts i_Mo hown hK hP 0 mW_0 cl_11 2 (by decide) (hts _ k_6_162) (fun _ h9 => h9) (mg_codes _ _) d_Mo_putCell_38 ?_
      refine lv_iload_n hx hb d_Mo_putCell_41 rfl (lv_at hl 2 rfl) ?_
      refine lv_iconst (v := 2) hx hb d_Mo_putCell_42 (by decide) ?_
      refine lv_isub hx hb d_Mo_putCell_43 ?_
      refine j_eqi (y := x4) ex4.symm ?_
      refine va_lald hx hb hK hP 2 1 (ma_codes _ _ _ _) rfl (zt_in fx4 (by omega) (by omega)) d_Mo_putCell_44 ?_
      refine lv_topl (fun x8 ex8 => ?_)
      have gx8 : x8 = (a_codes S) ((f_size S).toInt - 3).toNat := ex8.trans (congrArg _ (zt_ix fx4))
      have fx8 : x8.toInt = ((a_codes S) ((f_size S).toInt - 3).toNat).toInt := by rw [gx8]
      have kx8 : vOk ((a_kinds S) ((f_size S).toInt - 3).toNat) ((a_codes S) ((f_size S).toInt - 3).toNat) ((a_reals S) ((f_size S).toInt - 3).toNat) := i_vals (((f_size S).toInt - 3).toNat) (by omega)
      have aa := vk_ar8 kx8 (by omega)
      refine j_ci (wc := []) (wr := (mW T h0 ar S)) hK hP hD hS hA [] isc rfl isc_all isc_nd (fun _ _ => List.not_mem_nil) (va_runS (As := [.long x8]) (rest := [.int 50, .ref h0]) F (m_first l D T x8 H.size (show 0 ≤ x8.toInt by omega)) (j_cS (k := 1) hts k_8_22 k_1_12 k_8_20 k_8_21 (by decide +kernel) ⟨Nat.le_of_ble_eq_true rfl, Nat.le_of_ble_eq_true rfl⟩) (j_preS hK hP hD [] rfl (by decide) (fun _ _ _ _ h => h) (fun _ _ _ => trivial)) rfl rfl hl.1 rfl (lv_room (Nat.le_of_ble_eq_true rfl)) d_Mo_putCell_45 ⟨Nat.le_of_ble_eq_true rfl, Nat.le_of_ble_eq_true rfl⟩) (fun rv2 u2 H locs hw2 hP hD hS => ?_)
      have hP : va_P D classes (mW T h0 ar S) H := hP
      have hD : va_D A (mW T h0 ar S) := hD
      have qhw2 : rv2.toInt = x8.toInt % 1024 := hw2
      refine lv_iadd hx hb d_Mo_putCell_48 ?_
      refine lv_topi (fun x9 ex9 => ?_)
      have fx9 : x9.toInt = (rv2.toInt + 50) := by rw [ex9]; exact (zt_add tI_50 (show rv2.toInt = _ from rfl) (by omega) (by omega)).trans (by omega)
      refine lv_lload_n hx hb d_Mo_putCell_49 rfl (lv_at hl 0 rfl) ?_
      refine lv_l2i (v := (x2).toInt32) hx hb d_Mo_putCell_50 rfl ?_
      refine lv_topi (fun x10 ex10 => ?_)
      have wx10 := zt_rng x10
      have fx10 : x10.toInt = x2.toInt := by rw [ex10]; exact zt_l2i (show x2.toInt = _ from rfl) (by omega) (by omega)
      refine lv_iadd hx hb d_Mo_putCell_51 ?_
      refine lv_topi (fun x11 ex11 => ?_)
      have fx11 : x11.toInt = (rv2.toInt + x10.toInt + 50) := by rw [ex11]; exact (zt_add fx9 (show x10.toInt = _ from rfl) (by omega) (by omega)).trans (by omega)
      refine lv_iload_n hx hb d_Mo_putCell_52 rfl (lv_at hl 2 rfl) ?_
      refine jm_cv (w := (fun u => u)) hK hP hD hS hA (va_runV (As := [.int x11, .int p0]) (rest := []) F (m_move l D T h0 ar S x11 p0 H.size (show 0 ≤ x11.toInt ∧ x11.toInt < 1300 by first | omega | (simp only [fx11, h3.1]; omega)) (show 0 ≤ p0.toInt ∧ p0.toInt < 1300 by first | omega | (simp only [fx11, h3.1]; omega))) (j_cV (k := 2) (C := "PageScribeModel") hts k_7_76 k_1_12 k_7_73 k_7_75 k_0_82 (by decide +kernel) ⟨Nat.le_of_ble_eq_true rfl, Nat.le_of_ble_eq_true rfl⟩) (jm_pre hK hP hD) rfl rfl hl.1 rfl (lv_room (Nat.le_of_ble_eq_true rfl)) d_Mo_putCell_53 ⟨Nat.le_of_ble_eq_true rfl, Nat.le_of_ble_eq_true rfl⟩) (fun S1 H locs hw3 hP hD hS => ?_)
      try simp only [fx11, h3.1] at hw3
      obtain rfl := hw3
      have hP : va_P D classes (mW T h0 ar ((((f_thrown S), (upd (a_kinds S) ((rv2.toInt + x10.toInt + 50).toNat) ((a_kinds S) (((f_size S).toInt - 1).toNat))), (vp_updL (a_codes S) ((rv2.toInt + x10.toInt + 50).toNat) ((a_codes S) (((f_size S).toInt - 1).toNat))), (vf_upd (a_reals S) ((rv2.toInt + x10.toInt + 50).toNat) ((a_reals S) (((f_size S).toInt - 1).toNat))), (f_size S), (f_taken S), (a_words S), (a_many S)), S.2.1, S.2.2.1, S.2.2.2.1, S.2.2.2.2.1, S.2.2.2.2.2) : MS)) H := hP
      have hD : va_D A (mW T h0 ar ((((f_thrown S), (upd (a_kinds S) ((rv2.toInt + x10.toInt + 50).toNat) ((a_kinds S) (((f_size S).toInt - 1).toNat))), (vp_updL (a_codes S) ((rv2.toInt + x10.toInt + 50).toNat) ((a_codes S) (((f_size S).toInt - 1).toNat))), (vf_upd (a_reals S) ((rv2.toInt + x10.toInt + 50).toNat) ((a_reals S) (((f_size S).toInt - 1).toNat))), (f_size S), (f_taken S), (a_words S), (a_many S)), S.2.1, S.2.2.1, S.2.2.2.1, S.2.2.2.2.1, S.2.2.2.2.2) : MS)) := hD
      have i_vals : ∀ k, k < 1300 → vOk ((upd (a_kinds S) ((rv2.toInt + x10.toInt + 50).toNat) ((a_kinds S) (((f_size S).toInt - 1).toNat))) k) ((vp_updL (a_codes S) ((rv2.toInt + x10.toInt + 50).toNat) ((a_codes S) (((f_size S).toInt - 1).toNat))) k) ((vf_upd (a_reals S) ((rv2.toInt + x10.toInt + 50).toNat) ((a_reals S) (((f_size S).toInt - 1).toNat))) k) := vOk_upd i_vals (i_vals (((f_size S).toInt - 1).toNat) (by omega))
      have fa1 : ((upd (a_kinds S) ((rv2.toInt + x10.toInt + 50).toNat) ((a_kinds S) (((f_size S).toInt - 1).toNat))) ((rv2.toInt + x10.toInt + 50).toNat)).toInt = ((a_kinds S) (((f_size S).toInt - 1).toNat)).toInt := congrArg Int32.toInt upd_s
      have fa2 : ((vp_updL (a_codes S) ((rv2.toInt + x10.toInt + 50).toNat) ((a_codes S) (((f_size S).toInt - 1).toNat))) ((rv2.toInt + x10.toInt + 50).toNat)).toInt = ((a_codes S) (((f_size S).toInt - 1).toNat)).toInt := congrArg Int64.toInt updL_s
      refine lv_aload_n hx hb d_Mo_putCell_56 rfl (lv_at hl 1 rfl) ?_
      refine lv_dup hx hb d_Mo_putCell_57 rfl ?_
      refine va_get (D := D) (ci := 11) (v := .int (f_size S)) (C := "PageScribeModel") (T := F_Mo) (N := 45) hx hb hts i_Mo hown hK hP 0 mW_0 cl_11 4 (by decide) (hts _ k_6_164) (fun _ h9 => h9) (mg_size _ _) d_Mo_putCell_58 ?_
      refine lv_iconst (v := 3) hx hb d_Mo_putCell_61 (by decide) ?_
      refine lv_isub hx hb d_Mo_putCell_62 ?_
      refine lv_topi (fun x12 ex12 => ?_)
      have fx12 : x12.toInt = ((f_size S).toInt - 3) := by rw [ex12]; exact (zt_sub (show (f_size S).toInt = _ from rfl) tI_3 (by omega) (by omega)).trans (by omega)
      refine va_put (D := D) (ci := 11) (v := .int x12) (ty := .int) (C := "PageScribeModel") (T := F_Mo) (N := 45) hx hb hts i_Mo t_Mo t_Mo_ok n_Mo hown hK hP hD hS 0 mW_0 cl_11 4 (by decide) (hts _ k_6_164) (fun _ h9 => h9) rfl (by decide +kernel) rfl rfl (Nat.le_of_ble_eq_true rfl) d_Mo_putCell_63 (fun H locs hP hD hS => ?_)
      rw [mp_size] at hP hD
      have hP : va_P D classes (mW T h0 ar ((((f_thrown S), (upd (a_kinds S) ((rv2.toInt + x10.toInt + 50).toNat) ((a_kinds S) (((f_size S).toInt - 1).toNat))), (vp_updL (a_codes S) ((rv2.toInt + x10.toInt + 50).toNat) ((a_codes S) (((f_size S).toInt - 1).toNat))), (vf_upd (a_reals S) ((rv2.toInt + x10.toInt + 50).toNat) ((a_reals S) (((f_size S).toInt - 1).toNat))), x12, (f_taken S), (a_words S), (a_many S)), S.2.1, S.2.2.1, S.2.2.2.1, S.2.2.2.2.1, S.2.2.2.2.2) : MS)) H := hP
      have hD : va_D A (mW T h0 ar ((((f_thrown S), (upd (a_kinds S) ((rv2.toInt + x10.toInt + 50).toNat) ((a_kinds S) (((f_size S).toInt - 1).toNat))), (vp_updL (a_codes S) ((rv2.toInt + x10.toInt + 50).toNat) ((a_codes S) (((f_size S).toInt - 1).toNat))), (vf_upd (a_reals S) ((rv2.toInt + x10.toInt + 50).toNat) ((a_reals S) (((f_size S).toInt - 1).toNat))), x12, (f_taken S), (a_words S), (a_many S)), S.2.1, S.2.2.1, S.2.2.2.1, S.2.2.2.2.1, S.2.2.2.2.2) : MS)) := hD
      refine lv_iconst (v := 0) hx hb d_Mo_putCell_66 (by decide) ?_
      exact j_iret F hr hlocks hK hS ((((f_thrown S), (upd (a_kinds S) ((rv2.toInt + x10.toInt + 50).toNat) ((a_kinds S) (((f_size S).toInt - 1).toNat))), (vp_updL (a_codes S) ((rv2.toInt + x10.toInt + 50).toNat) ((a_codes S) (((f_size S).toInt - 1).toNat))), (vf_upd (a_reals S) ((rv2.toInt + x10.toInt + 50).toNat) ((a_reals S) (((f_size S).toInt - 1).toNat))), x12, (f_taken S), (a_words S), (a_many S)), S.2.1, S.2.2.1, S.2.2.2.1, S.2.2.2.2.1, S.2.2.2.2.2) : MS) ⟨⟨(show 0 ≤ x12.toInt ∧ x12.toInt ≤ 40 by omega), i_taken, i_vals, i_room, i_dicts, i_deep, i_open, i_cells, i_points, i_part, i_length, i_knows, i_page, i_text, i_pats, i_fuel, i_fr, i_ink⟩, (kA_r S), (kF_r S), (show (0 : Int32).toInt = 0 ∨ (0 : Int32).toInt = 4 by have := tI_0; omega)⟩ hP hD d_Mo_putCell_67
    · have fc29_1 : 0 ≤ x7.toInt := Int.not_lt.mp (zt_nlt (show x7.toInt = _ from rfl) tI_0 c29_1)
      have vc29_1 : x2.toInt ≥ rv1.toInt := by have := zr_cmp ex7 (show x2.toInt = _ from rfl) fx6; have := Int.not_lt.mp (zt_nlt (show x7.toInt = _ from rfl) tI_0 c29_1); omega
      refine lv_iconst (v := 4) hx hb d_Mo_putCell_32 (by decide) ?_
      exact j_iret F hr hlocks hK hS S ⟨⟨i_size, i_taken, i_vals, i_room, i_dicts, i_deep, i_open, i_cells, i_points, i_part, i_length, i_knows, i_page, i_text, i_pats, i_fuel, i_fr, i_ink⟩, (kA_r S), (kF_r S), (show (4 : Int32).toInt = 0 ∨ (4 : Int32).toInt = 4 by have := tI_4; omega)⟩ hP hD d_Mo_putCell_33
theorem d_Mo_part_0 : decode prog_15_method_57_code 0 = .ok (.lload_n 3, 1) := by decide +kernel
theorem d_Mo_part_1 : decode prog_15_method_57_code 1 = .ok (.lconst 0, 1) := by decide +kernel
theorem d_Mo_part_2 : decode prog_15_method_57_code 2 = .ok (.lcmp, 1) := by decide +kernel
theorem d_Mo_part_3 : decode prog_15_method_57_code 3 = .ok (.ifCond .lt 23, 3) := by decide +kernel
theorem d_Mo_part_26 : decode prog_15_method_57_code 26 = .ok (.iconst 4, 1) := by decide +kernel
theorem d_Mo_part_27 : decode prog_15_method_57_code 27 = .ok (.ireturn, 1) := by decide +kernel
theorem d_Mo_part_6 : decode prog_15_method_57_code 6 = .ok (.lload 5, 2) := by decide +kernel
theorem d_Mo_part_8 : decode prog_15_method_57_code 8 = .ok (.lconst 0, 1) := by decide +kernel
theorem d_Mo_part_9 : decode prog_15_method_57_code 9 = .ok (.lcmp, 1) := by decide +kernel
theorem d_Mo_part_10 : decode prog_15_method_57_code 10 = .ok (.ifCond .lt 16, 3) := by decide +kernel
theorem d_Mo_part_13 : decode prog_15_method_57_code 13 = .ok (.lload_n 3, 1) := by decide +kernel
theorem d_Mo_part_14 : decode prog_15_method_57_code 14 = .ok (.lload 5, 2) := by decide +kernel
theorem d_Mo_part_16 : decode prog_15_method_57_code 16 = .ok (.ladd, 1) := by decide +kernel
theorem d_Mo_part_17 : decode prog_15_method_57_code 17 = .ok (.lload_n 1, 1) := by decide +kernel
theorem d_Mo_part_18 : decode prog_15_method_57_code 18 = .ok (.invokestatic 391, 3) := by decide +kernel
theorem d_Mo_part_21 : decode prog_15_method_57_code 21 = .ok (.i2l, 1) := by decide +kernel
theorem d_Mo_part_22 : decode prog_15_method_57_code 22 = .ok (.lcmp, 1) := by decide +kernel
theorem d_Mo_part_23 : decode prog_15_method_57_code 23 = .ok (.ifCond .le 5, 3) := by decide +kernel
theorem d_Mo_part_28 : decode prog_15_method_57_code 28 = .ok (.aload_n 0, 1) := by decide +kernel
theorem d_Mo_part_29 : decode prog_15_method_57_code 29 = .ok (.iconst 3, 1) := by decide +kernel
theorem d_Mo_part_30 : decode prog_15_method_57_code 30 = .ok (.aload_n 0, 1) := by decide +kernel
theorem d_Mo_part_31 : decode prog_15_method_57_code 31 = .ok (.getfield 7, 3) := by decide +kernel
theorem d_Mo_part_34 : decode prog_15_method_57_code 34 = .ok (.aload_n 0, 1) := by decide +kernel
theorem d_Mo_part_35 : decode prog_15_method_57_code 35 = .ok (.getfield 247, 3) := by decide +kernel
theorem d_Mo_part_38 : decode prog_15_method_57_code 38 = .ok (.iconst 3, 1) := by decide +kernel
theorem d_Mo_part_39 : decode prog_15_method_57_code 39 = .ok (.isub, 1) := by decide +kernel
theorem d_Mo_part_40 : decode prog_15_method_57_code 40 = .ok (.iaload, 1) := by decide +kernel
theorem d_Mo_part_41 : decode prog_15_method_57_code 41 = .ok (.lload_n 1, 1) := by decide +kernel
theorem d_Mo_part_42 : decode prog_15_method_57_code 42 = .ok (.invokestatic 394, 3) := by decide +kernel
theorem d_Mo_part_45 : decode prog_15_method_57_code 45 = .ok (.i2l, 1) := by decide +kernel
theorem d_Mo_part_46 : decode prog_15_method_57_code 46 = .ok (.lload_n 3, 1) := by decide +kernel
theorem d_Mo_part_47 : decode prog_15_method_57_code 47 = .ok (.ladd, 1) := by decide +kernel
theorem d_Mo_part_48 : decode prog_15_method_57_code 48 = .ok (.ldc2_w 328, 3) := by decide +kernel
theorem d_Mo_part_51 : decode prog_15_method_57_code 51 = .ok (.lload 5, 2) := by decide +kernel
theorem d_Mo_part_53 : decode prog_15_method_57_code 53 = .ok (.lmul, 1) := by decide +kernel
theorem d_Mo_part_54 : decode prog_15_method_57_code 54 = .ok (.ladd, 1) := by decide +kernel
theorem d_Mo_part_55 : decode prog_15_method_57_code 55 = .ok (.invokevirtual 262, 3) := by decide +kernel
theorem d_Mo_part_58 : decode prog_15_method_57_code 58 = .ok (.ireturn, 1) := by decide +kernel
set_option maxHeartbeats 4000000 in
set_option maxRecDepth 100000 in
theorem m_part (l : Launch) (D : va_G) (T : Nat → ClassId) (h0 : Nat) (ar : Nat → Nat) (S : MS) (v0 : Int64) (v1 : Int64) (v2 : Int64) (sz : Nat) (hI : MI S) (h3 : 3 ≤ (f_size S).toInt) (h2 : ((a_kinds S) ((f_size S).toInt - 3).toNat).toInt = 5 ∨ ((a_kinds S) ((f_size S).toInt - 3).toNat).toInt = 13) (h5 : cOk v0) (h6 : -2147483648 ≤ v1.toInt ∧ v1.toInt ≤ 2147483647 ∧ -2147483648 ≤ v2.toInt ∧ v2.toInt ≤ 2147483647) : Met l ⟨"PageScribeModel", "part", "(JJJ)I"⟩ (wy ⟨"PageScribeModel", "part", "(JJJ)I"⟩ prog_15_method_57_code 7 (some .int)) ({ frames := 2, cells := 0, slots := 0, locals := 140 }) (va_Pc [.ref h0, .long v0, .long v1, .long v2] (Pw D T (mW T h0 ar S) sz E0)) (va_Qi (fun (r : Int32) (u : MS) => MI u ∧ kA S u ∧ kF S u ∧ (r.toInt = 0 ∨ r.toInt = 4)) (fun u t => Bw D T (va_A (mW T h0 ar S) sz) (mW T h0 ar u) t) (va_A (mW T h0 ar S) sz)) 0 0 (va_A (mW T h0 ar S) sz) := by
  refine j_met (y := ⟨"PageScribeModel", "part", "(JJJ)I"⟩) (b := prog_15_method_57_code) (n := 7) (ret := (some .int)) (av := [.ref h0, .long v0, .long v1, .long v2]) (Qc := fun A => va_Qi (fun (r : Int32) (u : MS) => MI u ∧ kA S u ∧ kF S u ∧ (r.toInt = 0 ∨ r.toInt = 4)) (fun u t => Bw D T A (mW T h0 ar u) t) A) (by decide +kernel) (Nat.le_of_ble_eq_true rfl) (fun p e s m args below meth c A ls F hr hlocks hnm hK hP hD hS hA hN hE hl => ?_)
  obtain ⟨hx, hb, hml, hown, hts⟩ := id F
  have hl : lv_has ls 7 [(0, .ref h0), (1, .long v0), (3, .long v1), (5, .long v2)] := hl
  obtain ⟨i_size, i_taken, i_vals, i_room, i_dicts, i_deep, i_open, i_cells, i_points, i_part, i_length, i_knows, i_page, i_text, i_pats, i_fuel, i_fr, i_ink⟩ := id hI
  refine lv_lload_n hx hb d_Mo_part_0 rfl (lv_at hl 2 rfl) ?_
  refine lv_lconst (v := 0) hx hb d_Mo_part_1 (by decide) ?_
  refine W.lcmp hx hb d_Mo_part_2 ?_
  refine lv_topi (fun x1 ex1 => ?_)
  refine lv_if_lt (tgt := 26) hx hb d_Mo_part_3 (by decide) (fun c3_1 => ?_) (fun c3_1 => ?_)
  · have fc3_1 : x1.toInt < 0 := zt_lt (show x1.toInt = _ from rfl) tI_0 c3_1
    have vc3_1 : v1.toInt < 0 := by have := zr_cmp ex1 (show v1.toInt = _ from rfl) tJ_0; have := zt_lt (show x1.toInt = _ from rfl) tI_0 c3_1; omega
    refine lv_iconst (v := 4) hx hb d_Mo_part_26 (by decide) ?_
    exact j_iret F hr hlocks hK hS S ⟨⟨i_size, i_taken, i_vals, i_room, i_dicts, i_deep, i_open, i_cells, i_points, i_part, i_length, i_knows, i_page, i_text, i_pats, i_fuel, i_fr, i_ink⟩, (kA_r S), (kF_r S), (show (4 : Int32).toInt = 0 ∨ (4 : Int32).toInt = 4 by have := tI_4; omega)⟩ hP hD d_Mo_part_27
  · have fc3_1 : 0 ≤ x1.toInt := Int.not_lt.mp (zt_nlt (show x1.toInt = _ from rfl) tI_0 c3_1)
    have vc3_1 : v1.toInt ≥ 0 := by have := zr_cmp ex1 (show v1.toInt = _ from rfl) tJ_0; have := Int.not_lt.mp (zt_nlt (show x1.toInt = _ from rfl) tI_0 c3_1); omega
    refine lv_lload hx hb d_Mo_part_6 (lv_at hl 3 rfl) ?_
    refine lv_lconst (v := 0) hx hb d_Mo_part_8 (by decide) ?_
    refine W.lcmp hx hb d_Mo_part_9 ?_
    refine lv_topi (fun x2 ex2 => ?_)
    refine lv_if_lt (tgt := 26) hx hb d_Mo_part_10 (by decide) (fun c10_1 => ?_) (fun c10_1 => ?_)
    · have fc10_1 : x2.toInt < 0 := zt_lt (show x2.toInt = _ from rfl) tI_0 c10_1
      have vc10_1 : v2.toInt < 0 := by have := zr_cmp ex2 (show v2.toInt = _ from rfl) tJ_0; have := zt_lt (show x2.toInt = _ from rfl) tI_0 c10_1; omega
      refine lv_iconst (v := 4) hx hb d_Mo_part_26 (by decide) ?_
      exact j_iret F hr hlocks hK hS S ⟨⟨i_size, i_taken, i_vals, i_room, i_dicts, i_deep, i_open, i_cells, i_points, i_part, i_length, i_knows, i_page, i_text, i_pats, i_fuel, i_fr, i_ink⟩, (kA_r S), (kF_r S), (show (4 : Int32).toInt = 0 ∨ (4 : Int32).toInt = 4 by have := tI_4; omega)⟩ hP hD d_Mo_part_27
    · have fc10_1 : 0 ≤ x2.toInt := Int.not_lt.mp (zt_nlt (show x2.toInt = _ from rfl) tI_0 c10_1)
      have vc10_1 : v2.toInt ≥ 0 := by have := zr_cmp ex2 (show v2.toInt = _ from rfl) tJ_0; have := Int.not_lt.mp (zt_nlt (show x2.toInt = _ from rfl) tI_0 c10_1); omega
      refine lv_lload_n hx hb d_Mo_part_13 rfl (lv_at hl 2 rfl) ?_
      refine lv_lload hx hb d_Mo_part_14 (lv_at hl 3 rfl) ?_
      refine lv_ladd hx hb d_Mo_part_16 ?_
      refine lv_topl (fun x3 ex3 => ?_)
      have fx3 : x3.toInt = (v1.toInt + v2.toInt) := by rw [ex3]; exact (zu_add (show v1.toInt = _ from rfl) (show v2.toInt = _ from rfl) (by omega) (by omega)).trans (by omega)
      refine lv_lload_n hx hb d_Mo_part_17 rfl (lv_at hl 1 rfl) ?_
      refine j_ci (wc := []) (wr := (mW T h0 ar S)) hK hP hD hS hA [] isc rfl isc_all isc_nd (fun _ _ => List.not_mem_nil) (va_runS (As := [.long v0]) (rest := [.long x3]) F (m_count l D T v0 s.heap.size (show 0 ≤ v0.toInt ∧ v0.toInt < 1048576 by omega)) (j_cS (k := 1) hts k_8_7 k_1_12 k_8_5 k_8_6 (by decide +kernel) ⟨Nat.le_of_ble_eq_true rfl, Nat.le_of_ble_eq_true rfl⟩) (j_preS hK hP hD [] rfl (by decide) (fun _ _ _ _ h => h) (fun _ _ _ => trivial)) rfl rfl hl.1 rfl (lv_room (Nat.le_of_ble_eq_true rfl)) d_Mo_part_18 ⟨Nat.le_of_ble_eq_true rfl, Nat.le_of_ble_eq_true rfl⟩) (fun rv1 u1 H locs hw1 hP hD hS => ?_)
      have hP : va_P D classes (mW T h0 ar S) H := hP
      have hD : va_D A (mW T h0 ar S) := hD
      have qhw1 : rv1.toInt = v0.toInt / 1024 := hw1
      refine lv_i2l (v := (rv1).toInt64) hx hb d_Mo_part_21 rfl ?_
      refine lv_topl (fun x4 ex4 => ?_)
      have fx4 : x4.toInt = rv1.toInt := by rw [ex4]; exact zu_i2l (show rv1.toInt = _ from rfl)
      refine W.lcmp hx hb d_Mo_part_22 ?_
      refine lv_topi (fun x5 ex5 => ?_)
      refine lv_if_le (tgt := 28) hx hb d_Mo_part_23 (by decide) (fun c23_1 => ?_) (fun c23_1 => ?_)
      · have fc23_1 : x5.toInt ≤ 0 := zt_le (show x5.toInt = _ from rfl) tI_0 c23_1
        have vc23_1 : (v1.toInt + v2.toInt) ≤ rv1.toInt := by have := zr_cmp ex5 fx3 fx4; have := zt_le (show x5.toInt = _ from rfl) tI_0 c23_1; omega
        refine lv_aload_n hx hb d_Mo_part_28 rfl (lv_at hl 0 rfl) ?_
        refine lv_iconst (v := 3) hx hb d_Mo_part_29 (by decide) ?_
        refine lv_aload_n hx hb d_Mo_part_30 rfl (lv_at hl 0 rfl) ?_
        refine va_get (D := D) (ci := 11) (v := .ref (ar 0)) (C := "PageScribeModel") (T := F_Mo) (N := 45) hx hb hts i_Mo hown hK hP 0 mW_0 cl_11 1 (by decide) (hts _ k_6_161) (fun _ h9 => h9) (mg_kinds _ _) d_Mo_part_31 ?_
        refine lv_aload_n hx hb d_Mo_part_34 rfl (lv_at hl 0 rfl) ?_
        refine va_get (D := D) (ci := 11) (v := .int (f_size S)) (C := "PageScribeModel") (T := F_Mo) (N := 45) hx hb hts i_Mo hown hK hP 0 mW_0 cl_11 4 (by decide) (hts _ k_6_164) (fun _ h9 => h9) (mg_size _ _) d_Mo_part_35 ?_
        refine lv_iconst (v := 3) hx hb d_Mo_part_38 (by decide) ?_
        refine lv_isub hx hb d_Mo_part_39 ?_
        refine lv_topi (fun x6 ex6 => ?_)
        have fx6 : x6.toInt = ((f_size S).toInt - 3) := by rw [ex6]; exact (zt_sub (show (f_size S).toInt = _ from rfl) tI_3 (by omega) (by omega)).trans (by omega)
        refine va_iald hx hb hK hP 1 0 (ma_kinds _ _ _ _) rfl (zt_in fx6 (by omega) (by omega)) d_Mo_part_40 ?_
        refine lv_topi (fun x7 ex7 => ?_)
        have gx7 : x7 = (a_kinds S) ((f_size S).toInt - 3).toNat := ex7.trans (congrArg _ (zt_ix fx6))
        have fx7 : x7.toInt = ((a_kinds S) ((f_size S).toInt - 3).toNat).toInt := by rw [gx7]
        have kx7 : vOk ((a_kinds S) ((f_size S).toInt - 3).toNat) ((a_codes S) ((f_size S).toInt - 3).toNat) ((a_reals S) ((f_size S).toInt - 3).toNat) := i_vals (((f_size S).toInt - 3).toNat) (by omega)
        have rx7 := vk_rng kx7
        refine lv_lload_n hx hb d_Mo_part_41 rfl (lv_at hl 1 rfl) ?_
        refine j_ci (wc := []) (wr := (mW T h0 ar S)) hK hP hD hS hA [] isc rfl isc_all isc_nd (fun _ _ => List.not_mem_nil) (va_runS (As := [.long v0]) (rest := [.int x7, .int 3, .ref h0]) F (m_first l D T v0 H.size (show 0 ≤ v0.toInt by omega)) (j_cS (k := 1) hts k_8_22 k_1_12 k_8_20 k_8_21 (by decide +kernel) ⟨Nat.le_of_ble_eq_true rfl, Nat.le_of_ble_eq_true rfl⟩) (j_preS hK hP hD [] rfl (by decide) (fun _ _ _ _ h => h) (fun _ _ _ => trivial)) rfl rfl hl.1 rfl (lv_room (Nat.le_of_ble_eq_true rfl)) d_Mo_part_42 ⟨Nat.le_of_ble_eq_true rfl, Nat.le_of_ble_eq_true rfl⟩) (fun rv2 u2 H locs hw2 hP hD hS => ?_)
        have hP : va_P D classes (mW T h0 ar S) H := hP
        have hD : va_D A (mW T h0 ar S) := hD
        have qhw2 : rv2.toInt = v0.toInt % 1024 := hw2
        refine lv_i2l (v := (rv2).toInt64) hx hb d_Mo_part_45 rfl ?_
        refine lv_topl (fun x8 ex8 => ?_)
        have fx8 : x8.toInt = rv2.toInt := by rw [ex8]; exact zu_i2l (show rv2.toInt = _ from rfl)
        refine lv_lload_n hx hb d_Mo_part_46 rfl (lv_at hl 2 rfl) ?_
        refine lv_ladd hx hb d_Mo_part_47 ?_
        refine lv_topl (fun x9 ex9 => ?_)
        have fx9 : x9.toInt = (rv2.toInt + v1.toInt) := by rw [ex9]; exact (zu_add fx8 (show v1.toInt = _ from rfl) (by omega) (by omega)).trans (by omega)
        refine lv_ldc2 (v := (1024)) hx hb hown (hts _ k_7_77) d_Mo_part_48 ?_
        refine lv_lload hx hb d_Mo_part_51 (lv_at hl 3 rfl) ?_
        refine lv_lmul hx hb d_Mo_part_53 ?_
        refine lv_topl (fun x10 ex10 => ?_)
        have fx10 : x10.toInt = (1024 * v2.toInt) := by rw [ex10]; exact (zu_mul tJ_1024 (show v2.toInt = _ from rfl) rfl (by omega) (by omega)).trans (by omega)
        refine lv_ladd hx hb d_Mo_part_54 ?_
        refine lv_topl (fun x11 ex11 => ?_)
        have fx11 : x11.toInt = (rv2.toInt + v1.toInt + 1024 * v2.toInt) := by rw [ex11]; exact (zu_add fx9 fx10 (by omega) (by omega)).trans (by omega)
        refine jm_ci (w := (fun u => u)) hK hP hD hS hA (va_runV (As := [.int 3, .int x7, .long x11]) (rest := []) F (m_give l D T h0 ar S (3 : Int32) x7 x11 H.size ⟨i_size, i_taken, i_vals, i_room, i_dicts, i_deep, i_open, i_cells, i_points, i_part, i_length, i_knows, i_page, i_text, i_pats, i_fuel, i_fr, i_ink⟩ (show 0 ≤ (3 : Int32).toInt ∧ (3 : Int32).toInt ≤ (f_size S).toInt ∧ (f_size S).toInt - (3 : Int32).toInt ≤ 39 by have := tI_3; first | omega | (simp only [fx11]; omega)) (by rw [gx7]; exact vO_arr _ rfl h2 (zc_mk (a := x9.toInt) (n := v2.toInt) (by omega) (by omega)))) (j_cV (k := 3) (C := "PageScribeModel") hts k_7_221 k_1_12 k_7_218 k_7_220 k_0_113 (by decide +kernel) ⟨Nat.le_of_ble_eq_true rfl, Nat.le_of_ble_eq_true rfl⟩) (jm_pre hK hP hD) rfl rfl hl.1 rfl (lv_room (Nat.le_of_ble_eq_true rfl)) d_Mo_part_55 ⟨Nat.le_of_ble_eq_true rfl, Nat.le_of_ble_eq_true rfl⟩) (fun rv3 S1 H locs hw3 hP hD hS => ?_)
        have hP : va_P D classes (mW T h0 ar S1) H := hP
        have hD : va_D A (mW T h0 ar S1) := hD
        obtain ⟨⟨i_size, i_taken, i_vals, i_room, i_dicts, i_deep, i_open, i_cells, i_points, i_part, i_length, i_knows, i_page, i_text, i_pats, i_fuel, i_fr, i_ink⟩, kpA_S1, kpF_S1, qqhw3⟩ := hw3
        have kSA_S1 : kA S S1 := kA_t (show kA S S from (kA_r S)) kpA_S1
        have kSF_S1 : kF S S1 := kF_t (show kF S S from (kF_r S)) kpF_S1
        have kST_S1 : kT S S1 := kT_t (show kT S S from (kT_r S)) (kT_A kpA_S1)
        have qhw3 : rv3.toInt = 0 ∧ (f_taken S1).toInt = (f_taken S).toInt := by simpa only [fx11, tI_3] using qqhw3
        exact j_iret F hr hlocks hK hS S1 ⟨⟨i_size, i_taken, i_vals, i_room, i_dicts, i_deep, i_open, i_cells, i_points, i_part, i_length, i_knows, i_page, i_text, i_pats, i_fuel, i_fr, i_ink⟩, kSA_S1, kSF_S1, (show rv3.toInt = 0 ∨ rv3.toInt = 4 by omega)⟩ hP hD d_Mo_part_58
      · have fc23_1 : 0 < x5.toInt := Int.not_le.mp (zt_nle (show x5.toInt = _ from rfl) tI_0 c23_1)
        have vc23_1 : (v1.toInt + v2.toInt) > rv1.toInt := by have := zr_cmp ex5 fx3 fx4; have := Int.not_le.mp (zt_nle (show x5.toInt = _ from rfl) tI_0 c23_1); omega
        refine lv_iconst (v := 4) hx hb d_Mo_part_26 (by decide) ?_
        exact j_iret F hr hlocks hK hS S ⟨⟨i_size, i_taken, i_vals, i_room, i_dicts, i_deep, i_open, i_cells, i_points, i_part, i_length, i_knows, i_page, i_text, i_pats, i_fuel, i_fr, i_ink⟩, (kA_r S), (kF_r S), (show (4 : Int32).toInt = 0 ∨ (4 : Int32).toInt = 4 by have := tI_4; omega)⟩ hP hD d_Mo_part_27
