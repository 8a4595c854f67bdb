theorem d_Mo_roll_0 : decode prog_15_method_45_code 0 = .ok (.lload_n 1, 1) := by decide +kernel
theorem d_Mo_roll_1 : decode prog_15_method_45_code 1 = .ok (.lconst 0, 1) := by decide +kernel
theorem d_Mo_roll_2 : decode prog_15_method_45_code 2 = .ok (.lcmp, 1) := by decide +kernel
theorem d_Mo_roll_3 : decode prog_15_method_45_code 3 = .ok (.ifCond .lt 15, 3) := by decide +kernel
theorem d_Mo_roll_18 : decode prog_15_method_45_code 18 = .ok (.iconst 4, 1) := by decide +kernel
theorem d_Mo_roll_19 : decode prog_15_method_45_code 19 = .ok (.ireturn, 1) := by decide +kernel
theorem d_Mo_roll_6 : decode prog_15_method_45_code 6 = .ok (.lload_n 1, 1) := by decide +kernel
theorem d_Mo_roll_7 : decode prog_15_method_45_code 7 = .ok (.aload_n 0, 1) := by decide +kernel
theorem d_Mo_roll_8 : decode prog_15_method_45_code 8 = .ok (.getfield 247, 3) := by decide +kernel
theorem d_Mo_roll_11 : decode prog_15_method_45_code 11 = .ok (.iconst 2, 1) := by decide +kernel
theorem d_Mo_roll_12 : decode prog_15_method_45_code 12 = .ok (.isub, 1) := by decide +kernel
theorem d_Mo_roll_13 : decode prog_15_method_45_code 13 = .ok (.i2l, 1) := by decide +kernel
theorem d_Mo_roll_14 : decode prog_15_method_45_code 14 = .ok (.lcmp, 1) := by decide +kernel
theorem d_Mo_roll_15 : decode prog_15_method_45_code 15 = .ok (.ifCond .le 5, 3) := by decide +kernel
theorem d_Mo_roll_20 : decode prog_15_method_45_code 20 = .ok (.aload_n 0, 1) := by decide +kernel
theorem d_Mo_roll_21 : decode prog_15_method_45_code 21 = .ok (.dup, 1) := by decide +kernel
theorem d_Mo_roll_22 : decode prog_15_method_45_code 22 = .ok (.getfield 247, 3) := by decide +kernel
theorem d_Mo_roll_25 : decode prog_15_method_45_code 25 = .ok (.iconst 2, 1) := by decide +kernel
theorem d_Mo_roll_26 : decode prog_15_method_45_code 26 = .ok (.isub, 1) := by decide +kernel
theorem d_Mo_roll_27 : decode prog_15_method_45_code 27 = .ok (.putfield 247, 3) := by decide +kernel
theorem d_Mo_roll_30 : decode prog_15_method_45_code 30 = .ok (.lload_n 1, 1) := by decide +kernel
theorem d_Mo_roll_31 : decode prog_15_method_45_code 31 = .ok (.l2i, 1) := by decide +kernel
theorem d_Mo_roll_32 : decode prog_15_method_45_code 32 = .ok (.istore 5, 2) := by decide +kernel
theorem d_Mo_roll_34 : decode prog_15_method_45_code 34 = .ok (.iconst 0, 1) := by decide +kernel
theorem d_Mo_roll_35 : decode prog_15_method_45_code 35 = .ok (.istore 6, 2) := by decide +kernel
theorem d_Mo_roll_37 : decode prog_15_method_45_code 37 = .ok (.iload 6, 2) := by decide +kernel
theorem d_Mo_roll_39 : decode prog_15_method_45_code 39 = .ok (.iload 5, 2) := by decide +kernel
theorem d_Mo_roll_41 : decode prog_15_method_45_code 41 = .ok (.if_icmp .ge 29, 3) := by decide +kernel
theorem d_Mo_roll_70 : decode prog_15_method_45_code 70 = .ok (.iconst 0, 1) := by decide +kernel
theorem d_Mo_roll_71 : decode prog_15_method_45_code 71 = .ok (.istore 6, 2) := by decide +kernel
theorem d_Mo_roll_73 : decode prog_15_method_45_code 73 = .ok (.iload 6, 2) := by decide +kernel
theorem d_Mo_roll_75 : decode prog_15_method_45_code 75 = .ok (.iload 5, 2) := by decide +kernel
theorem d_Mo_roll_77 : decode prog_15_method_45_code 77 = .ok (.if_icmp .ge 39, 3) := by decide +kernel
theorem d_Mo_roll_116 : decode prog_15_method_45_code 116 = .ok (.iconst 0, 1) := by decide +kernel
theorem d_Mo_roll_117 : decode prog_15_method_45_code 117 = .ok (.ireturn, 1) := by decide +kernel
theorem d_Mo_roll_80 : decode prog_15_method_45_code 80 = .ok (.aload_n 0, 1) := by decide +kernel
theorem d_Mo_roll_81 : decode prog_15_method_45_code 81 = .ok (.aload_n 0, 1) := by decide +kernel
theorem d_Mo_roll_82 : decode prog_15_method_45_code 82 = .ok (.getfield 247, 3) := by decide +kernel
theorem d_Mo_roll_85 : decode prog_15_method_45_code 85 = .ok (.iload 5, 2) := by decide +kernel
theorem d_Mo_roll_87 : decode prog_15_method_45_code 87 = .ok (.isub, 1) := by decide +kernel
theorem d_Mo_roll_88 : decode prog_15_method_45_code 88 = .ok (.iload 6, 2) := by decide +kernel
theorem d_Mo_roll_90 : decode prog_15_method_45_code 90 = .ok (.i2l, 1) := by decide +kernel
theorem d_Mo_roll_91 : decode prog_15_method_45_code 91 = .ok (.lload_n 3, 1) := by decide +kernel
theorem d_Mo_roll_92 : decode prog_15_method_45_code 92 = .ok (.lload_n 1, 1) := by decide +kernel
theorem d_Mo_roll_93 : decode prog_15_method_45_code 93 = .ok (.lrem, 1) := by decide +kernel
theorem d_Mo_roll_94 : decode prog_15_method_45_code 94 = .ok (.ladd, 1) := by decide +kernel
theorem d_Mo_roll_95 : decode prog_15_method_45_code 95 = .ok (.lload_n 1, 1) := by decide +kernel
theorem d_Mo_roll_96 : decode prog_15_method_45_code 96 = .ok (.ladd, 1) := by decide +kernel
theorem d_Mo_roll_97 : decode prog_15_method_45_code 97 = .ok (.lload_n 1, 1) := by decide +kernel
theorem d_Mo_roll_98 : decode prog_15_method_45_code 98 = .ok (.lrem, 1) := by decide +kernel
theorem d_Mo_roll_99 : decode prog_15_method_45_code 99 = .ok (.l2i, 1) := by decide +kernel
theorem d_Mo_roll_100 : decode prog_15_method_45_code 100 = .ok (.iadd, 1) := by decide +kernel
theorem d_Mo_roll_101 : decode prog_15_method_45_code 101 = .ok (.sipush 1170, 3) := by decide +kernel
theorem d_Mo_roll_104 : decode prog_15_method_45_code 104 = .ok (.iload 6, 2) := by decide +kernel
theorem d_Mo_roll_106 : decode prog_15_method_45_code 106 = .ok (.iadd, 1) := by decide +kernel
theorem tI_1170 : (1170 : Int32).toInt = 1170 := by decide +kernel
theorem d_Mo_roll_107 : decode prog_15_method_45_code 107 = .ok (.invokevirtual 254, 3) := by decide +kernel
theorem d_Mo_roll_110 : decode prog_15_method_45_code 110 = .ok (.iinc 6 1, 3) := by decide +kernel
theorem d_Mo_roll_113 : decode prog_15_method_45_code 113 = .ok (.goto (-40), 3) := by decide +kernel
theorem d_Mo_roll_44 : decode prog_15_method_45_code 44 = .ok (.aload_n 0, 1) := by decide +kernel
theorem d_Mo_roll_45 : decode prog_15_method_45_code 45 = .ok (.sipush 1170, 3) := by decide +kernel
theorem d_Mo_roll_48 : decode prog_15_method_45_code 48 = .ok (.iload 6, 2) := by decide +kernel
theorem d_Mo_roll_50 : decode prog_15_method_45_code 50 = .ok (.iadd, 1) := by decide +kernel
theorem d_Mo_roll_51 : decode prog_15_method_45_code 51 = .ok (.aload_n 0, 1) := by decide +kernel
theorem d_Mo_roll_52 : decode prog_15_method_45_code 52 = .ok (.getfield 247, 3) := by decide +kernel
theorem d_Mo_roll_55 : decode prog_15_method_45_code 55 = .ok (.iload 5, 2) := by decide +kernel
theorem d_Mo_roll_57 : decode prog_15_method_45_code 57 = .ok (.isub, 1) := by decide +kernel
theorem d_Mo_roll_58 : decode prog_15_method_45_code 58 = .ok (.iload 6, 2) := by decide +kernel
theorem d_Mo_roll_60 : decode prog_15_method_45_code 60 = .ok (.iadd, 1) := by decide +kernel
theorem d_Mo_roll_61 : decode prog_15_method_45_code 61 = .ok (.invokevirtual 254, 3) := by decide +kernel
theorem d_Mo_roll_64 : decode prog_15_method_45_code 64 = .ok (.iinc 6 1, 3) := by decide +kernel
theorem d_Mo_roll_67 : decode prog_15_method_45_code 67 = .ok (.goto (-30), 3) := by decide +kernel
set_option maxHeartbeats 4000000 in
set_option maxRecDepth 100000 in
theorem m_roll (l : Launch) (D : va_G) (T : Nat → ClassId) (h0 : Nat) (ar : Nat → Nat) (S : MS) (v0 : Int64) (v1 : Int64) (sz : Nat) (hI : MI S) (h3 : 2 ≤ (f_size S).toInt) : Met l ⟨"PageScribeModel", "roll", "(JJ)I"⟩ (wy ⟨"PageScribeModel", "roll", "(JJ)I"⟩ prog_15_method_45_code 7 (some .int)) ({ frames := 1, cells := 0, slots := 0, locals := 70 }) (va_Pc [.ref h0, .long v0, .long v1] (Pw D T (mW T h0 ar S) sz E0)) (va_Qi (fun (r : Int32) (u : MS) => MI u ∧ kA S u ∧ kF S u ∧ (r.toInt = 0 ∨ r.toInt = 4)) (fun u t => Bw D T (va_A (mW T h0 ar S) sz) (mW T h0 ar u) t) (va_A (mW T h0 ar S) sz)) 0 0 (va_A (mW T h0 ar S) sz) := by
  refine j_met (y := ⟨"PageScribeModel", "roll", "(JJ)I"⟩) (b := prog_15_method_45_code) (n := 7) (ret := (some .int)) (av := [.ref h0, .long v0, .long v1]) (Qc := fun A => va_Qi (fun (r : Int32) (u : MS) => MI u ∧ kA S u ∧ kF S u ∧ (r.toInt = 0 ∨ r.toInt = 4)) (fun u t => Bw D T A (mW T h0 ar u) t) A) (by decide +kernel) (Nat.le_of_ble_eq_true rfl) (fun p e s m args below meth c A ls F hr hlocks hnm hK hP hD hS hA hN hE hl => ?_)
  obtain ⟨hx, hb, hml, hown, hts⟩ := id F
  have hl : lv_has ls 7 [(0, .ref h0), (1, .long v0), (3, .long v1)] := hl
  obtain ⟨i_size, i_taken, i_vals, i_room, i_dicts, i_deep, i_open, i_cells, i_points, i_part, i_length, i_knows, i_page, i_text, i_pats, i_fuel, i_fr, i_ink⟩ := id hI
  refine lv_lload_n hx hb d_Mo_roll_0 rfl (lv_at hl 1 rfl) ?_
  refine lv_lconst (v := 0) hx hb d_Mo_roll_1 (by decide) ?_
  refine W.lcmp hx hb d_Mo_roll_2 ?_
  refine lv_topi (fun x1 ex1 => ?_)
  refine lv_if_lt (tgt := 18) hx hb d_Mo_roll_3 (by decide) (fun c3_1 => ?_) (fun c3_1 => ?_)
  · have fc3_1 : x1.toInt < 0 := zt_lt (show x1.toInt = _ from rfl) tI_0 c3_1
    have vc3_1 : v0.toInt < 0 := by have := zr_cmp ex1 (show v0.toInt = _ from rfl) tJ_0; have := zt_lt (show x1.toInt = _ from rfl) tI_0 c3_1; omega
    refine lv_iconst (v := 4) hx hb d_Mo_roll_18 (by decide) ?_
    exact j_iret F hr hlocks hK hS S ⟨⟨i_size, i_taken, i_vals, i_room, i_dicts, i_deep, i_open, i_cells, i_points, i_part, i_length, i_knows, i_page, i_text, i_pats, i_fuel, i_fr, i_ink⟩, (kA_r S), (kF_r S), (show (4 : Int32).toInt = 0 ∨ (4 : Int32).toInt = 4 by have := tI_4; omega)⟩ hP hD d_Mo_roll_19
  · have fc3_1 : 0 ≤ x1.toInt := Int.not_lt.mp (zt_nlt (show x1.toInt = _ from rfl) tI_0 c3_1)
    have vc3_1 : v0.toInt ≥ 0 := by have := zr_cmp ex1 (show v0.toInt = _ from rfl) tJ_0; have := Int.not_lt.mp (zt_nlt (show x1.toInt = _ from rfl) tI_0 c3_1); omega
    refine lv_lload_n hx hb d_Mo_roll_6 rfl (lv_at hl 1 rfl) ?_
    refine lv_aload_n hx hb d_Mo_roll_7 rfl (lv_at hl 0 rfl) ?_
    refine va_get (D := D) (ci := 11) (v := .int (f_size S)) (C := "PageScribeModel") (T := F_Mo) (N := 45) hx hb hts i_Mo hown hK hP 0 mW_0 cl_11 4 (by decide) (hts _ k_6_164) (fun _ h9 => h9) (mg_size _ _) d_Mo_roll_8 ?_
    refine lv_iconst (v := 2) hx hb d_Mo_roll_11 (by decide) ?_
    refine lv_isub hx hb d_Mo_roll_12 ?_
    refine lv_topi (fun x2 ex2 => ?_)
    have fx2 : x2.toInt = ((f_size S).toInt - 2) := by rw [ex2]; exact (zt_sub (show (f_size S).toInt = _ from rfl) tI_2 (by omega) (by omega)).trans (by omega)
    refine lv_i2l (v := (x2).toInt64) hx hb d_Mo_roll_13 rfl ?_
    refine lv_topl (fun x3 ex3 => ?_)
    have fx3 : x3.toInt = ((f_size S).toInt - 2) := by rw [ex3]; exact zu_i2l fx2
    refine W.lcmp hx hb d_Mo_roll_14 ?_
    refine lv_topi (fun x4 ex4 => ?_)
    refine lv_if_le (tgt := 20) hx hb d_Mo_roll_15 (by decide) (fun c15_1 => ?_) (fun c15_1 => ?_)
    · have fc15_1 : x4.toInt ≤ 0 := zt_le (show x4.toInt = _ from rfl) tI_0 c15_1
      have vc15_1 : v0.toInt ≤ ((f_size S).toInt - 2) := by have := zr_cmp ex4 (show v0.toInt = _ from rfl) fx3; have := zt_le (show x4.toInt = _ from rfl) tI_0 c15_1; omega
      refine lv_aload_n hx hb d_Mo_roll_20 rfl (lv_at hl 0 rfl) ?_
      refine lv_dup hx hb d_Mo_roll_21 rfl ?_
      refine va_get (D := D) (ci := 11) (v := .int (f_size S)) (C := "PageScribeModel") (T := F_Mo) (N := 45) hx hb hts i_Mo hown hK hP 0 mW_0 cl_11 4 (by decide) (hts _ k_6_164) (fun _ h9 => h9) (mg_size _ _) d_Mo_roll_22 ?_
      refine lv_iconst (v := 2) hx hb d_Mo_roll_25 (by decide) ?_
      refine lv_isub hx hb d_Mo_roll_26 ?_
      refine j_eqi (y := x2) ex2.symm ?_
      refine va_put (D := D) (ci := 11) (v := .int x2) (ty := .int) (C := "PageScribeModel") (T := F_Mo) (N := 45) hx hb hts i_Mo t_Mo t_Mo_ok n_Mo hown hK hP hD hS 0 mW_0 cl_11 4 (by decide) (hts _ k_6_164) (fun _ h9 => h9) rfl (by decide +kernel) rfl rfl (Nat.le_of_ble_eq_true rfl) d_Mo_roll_27 (fun H locs hP hD hS => ?_)
      rw [mp_size] at hP hD
      have hP : va_P D classes (mW T h0 ar ((((f_thrown S), (a_kinds S), (a_codes S), (a_reals S), x2, (f_taken S), (a_words S), (a_many S)), S.2.1, S.2.2.1, S.2.2.2.1, S.2.2.2.2.1, S.2.2.2.2.2) : MS)) H := hP
      have hD : va_D A (mW T h0 ar ((((f_thrown S), (a_kinds S), (a_codes S), (a_reals S), x2, (f_taken S), (a_words S), (a_many S)), S.2.1, S.2.2.1, S.2.2.2.1, S.2.2.2.2.1, S.2.2.2.2.2) : MS)) := hD
      refine lv_lload_n hx hb d_Mo_roll_30 rfl (lv_at hl 1 rfl) ?_
      refine lv_l2i (v := (v0).toInt32) hx hb d_Mo_roll_31 rfl ?_
      refine lv_topi (fun x5 ex5 => ?_)
      have wx5 := zt_rng x5
      have fx5 : x5.toInt = v0.toInt := by rw [ex5]; exact zt_l2i (show v0.toInt = _ from rfl) (by omega) (by omega)
      refine lv_istore (lv' := [(5, .int x5), (0, .ref h0), (1, .long v0), (3, .long v1)]) hx hb d_Mo_roll_32 hl (by decide) rfl (fun ls hl => ?_)
      refine lv_iconst (v := 0) hx hb d_Mo_roll_34 (by decide) ?_
      refine lv_istore (lv' := [(6, .int 0), (5, .int x5), (0, .ref h0), (1, .long v0), (3, .long v1)]) hx hb d_Mo_roll_35 hl (by decide) rfl (fun ls hl => ?_)
      refine j_loop (α := MS × Int32) (fun k x H locs ls => (0 ≤ x.2.toInt ∧ x.2.toInt ≤ v0.toInt ∧ v0.toInt ≤ x.2.toInt + ((k : Nat) : Int) ∧ 0 ≤ v0.toInt ∧ v0.toInt ≤ (f_size x.1).toInt ∧ (f_size x.1).toInt ≤ 38) ∧ MI x.1 ∧ kA S x.1 ∧ kF S x.1 ∧ va_P D classes (mW T h0 ar x.1) H ∧ va_D A (mW T h0 ar x.1) ∧ va_S A s.heap H locs ∧ lv_has ls 7 [(6, .int x.2), (5, .int x5), (0, .ref h0), (1, .long v0), (3, .long v1)]) (fun _ _ ls => F0 m 37 ls []) (fun k x H locs ls hI9 ih => ?_) 40 (((((f_thrown S), (a_kinds S), (a_codes S), (a_reals S), x2, (f_taken S), (a_words S), (a_many S)), S.2.1, S.2.2.1, S.2.2.2.1, S.2.2.2.2.1, S.2.2.2.2.2) : MS), (0 : Int32)) _ _ _ ⟨(show 0 ≤ (0 : Int32).toInt ∧ (0 : Int32).toInt ≤ v0.toInt ∧ v0.toInt ≤ (0 : Int32).toInt + ((40 : Nat) : Int) ∧ 0 ≤ v0.toInt ∧ v0.toInt ≤ x2.toInt ∧ x2.toInt ≤ 38 by have := tI_0; omega), ⟨(show 0 ≤ x2.toInt ∧ x2.toInt ≤ 40 by omega), i_taken, i_vals, i_room, i_dicts, i_deep, i_open, i_cells, i_points, i_part, i_length, i_knows, i_page, i_text, i_pats, i_fuel, i_fr, i_ink⟩, (show kA S ((((f_thrown S), (a_kinds S), (a_codes S), (a_reals S), x2, (f_taken S), (a_words S), (a_many S)), S.2.1, S.2.2.1, S.2.2.2.1, S.2.2.2.2.1, S.2.2.2.2.2) : MS) from (kA_r S)), (show kF S ((((f_thrown S), (a_kinds S), (a_codes S), (a_reals S), x2, (f_taken S), (a_words S), (a_many S)), S.2.1, S.2.2.1, S.2.2.2.1, S.2.2.2.2.1, S.2.2.2.2.2) : MS) from (kF_r S)), hP, hD, hS, lv_sub hl [0, 1, 2, 3, 4] rfl⟩
      obtain ⟨S1, i⟩ := x
      obtain ⟨hf1, hIx, klA_S1, klF_S1, hP, hD, hS, hl⟩ := hI9
      obtain ⟨i_size, i_taken, i_vals, i_room, i_dicts, i_deep, i_open, i_cells, i_points, i_part, i_length, i_knows, i_page, i_text, i_pats, i_fuel, i_fr, i_ink⟩ := (show MI S1 from hIx)
      have klA_S1 : kA S S1 := klA_S1
      have klF_S1 : kF S S1 := klF_S1
      have hf1 : 0 ≤ i.toInt ∧ i.toInt ≤ v0.toInt ∧ v0.toInt ≤ i.toInt + ((k : Nat) : Int) ∧ 0 ≤ v0.toInt ∧ v0.toInt ≤ (f_size S1).toInt ∧ (f_size S1).toInt ≤ 38 := hf1
      have hP : va_P D classes (mW T h0 ar S1) H := hP
      have hD : va_D A (mW T h0 ar S1) := hD
      have hl : lv_has ls 7 [(6, .int i), (5, .int x5), (0, .ref h0), (1, .long v0), (3, .long v1)] := hl
      refine lv_iload hx hb d_Mo_roll_37 (lv_at hl 0 rfl) ?_
      refine lv_iload hx hb d_Mo_roll_39 (lv_at hl 1 rfl) ?_
      refine lv_icmp_ge (tgt := 70) hx hb d_Mo_roll_41 (by decide) (fun c41_1 => ?_) (fun c41_1 => ?_)
      · have fc41_1 : x5.toInt ≤ i.toInt := zt_le (show x5.toInt = _ from rfl) (show i.toInt = _ from rfl) c41_1
        refine lv_iconst (v := 0) hx hb d_Mo_roll_70 (by decide) ?_
        refine lv_istore (lv' := [(6, .int 0), (5, .int x5), (0, .ref h0), (1, .long v0), (3, .long v1)]) hx hb d_Mo_roll_71 hl (by decide) rfl (fun ls hl => ?_)
        refine j_loop (α := MS × Int32) (fun k x H locs ls => (0 ≤ x.2.toInt ∧ x.2.toInt ≤ v0.toInt ∧ v0.toInt ≤ x.2.toInt + ((k : Nat) : Int) ∧ 0 ≤ v0.toInt ∧ v0.toInt ≤ (f_size x.1).toInt ∧ (f_size x.1).toInt ≤ 38) ∧ MI x.1 ∧ kA S x.1 ∧ kF S x.1 ∧ va_P D classes (mW T h0 ar x.1) H ∧ va_D A (mW T h0 ar x.1) ∧ va_S A s.heap H locs ∧ lv_has ls 7 [(6, .int x.2), (5, .int x5), (0, .ref h0), (1, .long v0), (3, .long v1)]) (fun _ _ ls => F0 m 73 ls []) (fun k2 x H locs ls hI9 ih2 => ?_) 40 (S1, (0 : Int32)) _ _ _ ⟨(show 0 ≤ (0 : Int32).toInt ∧ (0 : Int32).toInt ≤ v0.toInt ∧ v0.toInt ≤ (0 : Int32).toInt + ((40 : Nat) : Int) ∧ 0 ≤ v0.toInt ∧ v0.toInt ≤ (f_size S1).toInt ∧ (f_size S1).toInt ≤ 38 by have := tI_0; omega), ⟨i_size, i_taken, i_vals, i_room, i_dicts, i_deep, i_open, i_cells, i_points, i_part, i_length, i_knows, i_page, i_text, i_pats, i_fuel, i_fr, i_ink⟩, (show kA S S1 from klA_S1), (show kF S S1 from klF_S1), hP, hD, hS, lv_sub hl [0, 1, 2, 3, 4] rfl⟩
        obtain ⟨S2, i⟩ := x
        obtain ⟨hf2, hIx, klA_S2, klF_S2, hP, hD, hS, hl⟩ := hI9
        obtain ⟨i_size, i_taken, i_vals, i_room, i_dicts, i_deep, i_open, i_cells, i_points, i_part, i_length, i_knows, i_page, i_text, i_pats, i_fuel, i_fr, i_ink⟩ := (show MI S2 from hIx)
        have klA_S2 : kA S S2 := klA_S2
        have klF_S2 : kF S S2 := klF_S2
        have hf2 : 0 ≤ i.toInt ∧ i.toInt ≤ v0.toInt ∧ v0.toInt ≤ i.toInt + ((k2 : Nat) : Int) ∧ 0 ≤ v0.toInt ∧ v0.toInt ≤ (f_size S2).toInt ∧ (f_size S2).toInt ≤ 38 := hf2
        have hP : va_P D classes (mW T h0 ar S2) H := hP
        have hD : va_D A (mW T h0 ar S2) := hD
        have hl : lv_has ls 7 [(6, .int i), (5, .int x5), (0, .ref h0), (1, .long v0), (3, .long v1)] := hl
        refine lv_iload hx hb d_Mo_roll_73 (lv_at hl 0 rfl) ?_
        refine lv_iload hx hb d_Mo_roll_75 (lv_at hl 1 rfl) ?_
        refine lv_icmp_ge (tgt := 116) hx hb d_Mo_roll_77 (by decide) (fun c77_1 => ?_) (fun c77_1 => ?_)
        · have fc77_1 : x5.toInt ≤ i.toInt := zt_le (show x5.toInt = _ from rfl) (show i.toInt = _ from rfl) c77_1
          refine lv_iconst (v := 0) hx hb d_Mo_roll_116 (by decide) ?_
          exact j_iret F hr hlocks hK hS S2 ⟨⟨i_size, i_taken, i_vals, i_room, i_dicts, i_deep, i_open, i_cells, i_points, i_part, i_length, i_knows, i_page, i_text, i_pats, i_fuel, i_fr, i_ink⟩, klA_S2, klF_S2, (show (0 : Int32).toInt = 0 ∨ (0 : Int32).toInt = 4 by have := tI_0; omega)⟩ hP hD d_Mo_roll_117
        · have fc77_1 : i.toInt < x5.toInt := Int.not_le.mp (zt_nle (show x5.toInt = _ from rfl) (show i.toInt = _ from rfl) c77_1)
          refine lv_aload_n hx hb d_Mo_roll_80 rfl (lv_at hl 2 rfl) ?_
          refine lv_aload_n hx hb d_Mo_roll_81 rfl (lv_at hl 2 rfl) ?_
          refine va_get (D := D) (ci := 11) (v := .int (f_size S2)) (C := "PageScribeModel") (T := F_Mo) (N := 45) hx hb hts i_Mo hown hK hP 0 mW_0 cl_11 4 (by decide) (hts _ k_6_164) (fun _ h9 => h9) (mg_size _ _) d_Mo_roll_82 ?_
          refine lv_iload hx hb d_Mo_roll_85 (lv_at hl 1 rfl) ?_
          refine lv_isub hx hb d_Mo_roll_87 ?_
          refine lv_topi (fun x6 ex6 => ?_)
          have fx6 : x6.toInt = ((f_size S2).toInt - x5.toInt) := by rw [ex6]; exact (zt_sub (show (f_size S2).toInt = _ from rfl) (show x5.toInt = _ from rfl) (by omega) (by omega)).trans (by omega)
          refine lv_iload hx hb d_Mo_roll_88 (lv_at hl 0 rfl) ?_
          refine lv_i2l (v := (i).toInt64) hx hb d_Mo_roll_90 rfl ?_
          refine lv_topl (fun x7 ex7 => ?_)
          have fx7 : x7.toInt = i.toInt := by rw [ex7]; exact zu_i2l (show i.toInt = _ from rfl)
          refine lv_lload_n hx hb d_Mo_roll_91 rfl (lv_at hl 4 rfl) ?_
          refine lv_lload_n hx hb d_Mo_roll_92 rfl (lv_at hl 3 rfl) ?_
          refine lv_lrem hx hb d_Mo_roll_93 (zu_n0 rfl (by omega)) ?_
          refine lv_topl (fun x8 ex8 => ?_)
          try have fx8 := zu_rem (show v1.toInt = _ from rfl) (show v0.toInt = _ from rfl) (show 1 ≤ v0.toInt by omega)
          try rw [← ex8] at fx8
          refine lv_ladd hx hb d_Mo_roll_94 ?_
          refine lv_topl (fun x9 ex9 => ?_)
          have fx9 : x9.toInt = (i.toInt + x8.toInt) := by rw [ex9]; exact (zu_add fx7 (show x8.toInt = _ from rfl) (by omega) (by omega)).trans (by omega)
          refine lv_lload_n hx hb d_Mo_roll_95 rfl (lv_at hl 3 rfl) ?_
          refine lv_ladd hx hb d_Mo_roll_96 ?_
          refine lv_topl (fun x10 ex10 => ?_)
          have fx10 : x10.toInt = (i.toInt + v0.toInt + x8.toInt) := by rw [ex10]; exact (zu_add fx9 (show v0.toInt = _ from rfl) (by omega) (by omega)).trans (by omega)
          refine lv_lload_n hx hb d_Mo_roll_97 rfl (lv_at hl 3 rfl) ?_
          refine lv_lrem hx hb d_Mo_roll_98 (zu_n0 rfl (by omega)) ?_
          refine lv_topl (fun x11 ex11 => ?_)
          try have fx11 := zu_rem fx10 (show v0.toInt = _ from rfl) (show 1 ≤ v0.toInt by omega)
          try rw [← ex11] at fx11
          refine lv_l2i (v := (x11).toInt32) hx hb d_Mo_roll_99 rfl ?_
          refine lv_topi (fun x12 ex12 => ?_)
          have wx12 := zt_rng x12
          have fx12 : x12.toInt = x11.toInt := by rw [ex12]; exact zt_l2i (show x11.toInt = _ from rfl) (by omega) (by omega)
          refine lv_iadd hx hb d_Mo_roll_100 ?_
          refine lv_topi (fun x13 ex13 => ?_)
          have fx13 : x13.toInt = ((f_size S2).toInt + x12.toInt - x5.toInt) := by rw [ex13]; exact (zt_add fx6 (show x12.toInt = _ from rfl) (by omega) (by omega)).trans (by omega)
          refine lv_sipush (v := 1170) hx hb d_Mo_roll_101 (by decide) ?_
          refine lv_iload hx hb d_Mo_roll_104 (lv_at hl 0 rfl) ?_
          refine lv_iadd hx hb d_Mo_roll_106 ?_
          refine lv_topi (fun x14 ex14 => ?_)
          have fx14 : x14.toInt = (i.toInt + 1170) := by rw [ex14]; exact (zt_add tI_1170 (show i.toInt = _ from rfl) (by omega) (by omega)).trans (by omega)
          refine jm_cv (w := (fun u => u)) hK hP hD hS hA (va_runV (As := [.int x13, .int x14]) (rest := []) F (m_move l D T h0 ar S2 x13 x14 H.size (show 0 ≤ x13.toInt ∧ x13.toInt < 1300 by first | omega | (simp only [fx13, fx14]; omega)) (show 0 ≤ x14.toInt ∧ x14.toInt < 1300 by first | omega | (simp only [fx13, fx14]; omega))) (j_cV (k := 2) (C := "PageScribeModel") hts k_7_76 k_1_12 k_7_73 k_7_75 k_0_82 (by decide +kernel) ⟨Nat.le_of_ble_eq_true rfl, Nat.le_of_ble_eq_true rfl⟩) (jm_pre hK hP hD) rfl rfl hl.1 rfl (lv_room (Nat.le_of_ble_eq_true rfl)) d_Mo_roll_107 ⟨Nat.le_of_ble_eq_true rfl, Nat.le_of_ble_eq_true rfl⟩) (fun S3 H locs hw1 hP hD hS => ?_)
          try simp only [fx13, fx14] at hw1
          obtain rfl := hw1
          have hP : va_P D classes (mW T h0 ar ((((f_thrown S2), (upd (a_kinds S2) (((f_size S2).toInt + x12.toInt - x5.toInt).toNat) ((a_kinds S2) ((i.toInt + 1170).toNat))), (vp_updL (a_codes S2) (((f_size S2).toInt + x12.toInt - x5.toInt).toNat) ((a_codes S2) ((i.toInt + 1170).toNat))), (vf_upd (a_reals S2) (((f_size S2).toInt + x12.toInt - x5.toInt).toNat) ((a_reals S2) ((i.toInt + 1170).toNat))), (f_size S2), (f_taken S2), (a_words S2), (a_many S2)), S2.2.1, S2.2.2.1, S2.2.2.2.1, S2.2.2.2.2.1, S2.2.2.2.2.2) : MS)) H := hP
          have hD : va_D A (mW T h0 ar ((((f_thrown S2), (upd (a_kinds S2) (((f_size S2).toInt + x12.toInt - x5.toInt).toNat) ((a_kinds S2) ((i.toInt + 1170).toNat))), (vp_updL (a_codes S2) (((f_size S2).toInt + x12.toInt - x5.toInt).toNat) ((a_codes S2) ((i.toInt + 1170).toNat))), (vf_upd (a_reals S2) (((f_size S2).toInt + x12.toInt - x5.toInt).toNat) ((a_reals S2) ((i.toInt + 1170).toNat))), (f_size S2), (f_taken S2), (a_words S2), (a_many S2)), S2.2.1, S2.2.2.1, S2.2.2.2.1, S2.2.2.2.2.1, S2.2.2.2.2.2) : MS)) := hD
          have i_vals : ∀ k, k < 1300 → vOk ((upd (a_kinds S2) (((f_size S2).toInt + x12.toInt - x5.toInt).toNat) ((a_kinds S2) ((i.toInt + 1170).toNat))) k) ((vp_updL (a_codes S2) (((f_size S2).toInt + x12.toInt - x5.toInt).toNat) ((a_codes S2) ((i.toInt + 1170).toNat))) k) ((vf_upd (a_reals S2) (((f_size S2).toInt + x12.toInt - x5.toInt).toNat) ((a_reals S2) ((i.toInt + 1170).toNat))) k) := vOk_upd i_vals (i_vals ((i.toInt + 1170).toNat) (by omega))
          have fa1 : ((upd (a_kinds S2) (((f_size S2).toInt + x12.toInt - x5.toInt).toNat) ((a_kinds S2) ((i.toInt + 1170).toNat))) (((f_size S2).toInt + x12.toInt - x5.toInt).toNat)).toInt = ((a_kinds S2) ((i.toInt + 1170).toNat)).toInt := congrArg Int32.toInt upd_s
          have fa2 : ((vp_updL (a_codes S2) (((f_size S2).toInt + x12.toInt - x5.toInt).toNat) ((a_codes S2) ((i.toInt + 1170).toNat))) (((f_size S2).toInt + x12.toInt - x5.toInt).toNat)).toInt = ((a_codes S2) ((i.toInt + 1170).toNat)).toInt := congrArg Int64.toInt updL_s
          refine lv_iinc (v := (i + 1)) (lv' := [(6, .int (i + 1)), (5, .int x5), (0, .ref h0), (1, .long v0), (3, .long v1)]) hx hb d_Mo_roll_110 hl (k := 0) rfl (by first | rfl | decide) (by decide) rfl (fun ls hl => ?_)
          obtain ⟨x15, ex15⟩ : ∃ z, z = (i + 1) := ⟨_, rfl⟩
          rw [← ex15] at hl
          have fx15 : x15.toInt = (i.toInt + 1) := by rw [ex15]; exact (zt_add (show i.toInt = _ from rfl) tI_1 (by omega) (by omega)).trans (by omega)
          have hl : lv_has ls 7 [(6, .int x15), (5, .int x5), (0, .ref h0), (1, .long v0), (3, .long v1)] := hl
          refine lv_goto (tgt := 73) hx hb d_Mo_roll_113 (by decide) ?_
          exact ih2 (k2 - 1) (((((f_thrown S2), (upd (a_kinds S2) (((f_size S2).toInt + x12.toInt - x5.toInt).toNat) ((a_kinds S2) ((i.toInt + 1170).toNat))), (vp_updL (a_codes S2) (((f_size S2).toInt + x12.toInt - x5.toInt).toNat) ((a_codes S2) ((i.toInt + 1170).toNat))), (vf_upd (a_reals S2) (((f_size S2).toInt + x12.toInt - x5.toInt).toNat) ((a_reals S2) ((i.toInt + 1170).toNat))), (f_size S2), (f_taken S2), (a_words S2), (a_many S2)), S2.2.1, S2.2.2.1, S2.2.2.2.1, S2.2.2.2.2.1, S2.2.2.2.2.2) : MS), x15) _ _ _ (by omega) ⟨(show 0 ≤ x15.toInt ∧ x15.toInt ≤ v0.toInt ∧ v0.toInt ≤ x15.toInt + (((k2 - 1) : Nat) : Int) ∧ 0 ≤ v0.toInt ∧ v0.toInt ≤ (f_size S2).toInt ∧ (f_size S2).toInt ≤ 38 by omega), ⟨i_size, i_taken, i_vals, i_room, i_dicts, i_deep, i_open, i_cells, i_points, i_part, i_length, i_knows, i_page, i_text, i_pats, i_fuel, i_fr, i_ink⟩, (show kA S ((((f_thrown S2), (upd (a_kinds S2) (((f_size S2).toInt + x12.toInt - x5.toInt).toNat) ((a_kinds S2) ((i.toInt + 1170).toNat))), (vp_updL (a_codes S2) (((f_size S2).toInt + x12.toInt - x5.toInt).toNat) ((a_codes S2) ((i.toInt + 1170).toNat))), (vf_upd (a_reals S2) (((f_size S2).toInt + x12.toInt - x5.toInt).toNat) ((a_reals S2) ((i.toInt + 1170).toNat))), (f_size S2), (f_taken S2), (a_words S2), (a_many S2)), S2.2.1, S2.2.2.1, S2.2.2.2.1, S2.2.2.2.2.1, S2.2.2.2.2.2) : MS) from klA_S2), (show kF S ((((f_thrown S2), (upd (a_kinds S2) (((f_size S2).toInt + x12.toInt - x5.toInt).toNat) ((a_kinds S2) ((i.toInt + 1170).toNat))), (vp_updL (a_codes S2) (((f_size S2).toInt + x12.toInt - x5.toInt).toNat) ((a_codes S2) ((i.toInt + 1170).toNat))), (vf_upd (a_reals S2) (((f_size S2).toInt + x12.toInt - x5.toInt).toNat) ((a_reals S2) ((i.toInt + 1170).toNat))), (f_size S2), (f_taken S2), (a_words S2), (a_many S2)), S2.2.1, S2.2.2.1, S2.2.2.2.1, S2.2.2.2.2.1, S2.2.2.2.2.2) : MS) from klF_S2), hP, hD, hS, lv_sub hl [0, 1, 2, 3, 4] rfl⟩
      · have fc41_1 : i.toInt < x5.toInt := Int.not_le.mp (zt_nle (show x5.toInt = _ from rfl) (show i.toInt = _ from rfl) c41_1)
        refine lv_aload_n hx hb d_Mo_roll_44 rfl (lv_at hl 2 rfl) ?_
        refine lv_sipush (v := 1170) hx hb d_Mo_roll_45 (by decide) ?_
        refine lv_iload hx hb d_Mo_roll_48 (lv_at hl 0 rfl) ?_
        refine lv_iadd hx hb d_Mo_roll_50 ?_
        refine lv_topi (fun x16 ex16 => ?_)
        have fx16 : x16.toInt = (i.toInt + 1170) := by rw [ex16]; exact (zt_add tI_1170 (show i.toInt = _ from rfl) (by omega) (by omega)).trans (by omega)
        refine lv_aload_n hx hb d_Mo_roll_51 rfl (lv_at hl 2 rfl) ?_
        refine va_get (D := D) (ci := 11) (v := .int (f_size S1)) (C := "PageScribeModel") (T := F_Mo) (N := 45) hx hb hts i_Mo hown hK hP 0 mW_0 cl_11 4 (by decide) (hts _ k_6_164) (fun _ h9 => h9) (mg_size _ _) d_Mo_roll_52 ?_
        refine lv_iload hx hb d_Mo_roll_55 (lv_at hl 1 rfl) ?_
        refine lv_isub hx hb d_Mo_roll_57 ?_
        refine lv_topi (fun x17 ex17 => ?_)
        have fx17 : x17.toInt = ((f_size S1).toInt - x5.toInt) := by rw [ex17]; exact (zt_sub (show (f_size S1).toInt = _ from rfl) (show x5.toInt = _ from rfl) (by omega) (by omega)).trans (by omega)
        refine lv_iload hx hb d_Mo_roll_58 (lv_at hl 0 rfl) ?_
        refine lv_iadd hx hb d_Mo_roll_60 ?_
        refine lv_topi (fun x18 ex18 => ?_)
        have fx18 : x18.toInt = ((f_size S1).toInt + i.toInt - x5.toInt) := by rw [ex18]; exact (zt_add fx17 (show i.toInt = _ from rfl) (by omega) (by omega)).trans (by omega)
        refine jm_cv (w := (fun u => u)) hK hP hD hS hA (va_runV (As := [.int x16, .int x18]) (rest := []) F (m_move l D T h0 ar S1 x16 x18 H.size (show 0 ≤ x16.toInt ∧ x16.toInt < 1300 by first | omega | (simp only [fx16, fx18]; omega)) (show 0 ≤ x18.toInt ∧ x18.toInt < 1300 by first | omega | (simp only [fx16, fx18]; omega))) (j_cV (k := 2) (C := "PageScribeModel") hts k_7_76 k_1_12 k_7_73 k_7_75 k_0_82 (by decide +kernel) ⟨Nat.le_of_ble_eq_true rfl, Nat.le_of_ble_eq_true rfl⟩) (jm_pre hK hP hD) rfl rfl hl.1 rfl (lv_room (Nat.le_of_ble_eq_true rfl)) d_Mo_roll_61 ⟨Nat.le_of_ble_eq_true rfl, Nat.le_of_ble_eq_true rfl⟩) (fun S4 H locs hw2 hP hD hS => ?_)
        try simp only [fx16, fx18] at hw2
        obtain rfl := hw2
        have hP : va_P D classes (mW T h0 ar ((((f_thrown S1), (upd (a_kinds S1) ((i.toInt + 1170).toNat) ((a_kinds S1) (((f_size S1).toInt + i.toInt - x5.toInt).toNat))), (vp_updL (a_codes S1) ((i.toInt + 1170).toNat) ((a_codes S1) (((f_size S1).toInt + i.toInt - x5.toInt).toNat))), (vf_upd (a_reals S1) ((i.toInt + 1170).toNat) ((a_reals S1) (((f_size S1).toInt + i.toInt - x5.toInt).toNat))), (f_size S1), (f_taken S1), (a_words S1), (a_many S1)), S1.2.1, S1.2.2.1, S1.2.2.2.1, S1.2.2.2.2.1, S1.2.2.2.2.2) : MS)) H := hP
        have hD : va_D A (mW T h0 ar ((((f_thrown S1), (upd (a_kinds S1) ((i.toInt + 1170).toNat) ((a_kinds S1) (((f_size S1).toInt + i.toInt - x5.toInt).toNat))), (vp_updL (a_codes S1) ((i.toInt + 1170).toNat) ((a_codes S1) (((f_size S1).toInt + i.toInt - x5.toInt).toNat))), (vf_upd (a_reals S1) ((i.toInt + 1170).toNat) ((a_reals S1) (((f_size S1).toInt + i.toInt - x5.toInt).toNat))), (f_size S1), (f_taken S1), (a_words S1), (a_many S1)), S1.2.1, S1.2.2.1, S1.2.2.2.1, S1.2.2.2.2.1, S1.2.2.2.2.2) : MS)) := hD
        have i_vals : ∀ k, k < 1300 → vOk ((upd (a_kinds S1) ((i.toInt + 1170).toNat) ((a_kinds S1) (((f_size S1).toInt + i.toInt - x5.toInt).toNat))) k) ((vp_updL (a_codes S1) ((i.toInt + 1170).toNat) ((a_codes S1) (((f_size S1).toInt + i.toInt - x5.toInt).toNat))) k) ((vf_upd (a_reals S1) ((i.toInt + 1170).toNat) ((a_reals S1) (((f_size S1).toInt + i.toInt - x5.toInt).toNat))) k) := vOk_upd i_vals (i_vals (((f_size S1).toInt + i.toInt - x5.toInt).toNat) (by omega))
        have fa3 : ((upd (a_kinds S1) ((i.toInt + 1170).toNat) ((a_kinds S1) (((f_size S1).toInt + i.toInt - x5.toInt).toNat))) ((i.toInt + 1170).toNat)).toInt = ((a_kinds S1) (((f_size S1).toInt + i.toInt - x5.toInt).toNat)).toInt := congrArg Int32.toInt upd_s
        have fa4 : ((vp_updL (a_codes S1) ((i.toInt + 1170).toNat) ((a_codes S1) (((f_size S1).toInt + i.toInt - x5.toInt).toNat))) ((i.toInt + 1170).toNat)).toInt = ((a_codes S1) (((f_size S1).toInt + i.toInt - x5.toInt).toNat)).toInt := congrArg Int64.toInt updL_s
        refine lv_iinc (v := (i + 1)) (lv' := [(6, .int (i + 1)), (5, .int x5), (0, .ref h0), (1, .long v0), (3, .long v1)]) hx hb d_Mo_roll_64 hl (k := 0) rfl (by first | rfl | decide) (by decide) rfl (fun ls hl => ?_)
        obtain ⟨x19, ex19⟩ : ∃ z, z = (i + 1) := ⟨_, rfl⟩
        rw [← ex19] at hl
        have fx19 : x19.toInt = (i.toInt + 1) := by rw [ex19]; exact (zt_add (show i.toInt = _ from rfl) tI_1 (by omega) (by omega)).trans (by omega)
        have hl : lv_has ls 7 [(6, .int x19), (5, .int x5), (0, .ref h0), (1, .long v0), (3, .long v1)] := hl
        refine lv_goto (tgt := 37) hx hb d_Mo_roll_67 (by decide) ?_
        exact ih (k - 1) (((((f_thrown S1), (upd (a_kinds S1) ((i.toInt + 1170).toNat) ((a_kinds S1) (((f_size S1).toInt + i.toInt - x5.toInt).toNat))), (vp_updL (a_codes S1) ((i.toInt + 1170).toNat) ((a_codes S1) (((f_size S1).toInt + i.toInt - x5.toInt).toNat))), (vf_upd (a_reals S1) ((i.toInt + 1170).toNat) ((a_reals S1) (((f_size S1).toInt + i.toInt - x5.toInt).toNat))), (f_size S1), (f_taken S1), (a_words S1), (a_many S1)), S1.2.1, S1.2.2.1, S1.2.2.2.1, S1.2.2.2.2.1, S1.2.2.2.2.2) : MS), x19) _ _ _ (by omega) ⟨(show 0 ≤ x19.toInt ∧ x19.toInt ≤ v0.toInt ∧ v0.toInt ≤ x19.toInt + (((k - 1) : Nat) : Int) ∧ 0 ≤ v0.toInt ∧ v0.toInt ≤ (f_size S1).toInt ∧ (f_size S1).toInt ≤ 38 by omega), ⟨i_size, i_taken, i_vals, i_room, i_dicts, i_deep, i_open, i_cells, i_points, i_part, i_length, i_knows, i_page, i_text, i_pats, i_fuel, i_fr, i_ink⟩, (show kA S ((((f_thrown S1), (upd (a_kinds S1) ((i.toInt + 1170).toNat) ((a_kinds S1) (((f_size S1).toInt + i.toInt - x5.toInt).toNat))), (vp_updL (a_codes S1) ((i.toInt + 1170).toNat) ((a_codes S1) (((f_size S1).toInt + i.toInt - x5.toInt).toNat))), (vf_upd (a_reals S1) ((i.toInt + 1170).toNat) ((a_reals S1) (((f_size S1).toInt + i.toInt - x5.toInt).toNat))), (f_size S1), (f_taken S1), (a_words S1), (a_many S1)), S1.2.1, S1.2.2.1, S1.2.2.2.1, S1.2.2.2.2.1, S1.2.2.2.2.2) : MS) from klA_S1), (show kF S ((((f_thrown S1), (upd (a_kinds S1) ((i.toInt + 1170).toNat) ((a_kinds S1) (((f_size S1).toInt + i.toInt - x5.toInt).toNat))), (vp_updL (a_codes S1) ((i.toInt + 1170).toNat) ((a_codes S1) (((f_size S1).toInt + i.toInt - x5.toInt).toNat))), (vf_upd (a_reals S1) ((i.toInt + 1170).toNat) ((a_reals S1) (((f_size S1).toInt + i.toInt - x5.toInt).toNat))), (f_size S1), (f_taken S1), (a_words S1), (a_many S1)), S1.2.1, S1.2.2.1, S1.2.2.2.1, S1.2.2.2.2.1, S1.2.2.2.2.2) : MS) from klF_S1), hP, hD, hS, lv_sub hl [0, 1, 2, 3, 4] rfl⟩
    · have fc15_1 : 0 < x4.toInt := Int.not_le.mp (zt_nle (show x4.toInt = _ from rfl) tI_0 c15_1)
      have vc15_1 : v0.toInt > ((f_size S).toInt - 2) := by have := zr_cmp ex4 (show v0.toInt = _ from rfl) fx3; have := Int.not_le.mp (zt_nle (show x4.toInt = _ from rfl) tI_0 c15_1); omega
      refine lv_iconst (v := 4) hx hb d_Mo_roll_18 (by decide) ?_
      exact j_iret F hr hlocks hK hS S ⟨⟨i_size, i_taken, i_vals, i_room, i_dicts, i_deep, i_open, i_cells, i_points, i_part, i_length, i_knows, i_page, i_text, i_pats, i_fuel, i_fr, i_ink⟩, (kA_r S), (kF_r S), (show (4 : Int32).toInt = 0 ∨ (4 : Int32).toInt = 4 by have := tI_4; omega)⟩ hP hD d_Mo_roll_19
