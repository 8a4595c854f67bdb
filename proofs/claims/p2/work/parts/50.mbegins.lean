theorem tI_19 : (19 : Int32).toInt = 19 := by decide +kernel
theorem tI_24 : (24 : Int32).toInt = 24 := by decide +kernel
theorem tI_42 : (42 : Int32).toInt = 42 := by decide +kernel
theorem tI_44 : (44 : Int32).toInt = 44 := by decide +kernel
theorem tI_45 : (45 : Int32).toInt = 45 := by decide +kernel
theorem tI_46 : (46 : Int32).toInt = 46 := by decide +kernel
theorem tI_47 : (47 : Int32).toInt = 47 := by decide +kernel
theorem tI_49 : (49 : Int32).toInt = 49 := by decide +kernel
theorem tI_51 : (51 : Int32).toInt = 51 := by decide +kernel
theorem tI_52 : (52 : Int32).toInt = 52 := by decide +kernel
theorem tI_53 : (53 : Int32).toInt = 53 := by decide +kernel
theorem tI_54 : (54 : Int32).toInt = 54 := by decide +kernel
theorem tI_55 : (55 : Int32).toInt = 55 := by decide +kernel
theorem tI_56 : (56 : Int32).toInt = 56 := by decide +kernel
theorem tI_58 : (58 : Int32).toInt = 58 := by decide +kernel
theorem tI_59 : (59 : Int32).toInt = 59 := by decide +kernel
theorem tI_60 : (60 : Int32).toInt = 60 := by decide +kernel
theorem tI_61 : (61 : Int32).toInt = 61 := by decide +kernel
theorem tI_62 : (62 : Int32).toInt = 62 := by decide +kernel
theorem tI_63 : (63 : Int32).toInt = 63 := by decide +kernel
theorem tI_64 : (64 : Int32).toInt = 64 := by decide +kernel
theorem tI_65 : (65 : Int32).toInt = 65 := by decide +kernel
theorem tI_66 : (66 : Int32).toInt = 66 := by decide +kernel
theorem tI_67 : (67 : Int32).toInt = 67 := by decide +kernel
theorem tI_68 : (68 : Int32).toInt = 68 := by decide +kernel
theorem tI_69 : (69 : Int32).toInt = 69 := by decide +kernel
theorem tJ_2 : (2 : Int64).toInt = 2 := by decide +kernel
theorem tJ_3 : (3 : Int64).toInt = 3 := by decide +kernel
theorem tJ_4 : (4 : Int64).toInt = 4 := by decide +kernel
theorem tJ_5 : (5 : Int64).toInt = 5 := by decide +kernel
theorem tJ_6 : (6 : Int64).toInt = 6 := by decide +kernel
theorem tJ_7 : (7 : Int64).toInt = 7 := by decide +kernel
theorem tJ_8 : (8 : Int64).toInt = 8 := by decide +kernel
theorem tJ_9 : (9 : Int64).toInt = 9 := by decide +kernel
def freeT (S : MS) : Prop := (f_frames S).toInt = 0 ∨ ((a_what S) ((f_frames S).toInt - 1).toNat).toInt ≤ 2
def begP (op : Int) (S : MS) : Prop := (op = 50 → 1 ≤ (f_size S).toInt) ∧ (op = 51 → 2 ≤ (f_size S).toInt ∧ ((a_kinds S) ((f_size S).toInt - 1).toNat).toInt = 13) ∧ (op = 52 → 3 ≤ (f_size S).toInt ∧ ((a_kinds S) ((f_size S).toInt - 1).toNat).toInt = 13 ∧ ((a_kinds S) ((f_size S).toInt - 2).toNat).toInt = 13) ∧ (op = 53 → 4 ≤ (f_size S).toInt ∧ ((a_kinds S) ((f_size S).toInt - 1).toNat).toInt = 13 ∧ ((a_kinds S) ((f_size S).toInt - 2).toNat).toInt % 8 = 0 ∧ ((a_kinds S) ((f_size S).toInt - 3).toNat).toInt % 8 = 0 ∧ ((a_kinds S) ((f_size S).toInt - 4).toNat).toInt % 8 = 0) ∧ (op = 54 → 2 ≤ (f_size S).toInt ∧ ((a_kinds S) ((f_size S).toInt - 1).toNat).toInt = 13) ∧ (op = 55 → 1 ≤ (f_size S).toInt ∧ ((a_kinds S) ((f_size S).toInt - 1).toNat).toInt = 13) ∧ (op = 56 → 2 ≤ (f_size S).toInt ∧ ((a_kinds S) ((f_size S).toInt - 1).toNat).toInt = 13 ∧ ((a_kinds S) ((f_size S).toInt - 2).toNat).toInt % 8 = 5)
theorem d_Mo_begins_0 : decode prog_15_method_64_code 0 = .ok (.aload_n 0, 1) := by decide +kernel
theorem d_Mo_begins_1 : decode prog_15_method_64_code 1 = .ok (.getfield 247, 3) := by decide +kernel
theorem d_Mo_begins_4 : decode prog_15_method_64_code 4 = .ok (.iconst 1, 1) := by decide +kernel
theorem d_Mo_begins_5 : decode prog_15_method_64_code 5 = .ok (.isub, 1) := by decide +kernel
theorem d_Mo_begins_6 : decode prog_15_method_64_code 6 = .ok (.istore_n 2, 1) := by decide +kernel
theorem d_Mo_begins_7 : decode prog_15_method_64_code 7 = .ok (.aload_n 0, 1) := by decide +kernel
theorem d_Mo_begins_8 : decode prog_15_method_64_code 8 = .ok (.getfield 13, 3) := by decide +kernel
theorem d_Mo_begins_11 : decode prog_15_method_64_code 11 = .ok (.iload_n 2, 1) := by decide +kernel
theorem d_Mo_begins_12 : decode prog_15_method_64_code 12 = .ok (.laload, 1) := by decide +kernel
theorem d_Mo_begins_13 : decode prog_15_method_64_code 13 = .ok (.lstore_n 3, 1) := by decide +kernel
theorem d_Mo_begins_30 : decode prog_15_method_64_code 30 = .ok (.lstore 5, 2) := by decide +kernel
theorem d_Mo_begins_32 : decode prog_15_method_64_code 32 = .ok (.iload_n 1, 1) := by decide +kernel
theorem d_Mo_begins_33 : decode prog_15_method_64_code 33 = .ok (.bipush 50, 2) := by decide +kernel
theorem d_Mo_begins_35 : decode prog_15_method_64_code 35 = .ok (.if_icmp .ne 42, 3) := by decide +kernel
theorem d_Mo_begins_38 : decode prog_15_method_64_code 38 = .ok (.aload_n 0, 1) := by decide +kernel
theorem d_Mo_begins_39 : decode prog_15_method_64_code 39 = .ok (.bipush 40, 2) := by decide +kernel
theorem d_Mo_begins_41 : decode prog_15_method_64_code 41 = .ok (.iload_n 2, 1) := by decide +kernel
theorem d_Mo_begins_42 : decode prog_15_method_64_code 42 = .ok (.invokevirtual 254, 3) := by decide +kernel
theorem d_Mo_begins_45 : decode prog_15_method_64_code 45 = .ok (.aload_n 0, 1) := by decide +kernel
theorem d_Mo_begins_46 : decode prog_15_method_64_code 46 = .ok (.dup, 1) := by decide +kernel
theorem d_Mo_begins_47 : decode prog_15_method_64_code 47 = .ok (.getfield 247, 3) := by decide +kernel
theorem d_Mo_begins_50 : decode prog_15_method_64_code 50 = .ok (.iconst 1, 1) := by decide +kernel
theorem d_Mo_begins_51 : decode prog_15_method_64_code 51 = .ok (.isub, 1) := by decide +kernel
theorem d_Mo_begins_52 : decode prog_15_method_64_code 52 = .ok (.putfield 247, 3) := by decide +kernel
theorem d_Mo_begins_55 : decode prog_15_method_64_code 55 = .ok (.aload_n 0, 1) := by decide +kernel
theorem d_Mo_begins_56 : decode prog_15_method_64_code 56 = .ok (.bipush 40, 2) := by decide +kernel
theorem d_Mo_begins_58 : decode prog_15_method_64_code 58 = .ok (.invokevirtual 378, 3) := by decide +kernel
theorem d_Mo_begins_61 : decode prog_15_method_64_code 61 = .ok (.ifCond .eq 11, 3) := by decide +kernel
theorem d_Mo_begins_72 : decode prog_15_method_64_code 72 = .ok (.aload_n 0, 1) := by decide +kernel
theorem d_Mo_begins_73 : decode prog_15_method_64_code 73 = .ok (.invokevirtual 522, 3) := by decide +kernel
theorem k_8_63 : Cond.code ⟨"PageScribeModel", "again", "()I"⟩ prog_15_method_31_code 1 (some .int) ∈ gw := gw_of (tb_8 (List.mem_of_getElem? (i := 63) (by decide +kernel))) (by decide +kernel)
theorem k_8_60 : Cond.methodLink "PageScribeModel" 522 ⟨"PageScribeModel", "again", "()I"⟩ ∈ gw := gw_of (tb_8 (List.mem_of_getElem? (i := 60) (by decide +kernel))) (by decide +kernel)
theorem k_8_62 : Cond.instanceMethod ⟨"PageScribeModel", "again", "()I"⟩ ∈ gw := gw_of (tb_8 (List.mem_of_getElem? (i := 62) (by decide +kernel))) (by decide +kernel)
theorem k_0_130 : Cond.selects "PageScribeModel" ⟨"PageScribeModel", "again", "()I"⟩ ⟨"PageScribeModel", "again", "()I"⟩ ∈ gw := gw_of (tb_0 (List.mem_of_getElem? (i := 130) (by decide +kernel))) (by decide +kernel)
theorem d_Mo_begins_76 : decode prog_15_method_64_code 76 = .ok (.ireturn, 1) := by decide +kernel
theorem d_Mo_begins_64 : decode prog_15_method_64_code 64 = .ok (.aload_n 0, 1) := by decide +kernel
theorem d_Mo_begins_65 : decode prog_15_method_64_code 65 = .ok (.lload_n 3, 1) := by decide +kernel
theorem d_Mo_begins_66 : decode prog_15_method_64_code 66 = .ok (.invokevirtual 382, 3) := by decide +kernel
theorem k_8_55 : Cond.code ⟨"PageScribeModel", "runArray", "(J)I"⟩ prog_15_method_30_code 3 (some .int) ∈ gw := gw_of (tb_8 (List.mem_of_getElem? (i := 55) (by decide +kernel))) (by decide +kernel)
theorem k_8_52 : Cond.methodLink "PageScribeModel" 382 ⟨"PageScribeModel", "runArray", "(J)I"⟩ ∈ gw := gw_of (tb_8 (List.mem_of_getElem? (i := 52) (by decide +kernel))) (by decide +kernel)
theorem k_8_54 : Cond.instanceMethod ⟨"PageScribeModel", "runArray", "(J)I"⟩ ∈ gw := gw_of (tb_8 (List.mem_of_getElem? (i := 54) (by decide +kernel))) (by decide +kernel)
theorem k_0_128 : Cond.selects "PageScribeModel" ⟨"PageScribeModel", "runArray", "(J)I"⟩ ⟨"PageScribeModel", "runArray", "(J)I"⟩ ∈ gw := gw_of (tb_0 (List.mem_of_getElem? (i := 128) (by decide +kernel))) (by decide +kernel)
theorem d_Mo_begins_69 : decode prog_15_method_64_code 69 = .ok (.goto 7, 3) := by decide +kernel
theorem d_Mo_begins_14 : decode prog_15_method_64_code 14 = .ok (.iload_n 2, 1) := by decide +kernel
theorem d_Mo_begins_15 : decode prog_15_method_64_code 15 = .ok (.ifCond .le 14, 3) := by decide +kernel
theorem d_Mo_begins_29 : decode prog_15_method_64_code 29 = .ok (.lconst 0, 1) := by decide +kernel
theorem d_Mo_begins_18 : decode prog_15_method_64_code 18 = .ok (.aload_n 0, 1) := by decide +kernel
theorem d_Mo_begins_19 : decode prog_15_method_64_code 19 = .ok (.getfield 13, 3) := by decide +kernel
theorem d_Mo_begins_22 : decode prog_15_method_64_code 22 = .ok (.iload_n 2, 1) := by decide +kernel
theorem d_Mo_begins_23 : decode prog_15_method_64_code 23 = .ok (.iconst 1, 1) := by decide +kernel
theorem d_Mo_begins_24 : decode prog_15_method_64_code 24 = .ok (.isub, 1) := by decide +kernel
theorem d_Mo_begins_25 : decode prog_15_method_64_code 25 = .ok (.laload, 1) := by decide +kernel
theorem d_Mo_begins_26 : decode prog_15_method_64_code 26 = .ok (.goto 4, 3) := by decide +kernel
set_option maxHeartbeats 4000000 in
set_option maxRecDepth 100000 in
theorem m_begins_50 (l : Launch) (D : va_G) (T : Nat → ClassId) (h0 : Nat) (ar : Nat → Nat) (S : MS)  (sz : Nat) (hI : MI S) (h1 : 1 ≤ (f_size S).toInt) : Met l ⟨"PageScribeModel", "begins", "(I)I"⟩ (wy ⟨"PageScribeModel", "begins", "(I)I"⟩ prog_15_method_64_code 8 (some .int)) ({ frames := 2, cells := 0, slots := 0, locals := 140 }) (va_Pc [.ref h0, .int 50] (Pw D T (mW T h0 ar S) sz E0)) (va_Qi (fun (r : Int32) (u : MS) => MI u ∧ kA S u ∧ (-1 ≤ r.toInt ∧ r.toInt ≤ 16 ∧ (f_frames u).toInt ≤ (f_frames S).toInt + 1 ∧ (r.toInt = -1 → ((a_kinds u) 40).toInt = 11 → 1 ≤ (f_frames u).toInt ∧ ((a_what u) ((f_frames u).toInt - 1).toNat).toInt ≤ 2))) (fun u t => Bw D T (va_A (mW T h0 ar S) sz) (mW T h0 ar u) t) (va_A (mW T h0 ar S) sz)) 0 0 (va_A (mW T h0 ar S) sz) := by
  refine j_met (y := ⟨"PageScribeModel", "begins", "(I)I"⟩) (b := prog_15_method_64_code) (n := 8) (ret := (some .int)) (av := [.ref h0, .int 50]) (Qc := fun A => va_Qi (fun (r : Int32) (u : MS) => MI u ∧ kA S u ∧ (-1 ≤ r.toInt ∧ r.toInt ≤ 16 ∧ (f_frames u).toInt ≤ (f_frames S).toInt + 1 ∧ (r.toInt = -1 → ((a_kinds u) 40).toInt = 11 → 1 ≤ (f_frames u).toInt ∧ ((a_what u) ((f_frames u).toInt - 1).toNat).toInt ≤ 2))) (fun u t => Bw D T A (mW T h0 ar u) t) A) (by decide +kernel) (Nat.le_of_ble_eq_true rfl) (fun p e s m args below meth c A ls F hr hlocks hnm hK hP hD hS hA hN hE hl => ?_)
  obtain ⟨hx, hb, hml, hown, hts⟩ := id F
  have hl : lv_has ls 8 [(0, .ref h0), (1, .int 50)] := hl
  obtain ⟨i_size, i_taken, i_vals, i_room, i_dicts, i_deep, i_open, i_cells, i_points, i_part, i_length, i_knows, i_page, i_text, i_pats, i_fuel, i_fr, i_ink⟩ := id hI
  refine lv_aload_n hx hb d_Mo_begins_0 rfl (lv_at hl 0 rfl) ?_
  refine va_get (D := D) (ci := 11) (v := .int (f_size S)) (C := "PageScribeModel") (T := F_Mo) (N := 45) hx hb hts i_Mo hown hK hP 0 mW_0 cl_11 4 (by decide) (hts _ k_6_164) (fun _ h9 => h9) (mg_size _ _) d_Mo_begins_1 ?_
  refine lv_iconst (v := 1) hx hb d_Mo_begins_4 (by decide) ?_
  refine lv_isub hx hb d_Mo_begins_5 ?_
  refine lv_topi (fun x1 ex1 => ?_)
  have fx1 : x1.toInt = ((f_size S).toInt - 1) := by rw [ex1]; exact (zt_sub (show (f_size S).toInt = _ from rfl) tI_1 (by omega) (by omega)).trans (by omega)
  refine lv_istore_n (lv' := [(2, .int x1), (0, .ref h0), (1, .int 50)]) hx hb d_Mo_begins_6 rfl hl (by decide) rfl (fun ls hl => ?_)
  refine lv_aload_n hx hb d_Mo_begins_7 rfl (lv_at hl 1 rfl) ?_
  refine va_get (D := D) (ci := 11) (v := .ref (ar 1)) (C := "PageScribeModel") (T := F_Mo) (N := 45) hx hb hts i_Mo hown hK hP 0 mW_0 cl_11 2 (by decide) (hts _ k_6_162) (fun _ h9 => h9) (mg_codes _ _) d_Mo_begins_8 ?_
  refine lv_iload_n hx hb d_Mo_begins_11 rfl (lv_at hl 0 rfl) ?_
  refine va_lald hx hb hK hP 2 1 (ma_codes _ _ _ _) rfl (zt_in fx1 (by omega) (by omega)) d_Mo_begins_12 ?_
  refine lv_topl (fun x2 ex2 => ?_)
  have gx2 : x2 = (a_codes S) ((f_size S).toInt - 1).toNat := ex2.trans (congrArg _ (zt_ix fx1))
  have fx2 : x2.toInt = ((a_codes S) ((f_size S).toInt - 1).toNat).toInt := by rw [gx2]
  have kx2 : vOk ((a_kinds S) ((f_size S).toInt - 1).toNat) ((a_codes S) ((f_size S).toInt - 1).toNat) ((a_reals S) ((f_size S).toInt - 1).toNat) := i_vals (((f_size S).toInt - 1).toNat) (by omega)
  refine lv_lstore_n (lv' := [(3, .long x2), (2, .int x1), (0, .ref h0), (1, .int 50)]) hx hb d_Mo_begins_13 rfl hl (by decide) rfl (fun ls hl => ?_)
  refine j_joinH (α := Int64) (fun x H locs ls => (True) ∧ va_P D classes (mW T h0 ar S) H ∧ va_D A (mW T h0 ar S) ∧ va_S A s.heap H locs ∧ lv_has ls 8 [(3, .long x2), (2, .int x1), (0, .ref h0), (1, .int 50)]) (fun x ls => F0 m 30 ls (.long x :: [])) (fun x H locs ls hI9 => ?_) (fun key1 => ?_)
  · obtain ⟨j1, rfl⟩ : ∃ z, z = x := ⟨_, rfl⟩
    obtain ⟨hj1, hP, hD, hS, hl⟩ := hI9
    have hP : va_P D classes (mW T h0 ar S) H := hP
    have hD : va_D A (mW T h0 ar S) := hD
    have hl : lv_has ls 8 [(3, .long x2), (2, .int x1), (0, .ref h0), (1, .int 50)] := hl
    refine lv_lstore (lv' := [(5, .long j1), (3, .long x2), (2, .int x1), (0, .ref h0), (1, .int 50)]) hx hb d_Mo_begins_30 hl (by decide) rfl (fun ls hl => ?_)
    refine lv_iload_n hx hb d_Mo_begins_32 rfl (lv_at hl 4 rfl) ?_
    refine lv_bipush (v := 50) hx hb d_Mo_begins_33 (by decide) ?_
    refine lv_icmp_ne (tgt := 77) hx hb d_Mo_begins_35 (by decide) (fun c9 => absurd c9 (by decide +kernel)) (fun _ => ?_)
    refine lv_aload_n hx hb d_Mo_begins_38 rfl (lv_at hl 3 rfl) ?_
    refine lv_bipush (v := 40) hx hb d_Mo_begins_39 (by decide) ?_
    refine lv_iload_n hx hb d_Mo_begins_41 rfl (lv_at hl 2 rfl) ?_
    refine jm_cv (w := (fun u => u)) hK hP hD hS hA (va_runV (As := [.int 40, .int x1]) (rest := []) F (m_move l D T h0 ar S (40 : Int32) x1 H.size (show 0 ≤ (40 : Int32).toInt ∧ (40 : Int32).toInt < 1300 by have := tI_40; first | omega | (simp only [fx1]; omega)) (show 0 ≤ x1.toInt ∧ x1.toInt < 1300 by have := tI_40; first | omega | (simp only [fx1]; omega))) (j_cV (k := 2) (C := "PageScribeModel") hts k_7_76 k_1_12 k_7_73 k_7_75 k_0_82 (by decide +kernel) ⟨Nat.le_of_ble_eq_true rfl, Nat.le_of_ble_eq_true rfl⟩) (jm_pre hK hP hD) rfl rfl hl.1 rfl (lv_room (Nat.le_of_ble_eq_true rfl)) d_Mo_begins_42 ⟨Nat.le_of_ble_eq_true rfl, Nat.le_of_ble_eq_true rfl⟩) (fun S1 H locs hw1 hP hD hS => ?_)
    try simp only [tI_40, fx1] at hw1
    obtain rfl := hw1
    have hP : va_P D classes (mW T h0 ar ((((f_thrown S), (upd (a_kinds S) (40) ((a_kinds S) (((f_size S).toInt - 1).toNat))), (vp_updL (a_codes S) (40) ((a_codes S) (((f_size S).toInt - 1).toNat))), (vf_upd (a_reals S) (40) ((a_reals S) (((f_size S).toInt - 1).toNat))), (f_size S), (f_taken S), (a_words S), (a_many S)), S.2.1, S.2.2.1, S.2.2.2.1, S.2.2.2.2.1, S.2.2.2.2.2) : MS)) H := hP
    have hD : va_D A (mW T h0 ar ((((f_thrown S), (upd (a_kinds S) (40) ((a_kinds S) (((f_size S).toInt - 1).toNat))), (vp_updL (a_codes S) (40) ((a_codes S) (((f_size S).toInt - 1).toNat))), (vf_upd (a_reals S) (40) ((a_reals S) (((f_size S).toInt - 1).toNat))), (f_size S), (f_taken S), (a_words S), (a_many S)), S.2.1, S.2.2.1, S.2.2.2.1, S.2.2.2.2.1, S.2.2.2.2.2) : MS)) := hD
    have i_vals : ∀ k, k < 1300 → vOk ((upd (a_kinds S) (40) ((a_kinds S) (((f_size S).toInt - 1).toNat))) k) ((vp_updL (a_codes S) (40) ((a_codes S) (((f_size S).toInt - 1).toNat))) k) ((vf_upd (a_reals S) (40) ((a_reals S) (((f_size S).toInt - 1).toNat))) k) := vOk_upd i_vals (i_vals (((f_size S).toInt - 1).toNat) (by omega))
    have fa1 : ((upd (a_kinds S) (40) ((a_kinds S) (((f_size S).toInt - 1).toNat))) 40).toInt = ((a_kinds S) (((f_size S).toInt - 1).toNat)).toInt := congrArg Int32.toInt upd_s
    have fa2 : ((vp_updL (a_codes S) (40) ((a_codes S) (((f_size S).toInt - 1).toNat))) 40).toInt = ((a_codes S) (((f_size S).toInt - 1).toNat)).toInt := congrArg Int64.toInt updL_s
    refine lv_aload_n hx hb d_Mo_begins_45 rfl (lv_at hl 3 rfl) ?_
    refine lv_dup hx hb d_Mo_begins_46 rfl ?_
    refine va_get (D := D) (ci := 11) (v := .int (f_size S)) (C := "PageScribeModel") (T := F_Mo) (N := 45) hx hb hts i_Mo hown hK hP 0 mW_0 cl_11 4 (by decide) (hts _ k_6_164) (fun _ h9 => h9) (mg_size _ _) d_Mo_begins_47 ?_
    refine lv_iconst (v := 1) hx hb d_Mo_begins_50 (by decide) ?_
    refine lv_isub hx hb d_Mo_begins_51 ?_
    refine j_eqi (y := x1) ex1.symm ?_
    refine va_put (D := D) (ci := 11) (v := .int x1) (ty := .int) (C := "PageScribeModel") (T := F_Mo) (N := 45) hx hb hts i_Mo t_Mo t_Mo_ok n_Mo hown hK hP hD hS 0 mW_0 cl_11 4 (by decide) (hts _ k_6_164) (fun _ h9 => h9) rfl (by decide +kernel) rfl rfl (Nat.le_of_ble_eq_true rfl) d_Mo_begins_52 (fun H locs hP hD hS => ?_)
    rw [mp_size] at hP hD
    have hP : va_P D classes (mW T h0 ar ((((f_thrown S), (upd (a_kinds S) (40) ((a_kinds S) (((f_size S).toInt - 1).toNat))), (vp_updL (a_codes S) (40) ((a_codes S) (((f_size S).toInt - 1).toNat))), (vf_upd (a_reals S) (40) ((a_reals S) (((f_size S).toInt - 1).toNat))), x1, (f_taken S), (a_words S), (a_many S)), S.2.1, S.2.2.1, S.2.2.2.1, S.2.2.2.2.1, S.2.2.2.2.2) : MS)) H := hP
    have hD : va_D A (mW T h0 ar ((((f_thrown S), (upd (a_kinds S) (40) ((a_kinds S) (((f_size S).toInt - 1).toNat))), (vp_updL (a_codes S) (40) ((a_codes S) (((f_size S).toInt - 1).toNat))), (vf_upd (a_reals S) (40) ((a_reals S) (((f_size S).toInt - 1).toNat))), x1, (f_taken S), (a_words S), (a_many S)), S.2.1, S.2.2.1, S.2.2.2.1, S.2.2.2.2.1, S.2.2.2.2.2) : MS)) := hD
    refine lv_aload_n hx hb d_Mo_begins_55 rfl (lv_at hl 3 rfl) ?_
    refine lv_bipush (v := 40) hx hb d_Mo_begins_56 (by decide) ?_
    have kv1 : vOk ((upd (a_kinds S) (40) ((a_kinds S) (((f_size S).toInt - 1).toNat))) 40) ((vp_updL (a_codes S) (40) ((a_codes S) (((f_size S).toInt - 1).toNat))) 40) ((vf_upd (a_reals S) (40) ((a_reals S) (((f_size S).toInt - 1).toNat))) 40) := i_vals 40 (by omega)
    have rkv1 := vk_rng kv1
    refine jm_ci (w := (fun _ => ((((f_thrown S), (upd (a_kinds S) (40) ((a_kinds S) (((f_size S).toInt - 1).toNat))), (vp_updL (a_codes S) (40) ((a_codes S) (((f_size S).toInt - 1).toNat))), (vf_upd (a_reals S) (40) ((a_reals S) (((f_size S).toInt - 1).toNat))), x1, (f_taken S), (a_words S), (a_many S)), S.2.1, S.2.2.1, S.2.2.2.1, S.2.2.2.2.1, S.2.2.2.2.2) : MS))) hK hP hD hS hA (va_runV (As := [.int 40]) (rest := []) F (m_isProcedure l D T h0 ar ((((f_thrown S), (upd (a_kinds S) (40) ((a_kinds S) (((f_size S).toInt - 1).toNat))), (vp_updL (a_codes S) (40) ((a_codes S) (((f_size S).toInt - 1).toNat))), (vf_upd (a_reals S) (40) ((a_reals S) (((f_size S).toInt - 1).toNat))), x1, (f_taken S), (a_words S), (a_many S)), S.2.1, S.2.2.1, S.2.2.2.1, S.2.2.2.2.1, S.2.2.2.2.2) : MS) (40 : Int32) H.size (show 0 ≤ (40 : Int32).toInt ∧ (40 : Int32).toInt < 1300 by have := tI_40; omega)) (j_cV (k := 1) (C := "PageScribeModel") hts k_7_170 k_1_12 k_7_167 k_7_169 k_0_101 (by decide +kernel) ⟨Nat.le_of_ble_eq_true rfl, Nat.le_of_ble_eq_true rfl⟩) (jm_pre hK hP hD) rfl rfl hl.1 rfl (lv_room (Nat.le_of_ble_eq_true rfl)) d_Mo_begins_58 ⟨Nat.le_of_ble_eq_true rfl, Nat.le_of_ble_eq_true rfl⟩) (fun rv2 u1 H locs hw2 hP hD hS => ?_)
    have hP : va_P D classes (mW T h0 ar ((((f_thrown S), (upd (a_kinds S) (40) ((a_kinds S) (((f_size S).toInt - 1).toNat))), (vp_updL (a_codes S) (40) ((a_codes S) (((f_size S).toInt - 1).toNat))), (vf_upd (a_reals S) (40) ((a_reals S) (((f_size S).toInt - 1).toNat))), x1, (f_taken S), (a_words S), (a_many S)), S.2.1, S.2.2.1, S.2.2.2.1, S.2.2.2.2.1, S.2.2.2.2.2) : MS)) H := hP
    have hD : va_D A (mW T h0 ar ((((f_thrown S), (upd (a_kinds S) (40) ((a_kinds S) (((f_size S).toInt - 1).toNat))), (vp_updL (a_codes S) (40) ((a_codes S) (((f_size S).toInt - 1).toNat))), (vf_upd (a_reals S) (40) ((a_reals S) (((f_size S).toInt - 1).toNat))), x1, (f_taken S), (a_words S), (a_many S)), S.2.1, S.2.2.1, S.2.2.2.1, S.2.2.2.2.1, S.2.2.2.2.2) : MS)) := hD
    have qhw2 : (rv2.toInt = 1 ∧ ((upd (a_kinds S) (40) ((a_kinds S) (((f_size S).toInt - 1).toNat))) 40).toInt = 13) ∨ (rv2.toInt = 0 ∧ ¬ ((upd (a_kinds S) (40) ((a_kinds S) (((f_size S).toInt - 1).toNat))) 40).toInt = 13) := by simpa only [fx1, tI_40, (show (40 : Int).toNat = 40 from rfl)] using hw2
    refine lv_if_eq (tgt := 72) hx hb d_Mo_begins_61 (by decide) (fun c61_1 => ?_) (fun c61_1 => ?_)
    · have fc61_1 : rv2.toInt = 0 := zt_eq (show rv2.toInt = _ from rfl) tI_0 c61_1
      refine lv_aload_n hx hb d_Mo_begins_72 rfl (lv_at hl 3 rfl) ?_
      refine jm_ci (w := (fun u => u)) hK hP hD hS hA (va_runV (As := []) (rest := []) F (m_again l D T h0 ar ((((f_thrown S), (upd (a_kinds S) (40) ((a_kinds S) (((f_size S).toInt - 1).toNat))), (vp_updL (a_codes S) (40) ((a_codes S) (((f_size S).toInt - 1).toNat))), (vf_upd (a_reals S) (40) ((a_reals S) (((f_size S).toInt - 1).toNat))), x1, (f_taken S), (a_words S), (a_many S)), S.2.1, S.2.2.1, S.2.2.2.1, S.2.2.2.2.1, S.2.2.2.2.2) : MS)  H.size ⟨(show 0 ≤ x1.toInt ∧ x1.toInt ≤ 40 by omega), i_taken, i_vals, i_room, i_dicts, i_deep, i_open, i_cells, i_points, i_part, i_length, i_knows, i_page, i_text, i_pats, i_fuel, i_fr, i_ink⟩) (j_cV (k := 0) (C := "PageScribeModel") hts k_8_63 k_1_12 k_8_60 k_8_62 k_0_130 (by decide +kernel) ⟨Nat.le_of_ble_eq_true rfl, Nat.le_of_ble_eq_true rfl⟩) (jm_pre hK hP hD) rfl rfl hl.1 rfl (lv_room (Nat.le_of_ble_eq_true rfl)) d_Mo_begins_73 ⟨Nat.le_of_ble_eq_true rfl, Nat.le_of_ble_eq_true rfl⟩) (fun rv3 S2 H locs hw3 hP hD hS => ?_)
      have hP : va_P D classes (mW T h0 ar S2) H := hP
      have hD : va_D A (mW T h0 ar S2) := hD
      obtain ⟨⟨i_size, i_taken, i_vals, i_room, i_dicts, i_deep, i_open, i_cells, i_points, i_part, i_length, i_knows, i_page, i_text, i_pats, i_fuel, i_fr, i_ink⟩, kpA_S2, qqhw3⟩ := hw3
      have kSA_S2 : kA S S2 := kA_t (show kA S ((((f_thrown S), (upd (a_kinds S) (40) ((a_kinds S) (((f_size S).toInt - 1).toNat))), (vp_updL (a_codes S) (40) ((a_codes S) (((f_size S).toInt - 1).toNat))), (vf_upd (a_reals S) (40) ((a_reals S) (((f_size S).toInt - 1).toNat))), x1, (f_taken S), (a_words S), (a_many S)), S.2.1, S.2.2.1, S.2.2.2.1, S.2.2.2.2.1, S.2.2.2.2.2) : MS) from (kA_r S)) kpA_S2
      have kST_S2 : kT S S2 := kT_t (show kT S ((((f_thrown S), (upd (a_kinds S) (40) ((a_kinds S) (((f_size S).toInt - 1).toNat))), (vp_updL (a_codes S) (40) ((a_codes S) (((f_size S).toInt - 1).toNat))), (vf_upd (a_reals S) (40) ((a_reals S) (((f_size S).toInt - 1).toNat))), x1, (f_taken S), (a_words S), (a_many S)), S.2.1, S.2.2.1, S.2.2.2.1, S.2.2.2.2.1, S.2.2.2.2.2) : MS) from (kT_r S)) (kT_A kpA_S2)
      have qhw3 : (rv3.toInt = -1 ∨ rv3.toInt = 12) ∧ (f_frames S).toInt ≤ (f_frames S2).toInt ∧ (f_frames S2).toInt ≤ (f_frames S).toInt + 1 ∧ (rv3.toInt = -1 → ((a_kinds S2) 40).toInt = 11 → 1 ≤ (f_frames S2).toInt ∧ ((a_what S2) ((f_frames S2).toInt - 1).toNat).toInt ≤ 2) := by simpa only [fx1] using qqhw3
      exact j_iret F hr hlocks hK hS S2 ⟨⟨i_size, i_taken, i_vals, i_room, i_dicts, i_deep, i_open, i_cells, i_points, i_part, i_length, i_knows, i_page, i_text, i_pats, i_fuel, i_fr, i_ink⟩, kSA_S2, (show -1 ≤ rv3.toInt ∧ rv3.toInt ≤ 16 ∧ (f_frames S2).toInt ≤ (f_frames S).toInt + 1 ∧ (rv3.toInt = -1 → ((a_kinds S2) 40).toInt = 11 → 1 ≤ (f_frames S2).toInt ∧ ((a_what S2) ((f_frames S2).toInt - 1).toNat).toInt ≤ 2) by refine ⟨by omega, by omega, by omega, ?_⟩; first | exact (fun q1 q2 => by omega) | assumption)⟩ hP hD d_Mo_begins_76
    · first | have fc61_1 : rv2.toInt < 0 := (by have := zt_ne (show rv2.toInt = _ from rfl) tI_0 c61_1; omega) | have fc61_1 : 0 < rv2.toInt := (by have := zt_ne (show rv2.toInt = _ from rfl) tI_0 c61_1; omega) | skip
      refine lv_aload_n hx hb d_Mo_begins_64 rfl (lv_at hl 3 rfl) ?_
      refine lv_lload_n hx hb d_Mo_begins_65 rfl (lv_at hl 1 rfl) ?_
      refine jm_ci (w := (fun u => u)) hK hP hD hS hA (va_runV (As := [.long x2]) (rest := []) F (m_runArray l D T h0 ar ((((f_thrown S), (upd (a_kinds S) (40) ((a_kinds S) (((f_size S).toInt - 1).toNat))), (vp_updL (a_codes S) (40) ((a_codes S) (((f_size S).toInt - 1).toNat))), (vf_upd (a_reals S) (40) ((a_reals S) (((f_size S).toInt - 1).toNat))), x1, (f_taken S), (a_words S), (a_many S)), S.2.1, S.2.2.1, S.2.2.2.1, S.2.2.2.2.1, S.2.2.2.2.2) : MS) x2 H.size ⟨(show 0 ≤ x1.toInt ∧ x1.toInt ≤ 40 by omega), i_taken, i_vals, i_room, i_dicts, i_deep, i_open, i_cells, i_points, i_part, i_length, i_knows, i_page, i_text, i_pats, i_fuel, i_fr, i_ink⟩ (by rw [gx2]; exact vk_ar8 kx2 (by omega))) (j_cV (k := 1) (C := "PageScribeModel") hts k_8_55 k_1_12 k_8_52 k_8_54 k_0_128 (by decide +kernel) ⟨Nat.le_of_ble_eq_true rfl, Nat.le_of_ble_eq_true rfl⟩) (jm_pre hK hP hD) rfl rfl hl.1 rfl (lv_room (Nat.le_of_ble_eq_true rfl)) d_Mo_begins_66 ⟨Nat.le_of_ble_eq_true rfl, Nat.le_of_ble_eq_true rfl⟩) (fun rv4 S3 H locs hw4 hP hD hS => ?_)
      have hP : va_P D classes (mW T h0 ar S3) H := hP
      have hD : va_D A (mW T h0 ar S3) := hD
      obtain ⟨⟨i_size, i_taken, i_vals, i_room, i_dicts, i_deep, i_open, i_cells, i_points, i_part, i_length, i_knows, i_page, i_text, i_pats, i_fuel, i_fr, i_ink⟩, kpA_S3, qqhw4⟩ := hw4
      have kSA_S3 : kA S S3 := kA_t (show kA S ((((f_thrown S), (upd (a_kinds S) (40) ((a_kinds S) (((f_size S).toInt - 1).toNat))), (vp_updL (a_codes S) (40) ((a_codes S) (((f_size S).toInt - 1).toNat))), (vf_upd (a_reals S) (40) ((a_reals S) (((f_size S).toInt - 1).toNat))), x1, (f_taken S), (a_words S), (a_many S)), S.2.1, S.2.2.1, S.2.2.2.1, S.2.2.2.2.1, S.2.2.2.2.2) : MS) from (kA_r S)) kpA_S3
      have kST_S3 : kT S S3 := kT_t (show kT S ((((f_thrown S), (upd (a_kinds S) (40) ((a_kinds S) (((f_size S).toInt - 1).toNat))), (vp_updL (a_codes S) (40) ((a_codes S) (((f_size S).toInt - 1).toNat))), (vf_upd (a_reals S) (40) ((a_reals S) (((f_size S).toInt - 1).toNat))), x1, (f_taken S), (a_words S), (a_many S)), S.2.1, S.2.2.1, S.2.2.2.1, S.2.2.2.2.1, S.2.2.2.2.2) : MS) from (kT_r S)) (kT_A kpA_S3)
      have qhw4 : (rv4.toInt = 0 ∧ (f_frames S3).toInt = (f_frames S).toInt + 1) ∨ (rv4.toInt = 12 ∧ (f_frames S3).toInt = (f_frames S).toInt) := by simpa only [fx1] using qqhw4
      refine lv_goto (tgt := 76) hx hb d_Mo_begins_69 (by decide) ?_
      exact j_iret F hr hlocks hK hS S3 ⟨⟨i_size, i_taken, i_vals, i_room, i_dicts, i_deep, i_open, i_cells, i_points, i_part, i_length, i_knows, i_page, i_text, i_pats, i_fuel, i_fr, i_ink⟩, kSA_S3, (show -1 ≤ rv4.toInt ∧ rv4.toInt ≤ 16 ∧ (f_frames S3).toInt ≤ (f_frames S).toInt + 1 ∧ (rv4.toInt = -1 → ((a_kinds S3) 40).toInt = 11 → 1 ≤ (f_frames S3).toInt ∧ ((a_what S3) ((f_frames S3).toInt - 1).toNat).toInt ≤ 2) by refine ⟨by omega, by omega, by omega, ?_⟩; first | exact (fun q1 q2 => by omega) | assumption)⟩ hP hD d_Mo_begins_76
  · refine lv_iload_n hx hb d_Mo_begins_14 rfl (lv_at hl 1 rfl) ?_
    refine lv_if_le (tgt := 29) hx hb d_Mo_begins_15 (by decide) (fun c15_1 => ?_) (fun c15_1 => ?_)
    · have fc15_1 : ((f_size S).toInt - 1) ≤ 0 := zt_le fx1 tI_0 c15_1
      refine lv_lconst (v := 0) hx hb d_Mo_begins_29 (by decide) ?_
      exact key1 (0 : Int64) _ _ _ ⟨trivial, hP, hD, hS, lv_sub hl [0, 1, 2, 3] rfl⟩
    · have fc15_1 : 0 < ((f_size S).toInt - 1) := Int.not_le.mp (zt_nle fx1 tI_0 c15_1)
      refine lv_aload_n hx hb d_Mo_begins_18 rfl (lv_at hl 2 rfl) ?_
      refine va_get (D := D) (ci := 11) (v := .ref (ar 1)) (C := "PageScribeModel") (T := F_Mo) (N := 45) hx hb hts i_Mo hown hK hP 0 mW_0 cl_11 2 (by decide) (hts _ k_6_162) (fun _ h9 => h9) (mg_codes _ _) d_Mo_begins_19 ?_
      refine lv_iload_n hx hb d_Mo_begins_22 rfl (lv_at hl 1 rfl) ?_
      refine lv_iconst (v := 1) hx hb d_Mo_begins_23 (by decide) ?_
      refine lv_isub hx hb d_Mo_begins_24 ?_
      refine lv_topi (fun x3 ex3 => ?_)
      have fx3 : x3.toInt = ((f_size S).toInt - 2) := by rw [ex3]; exact (zt_sub fx1 tI_1 (by omega) (by omega)).trans (by omega)
      refine va_lald hx hb hK hP 2 1 (ma_codes _ _ _ _) rfl (zt_in fx3 (by omega) (by omega)) d_Mo_begins_25 ?_
      refine lv_topl (fun x4 ex4 => ?_)
      have gx4 : x4 = (a_codes S) ((f_size S).toInt - 2).toNat := ex4.trans (congrArg _ (zt_ix fx3))
      have fx4 : x4.toInt = ((a_codes S) ((f_size S).toInt - 2).toNat).toInt := by rw [gx4]
      have kx4 : vOk ((a_kinds S) ((f_size S).toInt - 2).toNat) ((a_codes S) ((f_size S).toInt - 2).toNat) ((a_reals S) ((f_size S).toInt - 2).toNat) := i_vals (((f_size S).toInt - 2).toNat) (by omega)
      refine lv_goto (tgt := 30) hx hb d_Mo_begins_26 (by decide) ?_
      exact key1 (x4) _ _ _ ⟨trivial, hP, hD, hS, lv_sub hl [0, 1, 2, 3] rfl⟩
theorem d_Mo_begins_77 : decode prog_15_method_64_code 77 = .ok (.iload_n 1, 1) := by decide +kernel
theorem d_Mo_begins_78 : decode prog_15_method_64_code 78 = .ok (.bipush 54, 2) := by decide +kernel
theorem d_Mo_begins_80 : decode prog_15_method_64_code 80 = .ok (.if_icmp .ne 12, 3) := by decide +kernel
theorem d_Mo_begins_92 : decode prog_15_method_64_code 92 = .ok (.iload_n 1, 1) := by decide +kernel
theorem d_Mo_begins_93 : decode prog_15_method_64_code 93 = .ok (.bipush 51, 2) := by decide +kernel
theorem d_Mo_begins_95 : decode prog_15_method_64_code 95 = .ok (.if_icmp .ne 10, 3) := by decide +kernel
theorem d_Mo_begins_129 : decode prog_15_method_64_code 129 = .ok (.istore 7, 2) := by decide +kernel
theorem d_Mo_begins_131 : decode prog_15_method_64_code 131 = .ok (.aload_n 0, 1) := by decide +kernel
theorem k_6_180 : Cond.fieldLink "PageScribeModel" 52 "PageScribeModel" "value" "[J" ∈ gw := gw_of (tb_6 (List.mem_of_getElem? (i := 180) (by decide +kernel))) (by decide +kernel)
theorem d_Mo_begins_132 : decode prog_15_method_64_code 132 = .ok (.getfield 52, 3) := by decide +kernel
theorem d_Mo_begins_135 : decode prog_15_method_64_code 135 = .ok (.aload_n 0, 1) := by decide +kernel
theorem d_Mo_begins_136 : decode prog_15_method_64_code 136 = .ok (.getfield 346, 3) := by decide +kernel
theorem d_Mo_begins_139 : decode prog_15_method_64_code 139 = .ok (.iload_n 1, 1) := by decide +kernel
theorem d_Mo_begins_140 : decode prog_15_method_64_code 140 = .ok (.bipush 53, 2) := by decide +kernel
theorem d_Mo_begins_142 : decode prog_15_method_64_code 142 = .ok (.if_icmp .ne 14, 3) := by decide +kernel
theorem d_Mo_begins_156 : decode prog_15_method_64_code 156 = .ok (.lload 5, 2) := by decide +kernel
theorem d_Mo_begins_158 : decode prog_15_method_64_code 158 = .ok (.lastore, 1) := by decide +kernel
theorem d_Mo_begins_159 : decode prog_15_method_64_code 159 = .ok (.aload_n 0, 1) := by decide +kernel
theorem k_6_181 : Cond.fieldLink "PageScribeModel" 55 "PageScribeModel" "grows" "[J" ∈ gw := gw_of (tb_6 (List.mem_of_getElem? (i := 181) (by decide +kernel))) (by decide +kernel)
theorem d_Mo_begins_160 : decode prog_15_method_64_code 160 = .ok (.getfield 55, 3) := by decide +kernel
theorem d_Mo_begins_163 : decode prog_15_method_64_code 163 = .ok (.aload_n 0, 1) := by decide +kernel
theorem d_Mo_begins_164 : decode prog_15_method_64_code 164 = .ok (.getfield 346, 3) := by decide +kernel
theorem d_Mo_begins_167 : decode prog_15_method_64_code 167 = .ok (.iload_n 1, 1) := by decide +kernel
theorem d_Mo_begins_168 : decode prog_15_method_64_code 168 = .ok (.bipush 53, 2) := by decide +kernel
theorem d_Mo_begins_170 : decode prog_15_method_64_code 170 = .ok (.if_icmp .ne 14, 3) := by decide +kernel
theorem d_Mo_begins_184 : decode prog_15_method_64_code 184 = .ok (.lconst 0, 1) := by decide +kernel
theorem d_Mo_begins_185 : decode prog_15_method_64_code 185 = .ok (.lastore, 1) := by decide +kernel
theorem d_Mo_begins_186 : decode prog_15_method_64_code 186 = .ok (.aload_n 0, 1) := by decide +kernel
theorem d_Mo_begins_187 : decode prog_15_method_64_code 187 = .ok (.getfield 58, 3) := by decide +kernel
theorem d_Mo_begins_190 : decode prog_15_method_64_code 190 = .ok (.aload_n 0, 1) := by decide +kernel
theorem d_Mo_begins_191 : decode prog_15_method_64_code 191 = .ok (.getfield 346, 3) := by decide +kernel
theorem d_Mo_begins_194 : decode prog_15_method_64_code 194 = .ok (.lload 5, 2) := by decide +kernel
theorem d_Mo_begins_196 : decode prog_15_method_64_code 196 = .ok (.lastore, 1) := by decide +kernel
theorem d_Mo_begins_197 : decode prog_15_method_64_code 197 = .ok (.aload_n 0, 1) := by decide +kernel
theorem d_Mo_begins_198 : decode prog_15_method_64_code 198 = .ok (.dup, 1) := by decide +kernel
theorem d_Mo_begins_199 : decode prog_15_method_64_code 199 = .ok (.getfield 247, 3) := by decide +kernel
theorem d_Mo_begins_202 : decode prog_15_method_64_code 202 = .ok (.iload_n 1, 1) := by decide +kernel
theorem d_Mo_begins_203 : decode prog_15_method_64_code 203 = .ok (.bipush 53, 2) := by decide +kernel
theorem d_Mo_begins_205 : decode prog_15_method_64_code 205 = .ok (.if_icmp .ne 7, 3) := by decide +kernel
theorem d_Mo_begins_212 : decode prog_15_method_64_code 212 = .ok (.iload_n 1, 1) := by decide +kernel
theorem d_Mo_begins_213 : decode prog_15_method_64_code 213 = .ok (.bipush 52, 2) := by decide +kernel
theorem d_Mo_begins_215 : decode prog_15_method_64_code 215 = .ok (.if_icmp .ne 7, 3) := by decide +kernel
theorem d_Mo_begins_222 : decode prog_15_method_64_code 222 = .ok (.iload_n 1, 1) := by decide +kernel
theorem d_Mo_begins_223 : decode prog_15_method_64_code 223 = .ok (.bipush 55, 2) := by decide +kernel
theorem d_Mo_begins_225 : decode prog_15_method_64_code 225 = .ok (.if_icmp .ne 7, 3) := by decide +kernel
theorem d_Mo_begins_232 : decode prog_15_method_64_code 232 = .ok (.iconst 2, 1) := by decide +kernel
theorem d_Mo_begins_233 : decode prog_15_method_64_code 233 = .ok (.isub, 1) := by decide +kernel
theorem d_Mo_begins_234 : decode prog_15_method_64_code 234 = .ok (.putfield 247, 3) := by decide +kernel
theorem d_Mo_begins_237 : decode prog_15_method_64_code 237 = .ok (.iload_n 1, 1) := by decide +kernel
theorem d_Mo_begins_238 : decode prog_15_method_64_code 238 = .ok (.bipush 51, 2) := by decide +kernel
theorem d_Mo_begins_240 : decode prog_15_method_64_code 240 = .ok (.if_icmp .ne 18, 3) := by decide +kernel
theorem d_Mo_begins_243 : decode prog_15_method_64_code 243 = .ok (.iload 7, 2) := by decide +kernel
theorem d_Mo_begins_245 : decode prog_15_method_64_code 245 = .ok (.ifCond .eq 11, 3) := by decide +kernel
theorem d_Mo_begins_256 : decode prog_15_method_64_code 256 = .ok (.iconst 0, 1) := by decide +kernel
theorem d_Mo_begins_257 : decode prog_15_method_64_code 257 = .ok (.ireturn, 1) := by decide +kernel
theorem d_Mo_begins_248 : decode prog_15_method_64_code 248 = .ok (.aload_n 0, 1) := by decide +kernel
theorem d_Mo_begins_249 : decode prog_15_method_64_code 249 = .ok (.lload_n 3, 1) := by decide +kernel
theorem d_Mo_begins_250 : decode prog_15_method_64_code 250 = .ok (.invokevirtual 382, 3) := by decide +kernel
theorem d_Mo_begins_253 : decode prog_15_method_64_code 253 = .ok (.goto 4, 3) := by decide +kernel
theorem d_Mo_begins_98 : decode prog_15_method_64_code 98 = .ok (.lload 5, 2) := by decide +kernel
theorem d_Mo_begins_100 : decode prog_15_method_64_code 100 = .ok (.lconst 1, 1) := by decide +kernel
theorem d_Mo_begins_101 : decode prog_15_method_64_code 101 = .ok (.lcmp, 1) := by decide +kernel
theorem d_Mo_begins_102 : decode prog_15_method_64_code 102 = .ok (.ifCond .eq 22, 3) := by decide +kernel
theorem d_Mo_begins_124 : decode prog_15_method_64_code 124 = .ok (.iconst 1, 1) := by decide +kernel
theorem d_Mo_begins_125 : decode prog_15_method_64_code 125 = .ok (.goto 4, 3) := by decide +kernel
theorem d_Mo_begins_105 : decode prog_15_method_64_code 105 = .ok (.iload_n 1, 1) := by decide +kernel
theorem d_Mo_begins_106 : decode prog_15_method_64_code 106 = .ok (.bipush 52, 2) := by decide +kernel
theorem d_Mo_begins_108 : decode prog_15_method_64_code 108 = .ok (.if_icmp .ne 20, 3) := by decide +kernel
theorem d_Mo_begins_128 : decode prog_15_method_64_code 128 = .ok (.iconst 0, 1) := by decide +kernel
set_option maxHeartbeats 4000000 in
set_option maxRecDepth 100000 in
theorem m_begins_51 (l : Launch) (D : va_G) (T : Nat → ClassId) (h0 : Nat) (ar : Nat → Nat) (S : MS)  (sz : Nat) (hI : MI S) (h1 : 2 ≤ (f_size S).toInt ∧ ((a_kinds S) ((f_size S).toInt - 1).toNat).toInt = 13) : Met l ⟨"PageScribeModel", "begins", "(I)I"⟩ (wy ⟨"PageScribeModel", "begins", "(I)I"⟩ prog_15_method_64_code 8 (some .int)) ({ frames := 2, cells := 0, slots := 0, locals := 140 }) (va_Pc [.ref h0, .int 51] (Pw D T (mW T h0 ar S) sz E0)) (va_Qi (fun (r : Int32) (u : MS) => MI u ∧ kA S u ∧ (-1 ≤ r.toInt ∧ r.toInt ≤ 16 ∧ (f_frames u).toInt ≤ (f_frames S).toInt + 1 ∧ (r.toInt = -1 → ((a_kinds u) 40).toInt = 11 → 1 ≤ (f_frames u).toInt ∧ ((a_what u) ((f_frames u).toInt - 1).toNat).toInt ≤ 2))) (fun u t => Bw D T (va_A (mW T h0 ar S) sz) (mW T h0 ar u) t) (va_A (mW T h0 ar S) sz)) 0 0 (va_A (mW T h0 ar S) sz) := by
  refine j_met (y := ⟨"PageScribeModel", "begins", "(I)I"⟩) (b := prog_15_method_64_code) (n := 8) (ret := (some .int)) (av := [.ref h0, .int 51]) (Qc := fun A => va_Qi (fun (r : Int32) (u : MS) => MI u ∧ kA S u ∧ (-1 ≤ r.toInt ∧ r.toInt ≤ 16 ∧ (f_frames u).toInt ≤ (f_frames S).toInt + 1 ∧ (r.toInt = -1 → ((a_kinds u) 40).toInt = 11 → 1 ≤ (f_frames u).toInt ∧ ((a_what u) ((f_frames u).toInt - 1).toNat).toInt ≤ 2))) (fun u t => Bw D T A (mW T h0 ar u) t) A) (by decide +kernel) (Nat.le_of_ble_eq_true rfl) (fun p e s m args below meth c A ls F hr hlocks hnm hK hP hD hS hA hN hE hl => ?_)
  obtain ⟨hx, hb, hml, hown, hts⟩ := id F
  have hl : lv_has ls 8 [(0, .ref h0), (1, .int 51)] := hl
  obtain ⟨i_size, i_taken, i_vals, i_room, i_dicts, i_deep, i_open, i_cells, i_points, i_part, i_length, i_knows, i_page, i_text, i_pats, i_fuel, i_fr, i_ink⟩ := id hI
  refine lv_aload_n hx hb d_Mo_begins_0 rfl (lv_at hl 0 rfl) ?_
  refine va_get (D := D) (ci := 11) (v := .int (f_size S)) (C := "PageScribeModel") (T := F_Mo) (N := 45) hx hb hts i_Mo hown hK hP 0 mW_0 cl_11 4 (by decide) (hts _ k_6_164) (fun _ h9 => h9) (mg_size _ _) d_Mo_begins_1 ?_
  refine lv_iconst (v := 1) hx hb d_Mo_begins_4 (by decide) ?_
  refine lv_isub hx hb d_Mo_begins_5 ?_
  refine lv_topi (fun x1 ex1 => ?_)
  have fx1 : x1.toInt = ((f_size S).toInt - 1) := by rw [ex1]; exact (zt_sub (show (f_size S).toInt = _ from rfl) tI_1 (by omega) (by omega)).trans (by omega)
  refine lv_istore_n (lv' := [(2, .int x1), (0, .ref h0), (1, .int 51)]) hx hb d_Mo_begins_6 rfl hl (by decide) rfl (fun ls hl => ?_)
  refine lv_aload_n hx hb d_Mo_begins_7 rfl (lv_at hl 1 rfl) ?_
  refine va_get (D := D) (ci := 11) (v := .ref (ar 1)) (C := "PageScribeModel") (T := F_Mo) (N := 45) hx hb hts i_Mo hown hK hP 0 mW_0 cl_11 2 (by decide) (hts _ k_6_162) (fun _ h9 => h9) (mg_codes _ _) d_Mo_begins_8 ?_
  refine lv_iload_n hx hb d_Mo_begins_11 rfl (lv_at hl 0 rfl) ?_
  refine va_lald hx hb hK hP 2 1 (ma_codes _ _ _ _) rfl (zt_in fx1 (by omega) (by omega)) d_Mo_begins_12 ?_
  refine lv_topl (fun x2 ex2 => ?_)
  have gx2 : x2 = (a_codes S) ((f_size S).toInt - 1).toNat := ex2.trans (congrArg _ (zt_ix fx1))
  have fx2 : x2.toInt = ((a_codes S) ((f_size S).toInt - 1).toNat).toInt := by rw [gx2]
  have kx2 : vOk ((a_kinds S) ((f_size S).toInt - 1).toNat) ((a_codes S) ((f_size S).toInt - 1).toNat) ((a_reals S) ((f_size S).toInt - 1).toNat) := i_vals (((f_size S).toInt - 1).toNat) (by omega)
  have tpx2 : cOk x2 := by rw [gx2]; exact vk_ar8 kx2 (by omega)
  refine lv_lstore_n (lv' := [(3, .long x2), (2, .int x1), (0, .ref h0), (1, .int 51)]) hx hb d_Mo_begins_13 rfl hl (by decide) rfl (fun ls hl => ?_)
  refine lv_iload_n hx hb d_Mo_begins_14 rfl (lv_at hl 1 rfl) ?_
  refine lv_if_le (tgt := 29) hx hb d_Mo_begins_15 (by decide) (fun c15_1 => ?_) (fun c15_1 => ?_)
  · have fc15_1 : ((f_size S).toInt - 1) ≤ 0 := zt_le fx1 tI_0 c15_1
    exfalso; omega
  · have fc15_1 : 0 < ((f_size S).toInt - 1) := Int.not_le.mp (zt_nle fx1 tI_0 c15_1)
    refine lv_aload_n hx hb d_Mo_begins_18 rfl (lv_at hl 2 rfl) ?_
    refine va_get (D := D) (ci := 11) (v := .ref (ar 1)) (C := "PageScribeModel") (T := F_Mo) (N := 45) hx hb hts i_Mo hown hK hP 0 mW_0 cl_11 2 (by decide) (hts _ k_6_162) (fun _ h9 => h9) (mg_codes _ _) d_Mo_begins_19 ?_
    refine lv_iload_n hx hb d_Mo_begins_22 rfl (lv_at hl 1 rfl) ?_
    refine lv_iconst (v := 1) hx hb d_Mo_begins_23 (by decide) ?_
    refine lv_isub hx hb d_Mo_begins_24 ?_
    refine lv_topi (fun x3 ex3 => ?_)
    have fx3 : x3.toInt = ((f_size S).toInt - 2) := by rw [ex3]; exact (zt_sub fx1 tI_1 (by omega) (by omega)).trans (by omega)
    refine va_lald hx hb hK hP 2 1 (ma_codes _ _ _ _) rfl (zt_in fx3 (by omega) (by omega)) d_Mo_begins_25 ?_
    refine lv_topl (fun x4 ex4 => ?_)
    have gx4 : x4 = (a_codes S) ((f_size S).toInt - 2).toNat := ex4.trans (congrArg _ (zt_ix fx3))
    have fx4 : x4.toInt = ((a_codes S) ((f_size S).toInt - 2).toNat).toInt := by rw [gx4]
    have kx4 : vOk ((a_kinds S) ((f_size S).toInt - 2).toNat) ((a_codes S) ((f_size S).toInt - 2).toNat) ((a_reals S) ((f_size S).toInt - 2).toNat) := i_vals (((f_size S).toInt - 2).toNat) (by omega)
    refine lv_goto (tgt := 30) hx hb d_Mo_begins_26 (by decide) ?_
    refine lv_lstore (lv' := [(5, .long x4), (3, .long x2), (2, .int x1), (0, .ref h0), (1, .int 51)]) hx hb d_Mo_begins_30 hl (by decide) rfl (fun ls hl => ?_)
    refine lv_iload_n hx hb d_Mo_begins_32 rfl (lv_at hl 4 rfl) ?_
    refine lv_bipush (v := 50) hx hb d_Mo_begins_33 (by decide) ?_
    refine lv_icmp_ne (tgt := 77) hx hb d_Mo_begins_35 (by decide) (fun _ => ?_) (fun c9 => absurd c9 (by decide +kernel))
    refine lv_iload_n hx hb d_Mo_begins_77 rfl (lv_at hl 4 rfl) ?_
    refine lv_bipush (v := 54) hx hb d_Mo_begins_78 (by decide) ?_
    refine lv_icmp_ne (tgt := 92) hx hb d_Mo_begins_80 (by decide) (fun _ => ?_) (fun c9 => absurd c9 (by decide +kernel))
    refine lv_iload_n hx hb d_Mo_begins_92 rfl (lv_at hl 4 rfl) ?_
    refine lv_bipush (v := 51) hx hb d_Mo_begins_93 (by decide) ?_
    refine lv_icmp_ne (tgt := 105) hx hb d_Mo_begins_95 (by decide) (fun c9 => absurd c9 (by decide +kernel)) (fun _ => ?_)
    refine j_joinH (α := Int32) (fun x H locs ls => (x.toInt = 0 ∨ x.toInt = 1) ∧ va_P D classes (mW T h0 ar S) H ∧ va_D A (mW T h0 ar S) ∧ va_S A s.heap H locs ∧ lv_has ls 8 [(5, .long x4), (3, .long x2), (2, .int x1), (0, .ref h0), (1, .int 51)]) (fun x ls => F0 m 129 ls (.int x :: [])) (fun x H locs ls hI9 => ?_) (fun key1 => ?_)
    · obtain ⟨j1, rfl⟩ : ∃ z, z = x := ⟨_, rfl⟩
      obtain ⟨hj1, hP, hD, hS, hl⟩ := hI9
      have hj1 : j1.toInt = 0 ∨ j1.toInt = 1 := hj1
      have hP : va_P D classes (mW T h0 ar S) H := hP
      have hD : va_D A (mW T h0 ar S) := hD
      have hl : lv_has ls 8 [(5, .long x4), (3, .long x2), (2, .int x1), (0, .ref h0), (1, .int 51)] := hl
      refine lv_istore (lv' := [(7, .int j1), (5, .long x4), (3, .long x2), (2, .int x1), (0, .ref h0), (1, .int 51)]) hx hb d_Mo_begins_129 hl (by decide) rfl (fun ls hl => ?_)
      refine lv_aload_n hx hb d_Mo_begins_131 rfl (lv_at hl 4 rfl) ?_
      refine va_get (D := D) (ci := 11) (v := .ref (ar 12)) (C := "PageScribeModel") (T := F_Mo) (N := 45) hx hb hts i_Mo hown hK hP 0 mW_0 cl_11 20 (by decide) (hts _ k_6_180) (fun _ h9 => h9) (mg_value _ _) d_Mo_begins_132 ?_
      refine lv_aload_n hx hb d_Mo_begins_135 rfl (lv_at hl 4 rfl) ?_
      refine va_get (D := D) (ci := 11) (v := .int (f_frames S)) (C := "PageScribeModel") (T := F_Mo) (N := 45) hx hb hts i_Mo hown hK hP 0 mW_0 cl_11 15 (by decide) (hts _ k_6_175) (fun _ h9 => h9) (mg_frames _ _) d_Mo_begins_136 ?_
      refine lv_iload_n hx hb d_Mo_begins_139 rfl (lv_at hl 5 rfl) ?_
      refine lv_bipush (v := 53) hx hb d_Mo_begins_140 (by decide) ?_
      refine lv_icmp_ne (tgt := 156) hx hb d_Mo_begins_142 (by decide) (fun _ => ?_) (fun c9 => absurd c9 (by decide +kernel))
      refine lv_lload hx hb d_Mo_begins_156 (lv_at hl 1 rfl) ?_
      refine va_last hx hb hK hP hD hS 13 1 (ma_value _ _ _ _) rfl (zt_in (show (f_frames S).toInt = _ from rfl) (by omega) (by omega)) d_Mo_begins_158 (fun H locs hP hD hS => ?_)
      rw [ms_value] at hP hD
      rw [zt_ix (show (f_frames S).toInt = _ from rfl)] at hP hD
      have hP : va_P D classes (mW T h0 ar ((S.1, S.2.1, ((f_under S), (a_what S), (a_array S), (a_far S), (vp_updL (a_value S) ((f_frames S).toInt.toNat) x4), (a_grows S), (a_last S), (a_text S)), S.2.2.2.1, S.2.2.2.2.1, S.2.2.2.2.2) : MS)) H := hP
      have hD : va_D A (mW T h0 ar ((S.1, S.2.1, ((f_under S), (a_what S), (a_array S), (a_far S), (vp_updL (a_value S) ((f_frames S).toInt.toNat) x4), (a_grows S), (a_last S), (a_text S)), S.2.2.2.1, S.2.2.2.2.1, S.2.2.2.2.2) : MS)) := hD
      refine lv_aload_n hx hb d_Mo_begins_159 rfl (lv_at hl 4 rfl) ?_
      refine va_get (D := D) (ci := 11) (v := .ref (ar 13)) (C := "PageScribeModel") (T := F_Mo) (N := 45) hx hb hts i_Mo hown hK hP 0 mW_0 cl_11 21 (by decide) (hts _ k_6_181) (fun _ h9 => h9) (mg_grows _ _) d_Mo_begins_160 ?_
      refine lv_aload_n hx hb d_Mo_begins_163 rfl (lv_at hl 4 rfl) ?_
      refine va_get (D := D) (ci := 11) (v := .int (f_frames S)) (C := "PageScribeModel") (T := F_Mo) (N := 45) hx hb hts i_Mo hown hK hP 0 mW_0 cl_11 15 (by decide) (hts _ k_6_175) (fun _ h9 => h9) (mg_frames _ _) d_Mo_begins_164 ?_
      refine lv_iload_n hx hb d_Mo_begins_167 rfl (lv_at hl 5 rfl) ?_
      refine lv_bipush (v := 53) hx hb d_Mo_begins_168 (by decide) ?_
      refine lv_icmp_ne (tgt := 184) hx hb d_Mo_begins_170 (by decide) (fun _ => ?_) (fun c9 => absurd c9 (by decide +kernel))
      refine lv_lconst (v := 0) hx hb d_Mo_begins_184 (by decide) ?_
      refine va_last hx hb hK hP hD hS 14 1 (ma_grows _ _ _ _) rfl (zt_in (show (f_frames S).toInt = _ from rfl) (by omega) (by omega)) d_Mo_begins_185 (fun H locs hP hD hS => ?_)
      rw [ms_grows] at hP hD
      rw [zt_ix (show (f_frames S).toInt = _ from rfl)] at hP hD
      have hP : va_P D classes (mW T h0 ar ((S.1, S.2.1, ((f_under S), (a_what S), (a_array S), (a_far S), (vp_updL (a_value S) ((f_frames S).toInt.toNat) x4), (vp_updL (a_grows S) ((f_frames S).toInt.toNat) (0 : Int64)), (a_last S), (a_text S)), S.2.2.2.1, S.2.2.2.2.1, S.2.2.2.2.2) : MS)) H := hP
      have hD : va_D A (mW T h0 ar ((S.1, S.2.1, ((f_under S), (a_what S), (a_array S), (a_far S), (vp_updL (a_value S) ((f_frames S).toInt.toNat) x4), (vp_updL (a_grows S) ((f_frames S).toInt.toNat) (0 : Int64)), (a_last S), (a_text S)), S.2.2.2.1, S.2.2.2.2.1, S.2.2.2.2.2) : MS)) := hD
      refine lv_aload_n hx hb d_Mo_begins_186 rfl (lv_at hl 4 rfl) ?_
      refine va_get (D := D) (ci := 11) (v := .ref (ar 14)) (C := "PageScribeModel") (T := F_Mo) (N := 45) hx hb hts i_Mo hown hK hP 0 mW_0 cl_11 22 (by decide) (hts _ k_6_182) (fun _ h9 => h9) (mg_last _ _) d_Mo_begins_187 ?_
      refine lv_aload_n hx hb d_Mo_begins_190 rfl (lv_at hl 4 rfl) ?_
      refine va_get (D := D) (ci := 11) (v := .int (f_frames S)) (C := "PageScribeModel") (T := F_Mo) (N := 45) hx hb hts i_Mo hown hK hP 0 mW_0 cl_11 15 (by decide) (hts _ k_6_175) (fun _ h9 => h9) (mg_frames _ _) d_Mo_begins_191 ?_
      refine lv_lload hx hb d_Mo_begins_194 (lv_at hl 1 rfl) ?_
      refine va_last hx hb hK hP hD hS 15 1 (ma_last _ _ _ _) rfl (zt_in (show (f_frames S).toInt = _ from rfl) (by omega) (by omega)) d_Mo_begins_196 (fun H locs hP hD hS => ?_)
      rw [ms_last] at hP hD
      rw [zt_ix (show (f_frames S).toInt = _ from rfl)] at hP hD
      have hP : va_P D classes (mW T h0 ar ((S.1, S.2.1, ((f_under S), (a_what S), (a_array S), (a_far S), (vp_updL (a_value S) ((f_frames S).toInt.toNat) x4), (vp_updL (a_grows S) ((f_frames S).toInt.toNat) (0 : Int64)), (vp_updL (a_last S) ((f_frames S).toInt.toNat) x4), (a_text S)), S.2.2.2.1, S.2.2.2.2.1, S.2.2.2.2.2) : MS)) H := hP
      have hD : va_D A (mW T h0 ar ((S.1, S.2.1, ((f_under S), (a_what S), (a_array S), (a_far S), (vp_updL (a_value S) ((f_frames S).toInt.toNat) x4), (vp_updL (a_grows S) ((f_frames S).toInt.toNat) (0 : Int64)), (vp_updL (a_last S) ((f_frames S).toInt.toNat) x4), (a_text S)), S.2.2.2.1, S.2.2.2.2.1, S.2.2.2.2.2) : MS)) := hD
      refine lv_aload_n hx hb d_Mo_begins_197 rfl (lv_at hl 4 rfl) ?_
      refine lv_dup hx hb d_Mo_begins_198 rfl ?_
      refine va_get (D := D) (ci := 11) (v := .int (f_size S)) (C := "PageScribeModel") (T := F_Mo) (N := 45) hx hb hts i_Mo hown hK hP 0 mW_0 cl_11 4 (by decide) (hts _ k_6_164) (fun _ h9 => h9) (mg_size _ _) d_Mo_begins_199 ?_
      refine lv_iload_n hx hb d_Mo_begins_202 rfl (lv_at hl 5 rfl) ?_
      refine lv_bipush (v := 53) hx hb d_Mo_begins_203 (by decide) ?_
      refine lv_icmp_ne (tgt := 212) hx hb d_Mo_begins_205 (by decide) (fun _ => ?_) (fun c9 => absurd c9 (by decide +kernel))
      refine lv_iload_n hx hb d_Mo_begins_212 rfl (lv_at hl 5 rfl) ?_
      refine lv_bipush (v := 52) hx hb d_Mo_begins_213 (by decide) ?_
      refine lv_icmp_ne (tgt := 222) hx hb d_Mo_begins_215 (by decide) (fun _ => ?_) (fun c9 => absurd c9 (by decide +kernel))
      refine lv_iload_n hx hb d_Mo_begins_222 rfl (lv_at hl 5 rfl) ?_
      refine lv_bipush (v := 55) hx hb d_Mo_begins_223 (by decide) ?_
      refine lv_icmp_ne (tgt := 232) hx hb d_Mo_begins_225 (by decide) (fun _ => ?_) (fun c9 => absurd c9 (by decide +kernel))
      refine lv_iconst (v := 2) hx hb d_Mo_begins_232 (by decide) ?_
      refine lv_isub hx hb d_Mo_begins_233 ?_
      refine lv_topi (fun x5 ex5 => ?_)
      have fx5 : x5.toInt = ((f_size S).toInt - 2) := by rw [ex5]; exact (zt_sub (show (f_size S).toInt = _ from rfl) tI_2 (by omega) (by omega)).trans (by omega)
      refine va_put (D := D) (ci := 11) (v := .int x5) (ty := .int) (C := "PageScribeModel") (T := F_Mo) (N := 45) hx hb hts i_Mo t_Mo t_Mo_ok n_Mo hown hK hP hD hS 0 mW_0 cl_11 4 (by decide) (hts _ k_6_164) (fun _ h9 => h9) rfl (by decide +kernel) rfl rfl (Nat.le_of_ble_eq_true rfl) d_Mo_begins_234 (fun H locs hP hD hS => ?_)
      rw [mp_size] at hP hD
      have hP : va_P D classes (mW T h0 ar ((((f_thrown S), (a_kinds S), (a_codes S), (a_reals S), x5, (f_taken S), (a_words S), (a_many S)), S.2.1, ((f_under S), (a_what S), (a_array S), (a_far S), (vp_updL (a_value S) ((f_frames S).toInt.toNat) x4), (vp_updL (a_grows S) ((f_frames S).toInt.toNat) (0 : Int64)), (vp_updL (a_last S) ((f_frames S).toInt.toNat) x4), (a_text S)), S.2.2.2.1, S.2.2.2.2.1, S.2.2.2.2.2) : MS)) H := hP
      have hD : va_D A (mW T h0 ar ((((f_thrown S), (a_kinds S), (a_codes S), (a_reals S), x5, (f_taken S), (a_words S), (a_many S)), S.2.1, ((f_under S), (a_what S), (a_array S), (a_far S), (vp_updL (a_value S) ((f_frames S).toInt.toNat) x4), (vp_updL (a_grows S) ((f_frames S).toInt.toNat) (0 : Int64)), (vp_updL (a_last S) ((f_frames S).toInt.toNat) x4), (a_text S)), S.2.2.2.1, S.2.2.2.2.1, S.2.2.2.2.2) : MS)) := hD
      refine lv_iload_n hx hb d_Mo_begins_237 rfl (lv_at hl 5 rfl) ?_
      refine lv_bipush (v := 51) hx hb d_Mo_begins_238 (by decide) ?_
      refine lv_icmp_ne (tgt := 258) hx hb d_Mo_begins_240 (by decide) (fun c9 => absurd c9 (by decide +kernel)) (fun _ => ?_)
      refine lv_iload hx hb d_Mo_begins_243 (lv_at hl 0 rfl) ?_
      refine lv_if_eq (tgt := 256) hx hb d_Mo_begins_245 (by decide) (fun c245_1 => ?_) (fun c245_1 => ?_)
      · have fc245_1 : j1.toInt = 0 := zt_eq (show j1.toInt = _ from rfl) tI_0 c245_1
        refine lv_iconst (v := 0) hx hb d_Mo_begins_256 (by decide) ?_
        exact j_iret F hr hlocks hK hS ((((f_thrown S), (a_kinds S), (a_codes S), (a_reals S), x5, (f_taken S), (a_words S), (a_many S)), S.2.1, ((f_under S), (a_what S), (a_array S), (a_far S), (vp_updL (a_value S) ((f_frames S).toInt.toNat) x4), (vp_updL (a_grows S) ((f_frames S).toInt.toNat) (0 : Int64)), (vp_updL (a_last S) ((f_frames S).toInt.toNat) x4), (a_text S)), S.2.2.2.1, S.2.2.2.2.1, S.2.2.2.2.2) : MS) ⟨⟨(show 0 ≤ x5.toInt ∧ x5.toInt ≤ 40 by omega), i_taken, i_vals, i_room, i_dicts, i_deep, i_open, i_cells, i_points, i_part, i_length, i_knows, i_page, i_text, i_pats, i_fuel, (fr_above i_fr (fun k hk => ⟨updL_n hk, updL_n hk, updL_n hk⟩)), i_ink⟩, (kA_r S), (show -1 ≤ (0 : Int32).toInt ∧ (0 : Int32).toInt ≤ 16 ∧ (f_frames S).toInt ≤ (f_frames S).toInt + 1 ∧ ((0 : Int32).toInt = -1 → ((a_kinds S) 40).toInt = 11 → 1 ≤ (f_frames S).toInt ∧ ((a_what S) ((f_frames S).toInt - 1).toNat).toInt ≤ 2) by have := tI_0; refine ⟨by omega, by omega, by omega, ?_⟩; first | exact (fun q1 q2 => by omega) | assumption)⟩ hP hD d_Mo_begins_257
      · first | have fc245_1 : j1.toInt < 0 := (by have := zt_ne (show j1.toInt = _ from rfl) tI_0 c245_1; omega) | have fc245_1 : 0 < j1.toInt := (by have := zt_ne (show j1.toInt = _ from rfl) tI_0 c245_1; omega) | skip
        refine lv_aload_n hx hb d_Mo_begins_248 rfl (lv_at hl 4 rfl) ?_
        refine lv_lload_n hx hb d_Mo_begins_249 rfl (lv_at hl 2 rfl) ?_
        refine jm_ci (w := (fun u => u)) hK hP hD hS hA (va_runV (As := [.long x2]) (rest := []) F (m_runArray l D T h0 ar ((((f_thrown S), (a_kinds S), (a_codes S), (a_reals S), x5, (f_taken S), (a_words S), (a_many S)), S.2.1, ((f_under S), (a_what S), (a_array S), (a_far S), (vp_updL (a_value S) ((f_frames S).toInt.toNat) x4), (vp_updL (a_grows S) ((f_frames S).toInt.toNat) (0 : Int64)), (vp_updL (a_last S) ((f_frames S).toInt.toNat) x4), (a_text S)), S.2.2.2.1, S.2.2.2.2.1, S.2.2.2.2.2) : MS) x2 H.size ⟨(show 0 ≤ x5.toInt ∧ x5.toInt ≤ 40 by omega), i_taken, i_vals, i_room, i_dicts, i_deep, i_open, i_cells, i_points, i_part, i_length, i_knows, i_page, i_text, i_pats, i_fuel, (fr_above i_fr (fun k hk => ⟨updL_n hk, updL_n hk, updL_n hk⟩)), i_ink⟩ (show cOk x2 by omega)) (j_cV (k := 1) (C := "PageScribeModel") hts k_8_55 k_1_12 k_8_52 k_8_54 k_0_128 (by decide +kernel) ⟨Nat.le_of_ble_eq_true rfl, Nat.le_of_ble_eq_true rfl⟩) (jm_pre hK hP hD) rfl rfl hl.1 rfl (lv_room (Nat.le_of_ble_eq_true rfl)) d_Mo_begins_250 ⟨Nat.le_of_ble_eq_true rfl, Nat.le_of_ble_eq_true rfl⟩) (fun rv1 S1 H locs hw1 hP hD hS => ?_)
        have hP : va_P D classes (mW T h0 ar S1) H := hP
        have hD : va_D A (mW T h0 ar S1) := hD
        obtain ⟨⟨i_size, i_taken, i_vals, i_room, i_dicts, i_deep, i_open, i_cells, i_points, i_part, i_length, i_knows, i_page, i_text, i_pats, i_fuel, i_fr, i_ink⟩, kpA_S1, qqhw1⟩ := hw1
        have kSA_S1 : kA S S1 := kA_t (show kA S ((((f_thrown S), (a_kinds S), (a_codes S), (a_reals S), x5, (f_taken S), (a_words S), (a_many S)), S.2.1, ((f_under S), (a_what S), (a_array S), (a_far S), (vp_updL (a_value S) ((f_frames S).toInt.toNat) x4), (vp_updL (a_grows S) ((f_frames S).toInt.toNat) (0 : Int64)), (vp_updL (a_last S) ((f_frames S).toInt.toNat) x4), (a_text S)), S.2.2.2.1, S.2.2.2.2.1, S.2.2.2.2.2) : MS) from (kA_r S)) kpA_S1
        have kST_S1 : kT S S1 := kT_t (show kT S ((((f_thrown S), (a_kinds S), (a_codes S), (a_reals S), x5, (f_taken S), (a_words S), (a_many S)), S.2.1, ((f_under S), (a_what S), (a_array S), (a_far S), (vp_updL (a_value S) ((f_frames S).toInt.toNat) x4), (vp_updL (a_grows S) ((f_frames S).toInt.toNat) (0 : Int64)), (vp_updL (a_last S) ((f_frames S).toInt.toNat) x4), (a_text S)), S.2.2.2.1, S.2.2.2.2.1, S.2.2.2.2.2) : MS) from (kT_r S)) (kT_A kpA_S1)
        have qhw1 : (rv1.toInt = 0 ∧ (f_frames S1).toInt = (f_frames S).toInt + 1) ∨ (rv1.toInt = 12 ∧ (f_frames S1).toInt = (f_frames S).toInt) := by simpa only [fx5] using qqhw1
        refine lv_goto (tgt := 257) hx hb d_Mo_begins_253 (by decide) ?_
        exact j_iret F hr hlocks hK hS S1 ⟨⟨i_size, i_taken, i_vals, i_room, i_dicts, i_deep, i_open, i_cells, i_points, i_part, i_length, i_knows, i_page, i_text, i_pats, i_fuel, i_fr, i_ink⟩, kSA_S1, (show -1 ≤ rv1.toInt ∧ rv1.toInt ≤ 16 ∧ (f_frames S1).toInt ≤ (f_frames S).toInt + 1 ∧ (rv1.toInt = -1 → ((a_kinds S1) 40).toInt = 11 → 1 ≤ (f_frames S1).toInt ∧ ((a_what S1) ((f_frames S1).toInt - 1).toNat).toInt ≤ 2) by refine ⟨by omega, by omega, by omega, ?_⟩; first | exact (fun q1 q2 => by omega) | assumption)⟩ hP hD d_Mo_begins_257
    · refine lv_lload hx hb d_Mo_begins_98 (lv_at hl 0 rfl) ?_
      refine lv_lconst (v := 1) hx hb d_Mo_begins_100 (by decide) ?_
      refine W.lcmp hx hb d_Mo_begins_101 ?_
      refine lv_topi (fun x6 ex6 => ?_)
      refine lv_if_eq (tgt := 124) hx hb d_Mo_begins_102 (by decide) (fun c102_1 => ?_) (fun c102_1 => ?_)
      · have fc102_1 : x6.toInt = 0 := zt_eq (show x6.toInt = _ from rfl) tI_0 c102_1
        have vc102_1 : x4.toInt = 1 := by have := zr_cmp ex6 (show x4.toInt = _ from rfl) tJ_1; have := zt_eq (show x6.toInt = _ from rfl) tI_0 c102_1; omega
        refine lv_iconst (v := 1) hx hb d_Mo_begins_124 (by decide) ?_
        refine lv_goto (tgt := 129) hx hb d_Mo_begins_125 (by decide) ?_
        exact key1 (1 : Int32) _ _ _ ⟨(show (1 : Int32).toInt = 0 ∨ (1 : Int32).toInt = 1 by have := tI_1; omega), hP, hD, hS, lv_sub hl [0, 1, 2, 3, 4] rfl⟩
      · first | have fc102_1 : x6.toInt < 0 := (by have := zt_ne (show x6.toInt = _ from rfl) tI_0 c102_1; omega) | have fc102_1 : 0 < x6.toInt := (by have := zt_ne (show x6.toInt = _ from rfl) tI_0 c102_1; omega) | skip
        have vc102_1 : ¬ x4.toInt = 1 := by have := zr_cmp ex6 (show x4.toInt = _ from rfl) tJ_1; have := zt_ne (show x6.toInt = _ from rfl) tI_0 c102_1; omega
        refine lv_iload_n hx hb d_Mo_begins_105 rfl (lv_at hl 4 rfl) ?_
        refine lv_bipush (v := 52) hx hb d_Mo_begins_106 (by decide) ?_
        refine lv_icmp_ne (tgt := 128) hx hb d_Mo_begins_108 (by decide) (fun _ => ?_) (fun c9 => absurd c9 (by decide +kernel))
        refine lv_iconst (v := 0) hx hb d_Mo_begins_128 (by decide) ?_
        exact key1 (0 : Int32) _ _ _ ⟨(show (0 : Int32).toInt = 0 ∨ (0 : Int32).toInt = 1 by have := tI_0; omega), hP, hD, hS, lv_sub hl [0, 1, 2, 3, 4] rfl⟩
theorem d_Mo_begins_218 : decode prog_15_method_64_code 218 = .ok (.iconst 3, 1) := by decide +kernel
theorem d_Mo_begins_219 : decode prog_15_method_64_code 219 = .ok (.goto 14, 3) := by decide +kernel
theorem d_Mo_begins_258 : decode prog_15_method_64_code 258 = .ok (.iload_n 1, 1) := by decide +kernel
theorem d_Mo_begins_259 : decode prog_15_method_64_code 259 = .ok (.bipush 52, 2) := by decide +kernel
theorem d_Mo_begins_261 : decode prog_15_method_64_code 261 = .ok (.if_icmp .ne 19, 3) := by decide +kernel
theorem d_Mo_begins_264 : decode prog_15_method_64_code 264 = .ok (.aload_n 0, 1) := by decide +kernel
theorem d_Mo_begins_276 : decode prog_15_method_64_code 276 = .ok (.invokevirtual 382, 3) := by decide +kernel
theorem d_Mo_begins_279 : decode prog_15_method_64_code 279 = .ok (.ireturn, 1) := by decide +kernel
theorem d_Mo_begins_265 : decode prog_15_method_64_code 265 = .ok (.iload 7, 2) := by decide +kernel
theorem d_Mo_begins_267 : decode prog_15_method_64_code 267 = .ok (.ifCond .eq 8, 3) := by decide +kernel
theorem d_Mo_begins_275 : decode prog_15_method_64_code 275 = .ok (.lload_n 3, 1) := by decide +kernel
theorem d_Mo_begins_270 : decode prog_15_method_64_code 270 = .ok (.lload 5, 2) := by decide +kernel
theorem d_Mo_begins_272 : decode prog_15_method_64_code 272 = .ok (.goto 4, 3) := by decide +kernel
theorem d_Mo_begins_111 : decode prog_15_method_64_code 111 = .ok (.aload_n 0, 1) := by decide +kernel
theorem d_Mo_begins_112 : decode prog_15_method_64_code 112 = .ok (.getfield 13, 3) := by decide +kernel
theorem d_Mo_begins_115 : decode prog_15_method_64_code 115 = .ok (.iload_n 2, 1) := by decide +kernel
theorem d_Mo_begins_116 : decode prog_15_method_64_code 116 = .ok (.iconst 2, 1) := by decide +kernel
theorem d_Mo_begins_117 : decode prog_15_method_64_code 117 = .ok (.isub, 1) := by decide +kernel
theorem d_Mo_begins_118 : decode prog_15_method_64_code 118 = .ok (.laload, 1) := by decide +kernel
theorem d_Mo_begins_119 : decode prog_15_method_64_code 119 = .ok (.lconst 1, 1) := by decide +kernel
theorem d_Mo_begins_120 : decode prog_15_method_64_code 120 = .ok (.lcmp, 1) := by decide +kernel
theorem d_Mo_begins_121 : decode prog_15_method_64_code 121 = .ok (.ifCond .ne 7, 3) := by decide +kernel
set_option maxHeartbeats 4000000 in
set_option maxRecDepth 100000 in
theorem m_begins_52 (l : Launch) (D : va_G) (T : Nat → ClassId) (h0 : Nat) (ar : Nat → Nat) (S : MS)  (sz : Nat) (hI : MI S) (h1 : 3 ≤ (f_size S).toInt ∧ ((a_kinds S) ((f_size S).toInt - 1).toNat).toInt = 13 ∧ ((a_kinds S) ((f_size S).toInt - 2).toNat).toInt = 13) : Met l ⟨"PageScribeModel", "begins", "(I)I"⟩ (wy ⟨"PageScribeModel", "begins", "(I)I"⟩ prog_15_method_64_code 8 (some .int)) ({ frames := 2, cells := 0, slots := 0, locals := 140 }) (va_Pc [.ref h0, .int 52] (Pw D T (mW T h0 ar S) sz E0)) (va_Qi (fun (r : Int32) (u : MS) => MI u ∧ kA S u ∧ (-1 ≤ r.toInt ∧ r.toInt ≤ 16 ∧ (f_frames u).toInt ≤ (f_frames S).toInt + 1 ∧ (r.toInt = -1 → ((a_kinds u) 40).toInt = 11 → 1 ≤ (f_frames u).toInt ∧ ((a_what u) ((f_frames u).toInt - 1).toNat).toInt ≤ 2))) (fun u t => Bw D T (va_A (mW T h0 ar S) sz) (mW T h0 ar u) t) (va_A (mW T h0 ar S) sz)) 0 0 (va_A (mW T h0 ar S) sz) := by
  refine j_met (y := ⟨"PageScribeModel", "begins", "(I)I"⟩) (b := prog_15_method_64_code) (n := 8) (ret := (some .int)) (av := [.ref h0, .int 52]) (Qc := fun A => va_Qi (fun (r : Int32) (u : MS) => MI u ∧ kA S u ∧ (-1 ≤ r.toInt ∧ r.toInt ≤ 16 ∧ (f_frames u).toInt ≤ (f_frames S).toInt + 1 ∧ (r.toInt = -1 → ((a_kinds u) 40).toInt = 11 → 1 ≤ (f_frames u).toInt ∧ ((a_what u) ((f_frames u).toInt - 1).toNat).toInt ≤ 2))) (fun u t => Bw D T A (mW T h0 ar u) t) A) (by decide +kernel) (Nat.le_of_ble_eq_true rfl) (fun p e s m args below meth c A ls F hr hlocks hnm hK hP hD hS hA hN hE hl => ?_)
  obtain ⟨hx, hb, hml, hown, hts⟩ := id F
  have hl : lv_has ls 8 [(0, .ref h0), (1, .int 52)] := hl
  obtain ⟨i_size, i_taken, i_vals, i_room, i_dicts, i_deep, i_open, i_cells, i_points, i_part, i_length, i_knows, i_page, i_text, i_pats, i_fuel, i_fr, i_ink⟩ := id hI
  refine lv_aload_n hx hb d_Mo_begins_0 rfl (lv_at hl 0 rfl) ?_
  refine va_get (D := D) (ci := 11) (v := .int (f_size S)) (C := "PageScribeModel") (T := F_Mo) (N := 45) hx hb hts i_Mo hown hK hP 0 mW_0 cl_11 4 (by decide) (hts _ k_6_164) (fun _ h9 => h9) (mg_size _ _) d_Mo_begins_1 ?_
  refine lv_iconst (v := 1) hx hb d_Mo_begins_4 (by decide) ?_
  refine lv_isub hx hb d_Mo_begins_5 ?_
  refine lv_topi (fun x1 ex1 => ?_)
  have fx1 : x1.toInt = ((f_size S).toInt - 1) := by rw [ex1]; exact (zt_sub (show (f_size S).toInt = _ from rfl) tI_1 (by omega) (by omega)).trans (by omega)
  refine lv_istore_n (lv' := [(2, .int x1), (0, .ref h0), (1, .int 52)]) hx hb d_Mo_begins_6 rfl hl (by decide) rfl (fun ls hl => ?_)
  refine lv_aload_n hx hb d_Mo_begins_7 rfl (lv_at hl 1 rfl) ?_
  refine va_get (D := D) (ci := 11) (v := .ref (ar 1)) (C := "PageScribeModel") (T := F_Mo) (N := 45) hx hb hts i_Mo hown hK hP 0 mW_0 cl_11 2 (by decide) (hts _ k_6_162) (fun _ h9 => h9) (mg_codes _ _) d_Mo_begins_8 ?_
  refine lv_iload_n hx hb d_Mo_begins_11 rfl (lv_at hl 0 rfl) ?_
  refine va_lald hx hb hK hP 2 1 (ma_codes _ _ _ _) rfl (zt_in fx1 (by omega) (by omega)) d_Mo_begins_12 ?_
  refine lv_topl (fun x2 ex2 => ?_)
  have gx2 : x2 = (a_codes S) ((f_size S).toInt - 1).toNat := ex2.trans (congrArg _ (zt_ix fx1))
  have fx2 : x2.toInt = ((a_codes S) ((f_size S).toInt - 1).toNat).toInt := by rw [gx2]
  have kx2 : vOk ((a_kinds S) ((f_size S).toInt - 1).toNat) ((a_codes S) ((f_size S).toInt - 1).toNat) ((a_reals S) ((f_size S).toInt - 1).toNat) := i_vals (((f_size S).toInt - 1).toNat) (by omega)
  have tpx2 : cOk x2 := by rw [gx2]; exact vk_ar8 kx2 (by omega)
  refine lv_lstore_n (lv' := [(3, .long x2), (2, .int x1), (0, .ref h0), (1, .int 52)]) hx hb d_Mo_begins_13 rfl hl (by decide) rfl (fun ls hl => ?_)
  refine lv_iload_n hx hb d_Mo_begins_14 rfl (lv_at hl 1 rfl) ?_
  refine lv_if_le (tgt := 29) hx hb d_Mo_begins_15 (by decide) (fun c15_1 => ?_) (fun c15_1 => ?_)
  · have fc15_1 : ((f_size S).toInt - 1) ≤ 0 := zt_le fx1 tI_0 c15_1
    exfalso; omega
  · have fc15_1 : 0 < ((f_size S).toInt - 1) := Int.not_le.mp (zt_nle fx1 tI_0 c15_1)
    refine lv_aload_n hx hb d_Mo_begins_18 rfl (lv_at hl 2 rfl) ?_
    refine va_get (D := D) (ci := 11) (v := .ref (ar 1)) (C := "PageScribeModel") (T := F_Mo) (N := 45) hx hb hts i_Mo hown hK hP 0 mW_0 cl_11 2 (by decide) (hts _ k_6_162) (fun _ h9 => h9) (mg_codes _ _) d_Mo_begins_19 ?_
    refine lv_iload_n hx hb d_Mo_begins_22 rfl (lv_at hl 1 rfl) ?_
    refine lv_iconst (v := 1) hx hb d_Mo_begins_23 (by decide) ?_
    refine lv_isub hx hb d_Mo_begins_24 ?_
    refine lv_topi (fun x3 ex3 => ?_)
    have fx3 : x3.toInt = ((f_size S).toInt - 2) := by rw [ex3]; exact (zt_sub fx1 tI_1 (by omega) (by omega)).trans (by omega)
    refine va_lald hx hb hK hP 2 1 (ma_codes _ _ _ _) rfl (zt_in fx3 (by omega) (by omega)) d_Mo_begins_25 ?_
    refine lv_topl (fun x4 ex4 => ?_)
    have gx4 : x4 = (a_codes S) ((f_size S).toInt - 2).toNat := ex4.trans (congrArg _ (zt_ix fx3))
    have fx4 : x4.toInt = ((a_codes S) ((f_size S).toInt - 2).toNat).toInt := by rw [gx4]
    have kx4 : vOk ((a_kinds S) ((f_size S).toInt - 2).toNat) ((a_codes S) ((f_size S).toInt - 2).toNat) ((a_reals S) ((f_size S).toInt - 2).toNat) := i_vals (((f_size S).toInt - 2).toNat) (by omega)
    have xxx4 : cOk x4 := by rw [gx4]; exact vk_ar8 kx4 (by omega)
    refine lv_goto (tgt := 30) hx hb d_Mo_begins_26 (by decide) ?_
    refine lv_lstore (lv' := [(5, .long x4), (3, .long x2), (2, .int x1), (0, .ref h0), (1, .int 52)]) hx hb d_Mo_begins_30 hl (by decide) rfl (fun ls hl => ?_)
    refine lv_iload_n hx hb d_Mo_begins_32 rfl (lv_at hl 4 rfl) ?_
    refine lv_bipush (v := 50) hx hb d_Mo_begins_33 (by decide) ?_
    refine lv_icmp_ne (tgt := 77) hx hb d_Mo_begins_35 (by decide) (fun _ => ?_) (fun c9 => absurd c9 (by decide +kernel))
    refine lv_iload_n hx hb d_Mo_begins_77 rfl (lv_at hl 4 rfl) ?_
    refine lv_bipush (v := 54) hx hb d_Mo_begins_78 (by decide) ?_
    refine lv_icmp_ne (tgt := 92) hx hb d_Mo_begins_80 (by decide) (fun _ => ?_) (fun c9 => absurd c9 (by decide +kernel))
    refine lv_iload_n hx hb d_Mo_begins_92 rfl (lv_at hl 4 rfl) ?_
    refine lv_bipush (v := 51) hx hb d_Mo_begins_93 (by decide) ?_
    refine lv_icmp_ne (tgt := 105) hx hb d_Mo_begins_95 (by decide) (fun _ => ?_) (fun c9 => absurd c9 (by decide +kernel))
    refine lv_iload_n hx hb d_Mo_begins_105 rfl (lv_at hl 4 rfl) ?_
    refine lv_bipush (v := 52) hx hb d_Mo_begins_106 (by decide) ?_
    refine lv_icmp_ne (tgt := 128) hx hb d_Mo_begins_108 (by decide) (fun c9 => absurd c9 (by decide +kernel)) (fun _ => ?_)
    refine j_joinH (α := Int32) (fun x H locs ls => (x.toInt = 0 ∨ x.toInt = 1) ∧ va_P D classes (mW T h0 ar S) H ∧ va_D A (mW T h0 ar S) ∧ va_S A s.heap H locs ∧ lv_has ls 8 [(5, .long x4), (3, .long x2), (2, .int x1), (0, .ref h0), (1, .int 52)]) (fun x ls => F0 m 129 ls (.int x :: [])) (fun x H locs ls hI9 => ?_) (fun key1 => ?_)
    · obtain ⟨j1, rfl⟩ : ∃ z, z = x := ⟨_, rfl⟩
      obtain ⟨hj1, hP, hD, hS, hl⟩ := hI9
      have hj1 : j1.toInt = 0 ∨ j1.toInt = 1 := hj1
      have hP : va_P D classes (mW T h0 ar S) H := hP
      have hD : va_D A (mW T h0 ar S) := hD
      have hl : lv_has ls 8 [(5, .long x4), (3, .long x2), (2, .int x1), (0, .ref h0), (1, .int 52)] := hl
      refine lv_istore (lv' := [(7, .int j1), (5, .long x4), (3, .long x2), (2, .int x1), (0, .ref h0), (1, .int 52)]) hx hb d_Mo_begins_129 hl (by decide) rfl (fun ls hl => ?_)
      refine lv_aload_n hx hb d_Mo_begins_131 rfl (lv_at hl 4 rfl) ?_
      refine va_get (D := D) (ci := 11) (v := .ref (ar 12)) (C := "PageScribeModel") (T := F_Mo) (N := 45) hx hb hts i_Mo hown hK hP 0 mW_0 cl_11 20 (by decide) (hts _ k_6_180) (fun _ h9 => h9) (mg_value _ _) d_Mo_begins_132 ?_
      refine lv_aload_n hx hb d_Mo_begins_135 rfl (lv_at hl 4 rfl) ?_
      refine va_get (D := D) (ci := 11) (v := .int (f_frames S)) (C := "PageScribeModel") (T := F_Mo) (N := 45) hx hb hts i_Mo hown hK hP 0 mW_0 cl_11 15 (by decide) (hts _ k_6_175) (fun _ h9 => h9) (mg_frames _ _) d_Mo_begins_136 ?_
      refine lv_iload_n hx hb d_Mo_begins_139 rfl (lv_at hl 5 rfl) ?_
      refine lv_bipush (v := 53) hx hb d_Mo_begins_140 (by decide) ?_
      refine lv_icmp_ne (tgt := 156) hx hb d_Mo_begins_142 (by decide) (fun _ => ?_) (fun c9 => absurd c9 (by decide +kernel))
      refine lv_lload hx hb d_Mo_begins_156 (lv_at hl 1 rfl) ?_
      refine va_last hx hb hK hP hD hS 13 1 (ma_value _ _ _ _) rfl (zt_in (show (f_frames S).toInt = _ from rfl) (by omega) (by omega)) d_Mo_begins_158 (fun H locs hP hD hS => ?_)
      rw [ms_value] at hP hD
      rw [zt_ix (show (f_frames S).toInt = _ from rfl)] at hP hD
      have hP : va_P D classes (mW T h0 ar ((S.1, S.2.1, ((f_under S), (a_what S), (a_array S), (a_far S), (vp_updL (a_value S) ((f_frames S).toInt.toNat) x4), (a_grows S), (a_last S), (a_text S)), S.2.2.2.1, S.2.2.2.2.1, S.2.2.2.2.2) : MS)) H := hP
      have hD : va_D A (mW T h0 ar ((S.1, S.2.1, ((f_under S), (a_what S), (a_array S), (a_far S), (vp_updL (a_value S) ((f_frames S).toInt.toNat) x4), (a_grows S), (a_last S), (a_text S)), S.2.2.2.1, S.2.2.2.2.1, S.2.2.2.2.2) : MS)) := hD
      refine lv_aload_n hx hb d_Mo_begins_159 rfl (lv_at hl 4 rfl) ?_
      refine va_get (D := D) (ci := 11) (v := .ref (ar 13)) (C := "PageScribeModel") (T := F_Mo) (N := 45) hx hb hts i_Mo hown hK hP 0 mW_0 cl_11 21 (by decide) (hts _ k_6_181) (fun _ h9 => h9) (mg_grows _ _) d_Mo_begins_160 ?_
      refine lv_aload_n hx hb d_Mo_begins_163 rfl (lv_at hl 4 rfl) ?_
      refine va_get (D := D) (ci := 11) (v := .int (f_frames S)) (C := "PageScribeModel") (T := F_Mo) (N := 45) hx hb hts i_Mo hown hK hP 0 mW_0 cl_11 15 (by decide) (hts _ k_6_175) (fun _ h9 => h9) (mg_frames _ _) d_Mo_begins_164 ?_
      refine lv_iload_n hx hb d_Mo_begins_167 rfl (lv_at hl 5 rfl) ?_
      refine lv_bipush (v := 53) hx hb d_Mo_begins_168 (by decide) ?_
      refine lv_icmp_ne (tgt := 184) hx hb d_Mo_begins_170 (by decide) (fun _ => ?_) (fun c9 => absurd c9 (by decide +kernel))
      refine lv_lconst (v := 0) hx hb d_Mo_begins_184 (by decide) ?_
      refine va_last hx hb hK hP hD hS 14 1 (ma_grows _ _ _ _) rfl (zt_in (show (f_frames S).toInt = _ from rfl) (by omega) (by omega)) d_Mo_begins_185 (fun H locs hP hD hS => ?_)
      rw [ms_grows] at hP hD
      rw [zt_ix (show (f_frames S).toInt = _ from rfl)] at hP hD
      have hP : va_P D classes (mW T h0 ar ((S.1, S.2.1, ((f_under S), (a_what S), (a_array S), (a_far S), (vp_updL (a_value S) ((f_frames S).toInt.toNat) x4), (vp_updL (a_grows S) ((f_frames S).toInt.toNat) (0 : Int64)), (a_last S), (a_text S)), S.2.2.2.1, S.2.2.2.2.1, S.2.2.2.2.2) : MS)) H := hP
      have hD : va_D A (mW T h0 ar ((S.1, S.2.1, ((f_under S), (a_what S), (a_array S), (a_far S), (vp_updL (a_value S) ((f_frames S).toInt.toNat) x4), (vp_updL (a_grows S) ((f_frames S).toInt.toNat) (0 : Int64)), (a_last S), (a_text S)), S.2.2.2.1, S.2.2.2.2.1, S.2.2.2.2.2) : MS)) := hD
      refine lv_aload_n hx hb d_Mo_begins_186 rfl (lv_at hl 4 rfl) ?_
      refine va_get (D := D) (ci := 11) (v := .ref (ar 14)) (C := "PageScribeModel") (T := F_Mo) (N := 45) hx hb hts i_Mo hown hK hP 0 mW_0 cl_11 22 (by decide) (hts _ k_6_182) (fun _ h9 => h9) (mg_last _ _) d_Mo_begins_187 ?_
      refine lv_aload_n hx hb d_Mo_begins_190 rfl (lv_at hl 4 rfl) ?_
      refine va_get (D := D) (ci := 11) (v := .int (f_frames S)) (C := "PageScribeModel") (T := F_Mo) (N := 45) hx hb hts i_Mo hown hK hP 0 mW_0 cl_11 15 (by decide) (hts _ k_6_175) (fun _ h9 => h9) (mg_frames _ _) d_Mo_begins_191 ?_
      refine lv_lload hx hb d_Mo_begins_194 (lv_at hl 1 rfl) ?_
      refine va_last hx hb hK hP hD hS 15 1 (ma_last _ _ _ _) rfl (zt_in (show (f_frames S).toInt = _ from rfl) (by omega) (by omega)) d_Mo_begins_196 (fun H locs hP hD hS => ?_)
      rw [ms_last] at hP hD
      rw [zt_ix (show (f_frames S).toInt = _ from rfl)] at hP hD
      have hP : va_P D classes (mW T h0 ar ((S.1, S.2.1, ((f_under S), (a_what S), (a_array S), (a_far S), (vp_updL (a_value S) ((f_frames S).toInt.toNat) x4), (vp_updL (a_grows S) ((f_frames S).toInt.toNat) (0 : Int64)), (vp_updL (a_last S) ((f_frames S).toInt.toNat) x4), (a_text S)), S.2.2.2.1, S.2.2.2.2.1, S.2.2.2.2.2) : MS)) H := hP
      have hD : va_D A (mW T h0 ar ((S.1, S.2.1, ((f_under S), (a_what S), (a_array S), (a_far S), (vp_updL (a_value S) ((f_frames S).toInt.toNat) x4), (vp_updL (a_grows S) ((f_frames S).toInt.toNat) (0 : Int64)), (vp_updL (a_last S) ((f_frames S).toInt.toNat) x4), (a_text S)), S.2.2.2.1, S.2.2.2.2.1, S.2.2.2.2.2) : MS)) := hD
      refine lv_aload_n hx hb d_Mo_begins_197 rfl (lv_at hl 4 rfl) ?_
      refine lv_dup hx hb d_Mo_begins_198 rfl ?_
      refine va_get (D := D) (ci := 11) (v := .int (f_size S)) (C := "PageScribeModel") (T := F_Mo) (N := 45) hx hb hts i_Mo hown hK hP 0 mW_0 cl_11 4 (by decide) (hts _ k_6_164) (fun _ h9 => h9) (mg_size _ _) d_Mo_begins_199 ?_
      refine lv_iload_n hx hb d_Mo_begins_202 rfl (lv_at hl 5 rfl) ?_
      refine lv_bipush (v := 53) hx hb d_Mo_begins_203 (by decide) ?_
      refine lv_icmp_ne (tgt := 212) hx hb d_Mo_begins_205 (by decide) (fun _ => ?_) (fun c9 => absurd c9 (by decide +kernel))
      refine lv_iload_n hx hb d_Mo_begins_212 rfl (lv_at hl 5 rfl) ?_
      refine lv_bipush (v := 52) hx hb d_Mo_begins_213 (by decide) ?_
      refine lv_icmp_ne (tgt := 222) hx hb d_Mo_begins_215 (by decide) (fun c9 => absurd c9 (by decide +kernel)) (fun _ => ?_)
      refine lv_iconst (v := 3) hx hb d_Mo_begins_218 (by decide) ?_
      refine lv_goto (tgt := 233) hx hb d_Mo_begins_219 (by decide) ?_
      refine lv_isub hx hb d_Mo_begins_233 ?_
      refine lv_topi (fun x5 ex5 => ?_)
      have fx5 : x5.toInt = ((f_size S).toInt - 3) := by rw [ex5]; exact (zt_sub (show (f_size S).toInt = _ from rfl) tI_3 (by omega) (by omega)).trans (by omega)
      refine va_put (D := D) (ci := 11) (v := .int x5) (ty := .int) (C := "PageScribeModel") (T := F_Mo) (N := 45) hx hb hts i_Mo t_Mo t_Mo_ok n_Mo hown hK hP hD hS 0 mW_0 cl_11 4 (by decide) (hts _ k_6_164) (fun _ h9 => h9) rfl (by decide +kernel) rfl rfl (Nat.le_of_ble_eq_true rfl) d_Mo_begins_234 (fun H locs hP hD hS => ?_)
      rw [mp_size] at hP hD
      have hP : va_P D classes (mW T h0 ar ((((f_thrown S), (a_kinds S), (a_codes S), (a_reals S), x5, (f_taken S), (a_words S), (a_many S)), S.2.1, ((f_under S), (a_what S), (a_array S), (a_far S), (vp_updL (a_value S) ((f_frames S).toInt.toNat) x4), (vp_updL (a_grows S) ((f_frames S).toInt.toNat) (0 : Int64)), (vp_updL (a_last S) ((f_frames S).toInt.toNat) x4), (a_text S)), S.2.2.2.1, S.2.2.2.2.1, S.2.2.2.2.2) : MS)) H := hP
      have hD : va_D A (mW T h0 ar ((((f_thrown S), (a_kinds S), (a_codes S), (a_reals S), x5, (f_taken S), (a_words S), (a_many S)), S.2.1, ((f_under S), (a_what S), (a_array S), (a_far S), (vp_updL (a_value S) ((f_frames S).toInt.toNat) x4), (vp_updL (a_grows S) ((f_frames S).toInt.toNat) (0 : Int64)), (vp_updL (a_last S) ((f_frames S).toInt.toNat) x4), (a_text S)), S.2.2.2.1, S.2.2.2.2.1, S.2.2.2.2.2) : MS)) := hD
      refine lv_iload_n hx hb d_Mo_begins_237 rfl (lv_at hl 5 rfl) ?_
      refine lv_bipush (v := 51) hx hb d_Mo_begins_238 (by decide) ?_
      refine lv_icmp_ne (tgt := 258) hx hb d_Mo_begins_240 (by decide) (fun _ => ?_) (fun c9 => absurd c9 (by decide +kernel))
      refine lv_iload_n hx hb d_Mo_begins_258 rfl (lv_at hl 5 rfl) ?_
      refine lv_bipush (v := 52) hx hb d_Mo_begins_259 (by decide) ?_
      refine lv_icmp_ne (tgt := 280) hx hb d_Mo_begins_261 (by decide) (fun c9 => absurd c9 (by decide +kernel)) (fun _ => ?_)
      refine lv_aload_n hx hb d_Mo_begins_264 rfl (lv_at hl 4 rfl) ?_
      refine j_joinH (α := Int64) (fun x H locs ls => (cOk x) ∧ va_P D classes (mW T h0 ar ((((f_thrown S), (a_kinds S), (a_codes S), (a_reals S), x5, (f_taken S), (a_words S), (a_many S)), S.2.1, ((f_under S), (a_what S), (a_array S), (a_far S), (vp_updL (a_value S) ((f_frames S).toInt.toNat) x4), (vp_updL (a_grows S) ((f_frames S).toInt.toNat) (0 : Int64)), (vp_updL (a_last S) ((f_frames S).toInt.toNat) x4), (a_text S)), S.2.2.2.1, S.2.2.2.2.1, S.2.2.2.2.2) : MS)) H ∧ va_D A (mW T h0 ar ((((f_thrown S), (a_kinds S), (a_codes S), (a_reals S), x5, (f_taken S), (a_words S), (a_many S)), S.2.1, ((f_under S), (a_what S), (a_array S), (a_far S), (vp_updL (a_value S) ((f_frames S).toInt.toNat) x4), (vp_updL (a_grows S) ((f_frames S).toInt.toNat) (0 : Int64)), (vp_updL (a_last S) ((f_frames S).toInt.toNat) x4), (a_text S)), S.2.2.2.1, S.2.2.2.2.1, S.2.2.2.2.2) : MS)) ∧ va_S A s.heap H locs ∧ lv_has ls 8 [(7, .int j1), (5, .long x4), (3, .long x2), (2, .int x1), (0, .ref h0), (1, .int 52)]) (fun x ls => F0 m 276 ls (.long x :: [.ref h0])) (fun x H locs ls hI9 => ?_) (fun key2 => ?_)
      · obtain ⟨j2, rfl⟩ : ∃ z, z = x := ⟨_, rfl⟩
        obtain ⟨hj2, hP, hD, hS, hl⟩ := hI9
        have hj2 : cOk j2 := hj2
        have hP : va_P D classes (mW T h0 ar ((((f_thrown S), (a_kinds S), (a_codes S), (a_reals S), x5, (f_taken S), (a_words S), (a_many S)), S.2.1, ((f_under S), (a_what S), (a_array S), (a_far S), (vp_updL (a_value S) ((f_frames S).toInt.toNat) x4), (vp_updL (a_grows S) ((f_frames S).toInt.toNat) (0 : Int64)), (vp_updL (a_last S) ((f_frames S).toInt.toNat) x4), (a_text S)), S.2.2.2.1, S.2.2.2.2.1, S.2.2.2.2.2) : MS)) H := hP
        have hD : va_D A (mW T h0 ar ((((f_thrown S), (a_kinds S), (a_codes S), (a_reals S), x5, (f_taken S), (a_words S), (a_many S)), S.2.1, ((f_under S), (a_what S), (a_array S), (a_far S), (vp_updL (a_value S) ((f_frames S).toInt.toNat) x4), (vp_updL (a_grows S) ((f_frames S).toInt.toNat) (0 : Int64)), (vp_updL (a_last S) ((f_frames S).toInt.toNat) x4), (a_text S)), S.2.2.2.1, S.2.2.2.2.1, S.2.2.2.2.2) : MS)) := hD
        have hl : lv_has ls 8 [(7, .int j1), (5, .long x4), (3, .long x2), (2, .int x1), (0, .ref h0), (1, .int 52)] := hl
        refine jm_ci (w := (fun u => u)) hK hP hD hS hA (va_runV (As := [.long j2]) (rest := []) F (m_runArray l D T h0 ar ((((f_thrown S), (a_kinds S), (a_codes S), (a_reals S), x5, (f_taken S), (a_words S), (a_many S)), S.2.1, ((f_under S), (a_what S), (a_array S), (a_far S), (vp_updL (a_value S) ((f_frames S).toInt.toNat) x4), (vp_updL (a_grows S) ((f_frames S).toInt.toNat) (0 : Int64)), (vp_updL (a_last S) ((f_frames S).toInt.toNat) x4), (a_text S)), S.2.2.2.1, S.2.2.2.2.1, S.2.2.2.2.2) : MS) j2 H.size ⟨(show 0 ≤ x5.toInt ∧ x5.toInt ≤ 40 by omega), i_taken, i_vals, i_room, i_dicts, i_deep, i_open, i_cells, i_points, i_part, i_length, i_knows, i_page, i_text, i_pats, i_fuel, (fr_above i_fr (fun k hk => ⟨updL_n hk, updL_n hk, updL_n hk⟩)), i_ink⟩ (show cOk j2 by omega)) (j_cV (k := 1) (C := "PageScribeModel") hts k_8_55 k_1_12 k_8_52 k_8_54 k_0_128 (by decide +kernel) ⟨Nat.le_of_ble_eq_true rfl, Nat.le_of_ble_eq_true rfl⟩) (jm_pre hK hP hD) rfl rfl hl.1 rfl (lv_room (Nat.le_of_ble_eq_true rfl)) d_Mo_begins_276 ⟨Nat.le_of_ble_eq_true rfl, Nat.le_of_ble_eq_true rfl⟩) (fun rv1 S1 H locs hw1 hP hD hS => ?_)
        have hP : va_P D classes (mW T h0 ar S1) H := hP
        have hD : va_D A (mW T h0 ar S1) := hD
        obtain ⟨⟨i_size, i_taken, i_vals, i_room, i_dicts, i_deep, i_open, i_cells, i_points, i_part, i_length, i_knows, i_page, i_text, i_pats, i_fuel, i_fr, i_ink⟩, kpA_S1, qqhw1⟩ := hw1
        have kSA_S1 : kA S S1 := kA_t (show kA S ((((f_thrown S), (a_kinds S), (a_codes S), (a_reals S), x5, (f_taken S), (a_words S), (a_many S)), S.2.1, ((f_under S), (a_what S), (a_array S), (a_far S), (vp_updL (a_value S) ((f_frames S).toInt.toNat) x4), (vp_updL (a_grows S) ((f_frames S).toInt.toNat) (0 : Int64)), (vp_updL (a_last S) ((f_frames S).toInt.toNat) x4), (a_text S)), S.2.2.2.1, S.2.2.2.2.1, S.2.2.2.2.2) : MS) from (kA_r S)) kpA_S1
        have kST_S1 : kT S S1 := kT_t (show kT S ((((f_thrown S), (a_kinds S), (a_codes S), (a_reals S), x5, (f_taken S), (a_words S), (a_many S)), S.2.1, ((f_under S), (a_what S), (a_array S), (a_far S), (vp_updL (a_value S) ((f_frames S).toInt.toNat) x4), (vp_updL (a_grows S) ((f_frames S).toInt.toNat) (0 : Int64)), (vp_updL (a_last S) ((f_frames S).toInt.toNat) x4), (a_text S)), S.2.2.2.1, S.2.2.2.2.1, S.2.2.2.2.2) : MS) from (kT_r S)) (kT_A kpA_S1)
        have qhw1 : (rv1.toInt = 0 ∧ (f_frames S1).toInt = (f_frames S).toInt + 1) ∨ (rv1.toInt = 12 ∧ (f_frames S1).toInt = (f_frames S).toInt) := by simpa only [fx5] using qqhw1
        exact j_iret F hr hlocks hK hS S1 ⟨⟨i_size, i_taken, i_vals, i_room, i_dicts, i_deep, i_open, i_cells, i_points, i_part, i_length, i_knows, i_page, i_text, i_pats, i_fuel, i_fr, i_ink⟩, kSA_S1, (show -1 ≤ rv1.toInt ∧ rv1.toInt ≤ 16 ∧ (f_frames S1).toInt ≤ (f_frames S).toInt + 1 ∧ (rv1.toInt = -1 → ((a_kinds S1) 40).toInt = 11 → 1 ≤ (f_frames S1).toInt ∧ ((a_what S1) ((f_frames S1).toInt - 1).toNat).toInt ≤ 2) by refine ⟨by omega, by omega, by omega, ?_⟩; first | exact (fun q1 q2 => by omega) | assumption)⟩ hP hD d_Mo_begins_279
      · refine lv_iload hx hb d_Mo_begins_265 (lv_at hl 0 rfl) ?_
        refine lv_if_eq (tgt := 275) hx hb d_Mo_begins_267 (by decide) (fun c267_1 => ?_) (fun c267_1 => ?_)
        · have fc267_1 : j1.toInt = 0 := zt_eq (show j1.toInt = _ from rfl) tI_0 c267_1
          refine lv_lload_n hx hb d_Mo_begins_275 rfl (lv_at hl 2 rfl) ?_
          exact key2 (x2) _ _ _ ⟨(show cOk x2 by assumption), hP, hD, hS, lv_sub hl [0, 1, 2, 3, 4, 5] rfl⟩
        · first | have fc267_1 : j1.toInt < 0 := (by have := zt_ne (show j1.toInt = _ from rfl) tI_0 c267_1; omega) | have fc267_1 : 0 < j1.toInt := (by have := zt_ne (show j1.toInt = _ from rfl) tI_0 c267_1; omega) | skip
          refine lv_lload hx hb d_Mo_begins_270 (lv_at hl 1 rfl) ?_
          refine lv_goto (tgt := 276) hx hb d_Mo_begins_272 (by decide) ?_
          exact key2 (x4) _ _ _ ⟨(show cOk x4 by assumption), hP, hD, hS, lv_sub hl [0, 1, 2, 3, 4, 5] rfl⟩
    · refine lv_aload_n hx hb d_Mo_begins_111 rfl (lv_at hl 3 rfl) ?_
      refine va_get (D := D) (ci := 11) (v := .ref (ar 1)) (C := "PageScribeModel") (T := F_Mo) (N := 45) hx hb hts i_Mo hown hK hP 0 mW_0 cl_11 2 (by decide) (hts _ k_6_162) (fun _ h9 => h9) (mg_codes _ _) d_Mo_begins_112 ?_
      refine lv_iload_n hx hb d_Mo_begins_115 rfl (lv_at hl 2 rfl) ?_
      refine lv_iconst (v := 2) hx hb d_Mo_begins_116 (by decide) ?_
      refine lv_isub hx hb d_Mo_begins_117 ?_
      refine lv_topi (fun x6 ex6 => ?_)
      have fx6 : x6.toInt = ((f_size S).toInt - 3) := by rw [ex6]; exact (zt_sub fx1 tI_2 (by omega) (by omega)).trans (by omega)
      refine va_lald hx hb hK hP 2 1 (ma_codes _ _ _ _) rfl (zt_in fx6 (by omega) (by omega)) d_Mo_begins_118 ?_
      refine lv_topl (fun x7 ex7 => ?_)
      have gx7 : x7 = (a_codes S) ((f_size S).toInt - 3).toNat := ex7.trans (congrArg _ (zt_ix fx6))
      have fx7 : x7.toInt = ((a_codes S) ((f_size S).toInt - 3).toNat).toInt := by rw [gx7]
      have kx7 : vOk ((a_kinds S) ((f_size S).toInt - 3).toNat) ((a_codes S) ((f_size S).toInt - 3).toNat) ((a_reals S) ((f_size S).toInt - 3).toNat) := i_vals (((f_size S).toInt - 3).toNat) (by omega)
      refine lv_lconst (v := 1) hx hb d_Mo_begins_119 (by decide) ?_
      refine W.lcmp hx hb d_Mo_begins_120 ?_
      refine lv_topi (fun x8 ex8 => ?_)
      refine lv_if_ne (tgt := 128) hx hb d_Mo_begins_121 (by decide) (fun c121_1 => ?_) (fun c121_1 => ?_)
      · first | have fc121_1 : x8.toInt < 0 := (by have := zt_ne (show x8.toInt = _ from rfl) tI_0 c121_1; omega) | have fc121_1 : 0 < x8.toInt := (by have := zt_ne (show x8.toInt = _ from rfl) tI_0 c121_1; omega) | skip
        have vc121_1 : ¬ x7.toInt = 1 := by have := zr_cmp ex8 (show x7.toInt = _ from rfl) tJ_1; have := zt_ne (show x8.toInt = _ from rfl) tI_0 c121_1; omega
        refine lv_iconst (v := 0) hx hb d_Mo_begins_128 (by decide) ?_
        exact key1 (0 : Int32) _ _ _ ⟨(show (0 : Int32).toInt = 0 ∨ (0 : Int32).toInt = 1 by have := tI_0; omega), hP, hD, hS, lv_sub hl [0, 1, 2, 3, 4] rfl⟩
      · have fc121_1 : x8.toInt = 0 := zt_eq (show x8.toInt = _ from rfl) tI_0 c121_1
        have vc121_1 : x7.toInt = 1 := by have := zr_cmp ex8 (show x7.toInt = _ from rfl) tJ_1; have := zt_eq (show x8.toInt = _ from rfl) tI_0 c121_1; omega
        refine lv_iconst (v := 1) hx hb d_Mo_begins_124 (by decide) ?_
        refine lv_goto (tgt := 129) hx hb d_Mo_begins_125 (by decide) ?_
        exact key1 (1 : Int32) _ _ _ ⟨(show (1 : Int32).toInt = 0 ∨ (1 : Int32).toInt = 1 by have := tI_1; omega), hP, hD, hS, lv_sub hl [0, 1, 2, 3, 4] rfl⟩
theorem d_Mo_begins_145 : decode prog_15_method_64_code 145 = .ok (.aload_n 0, 1) := by decide +kernel
theorem d_Mo_begins_146 : decode prog_15_method_64_code 146 = .ok (.getfield 13, 3) := by decide +kernel
theorem d_Mo_begins_149 : decode prog_15_method_64_code 149 = .ok (.iload_n 2, 1) := by decide +kernel
theorem d_Mo_begins_150 : decode prog_15_method_64_code 150 = .ok (.iconst 3, 1) := by decide +kernel
theorem d_Mo_begins_151 : decode prog_15_method_64_code 151 = .ok (.isub, 1) := by decide +kernel
theorem d_Mo_begins_152 : decode prog_15_method_64_code 152 = .ok (.laload, 1) := by decide +kernel
theorem d_Mo_begins_153 : decode prog_15_method_64_code 153 = .ok (.goto 5, 3) := by decide +kernel
theorem d_Mo_begins_173 : decode prog_15_method_64_code 173 = .ok (.aload_n 0, 1) := by decide +kernel
theorem d_Mo_begins_174 : decode prog_15_method_64_code 174 = .ok (.getfield 13, 3) := by decide +kernel
theorem d_Mo_begins_177 : decode prog_15_method_64_code 177 = .ok (.iload_n 2, 1) := by decide +kernel
theorem d_Mo_begins_178 : decode prog_15_method_64_code 178 = .ok (.iconst 2, 1) := by decide +kernel
theorem d_Mo_begins_179 : decode prog_15_method_64_code 179 = .ok (.isub, 1) := by decide +kernel
theorem d_Mo_begins_180 : decode prog_15_method_64_code 180 = .ok (.laload, 1) := by decide +kernel
theorem d_Mo_begins_181 : decode prog_15_method_64_code 181 = .ok (.goto 4, 3) := by decide +kernel
theorem d_Mo_begins_208 : decode prog_15_method_64_code 208 = .ok (.iconst 4, 1) := by decide +kernel
theorem d_Mo_begins_209 : decode prog_15_method_64_code 209 = .ok (.goto 24, 3) := by decide +kernel
theorem d_Mo_begins_280 : decode prog_15_method_64_code 280 = .ok (.aload_n 0, 1) := by decide +kernel
theorem d_Mo_begins_281 : decode prog_15_method_64_code 281 = .ok (.iload_n 1, 1) := by decide +kernel
theorem d_Mo_begins_282 : decode prog_15_method_64_code 282 = .ok (.bipush 50, 2) := by decide +kernel
theorem d_Mo_begins_284 : decode prog_15_method_64_code 284 = .ok (.isub, 1) := by decide +kernel
theorem d_Mo_begins_285 : decode prog_15_method_64_code 285 = .ok (.lload_n 3, 1) := by decide +kernel
theorem d_Mo_begins_286 : decode prog_15_method_64_code 286 = .ok (.invokevirtual 352, 3) := by decide +kernel
theorem d_Mo_begins_289 : decode prog_15_method_64_code 289 = .ok (.iconst 0, 1) := by decide +kernel
theorem d_Mo_begins_290 : decode prog_15_method_64_code 290 = .ok (.ireturn, 1) := by decide +kernel
set_option maxHeartbeats 4000000 in
set_option maxRecDepth 100000 in
theorem m_begins_53 (l : Launch) (D : va_G) (T : Nat → ClassId) (h0 : Nat) (ar : Nat → Nat) (S : MS)  (sz : Nat) (hI : MI S) (h1 : 4 ≤ (f_size S).toInt ∧ ((a_kinds S) ((f_size S).toInt - 1).toNat).toInt = 13 ∧ ((a_kinds S) ((f_size S).toInt - 2).toNat).toInt % 8 = 0 ∧ ((a_kinds S) ((f_size S).toInt - 3).toNat).toInt % 8 = 0 ∧ ((a_kinds S) ((f_size S).toInt - 4).toNat).toInt % 8 = 0) (h2 : freeT S) : Met l ⟨"PageScribeModel", "begins", "(I)I"⟩ (wy ⟨"PageScribeModel", "begins", "(I)I"⟩ prog_15_method_64_code 8 (some .int)) ({ frames := 2, cells := 0, slots := 0, locals := 140 }) (va_Pc [.ref h0, .int 53] (Pw D T (mW T h0 ar S) sz E0)) (va_Qi (fun (r : Int32) (u : MS) => MI u ∧ kA S u ∧ (-1 ≤ r.toInt ∧ r.toInt ≤ 16 ∧ (f_frames u).toInt ≤ (f_frames S).toInt + 1 ∧ (r.toInt = -1 → ((a_kinds u) 40).toInt = 11 → 1 ≤ (f_frames u).toInt ∧ ((a_what u) ((f_frames u).toInt - 1).toNat).toInt ≤ 2))) (fun u t => Bw D T (va_A (mW T h0 ar S) sz) (mW T h0 ar u) t) (va_A (mW T h0 ar S) sz)) 0 0 (va_A (mW T h0 ar S) sz) := by
  refine j_met (y := ⟨"PageScribeModel", "begins", "(I)I"⟩) (b := prog_15_method_64_code) (n := 8) (ret := (some .int)) (av := [.ref h0, .int 53]) (Qc := fun A => va_Qi (fun (r : Int32) (u : MS) => MI u ∧ kA S u ∧ (-1 ≤ r.toInt ∧ r.toInt ≤ 16 ∧ (f_frames u).toInt ≤ (f_frames S).toInt + 1 ∧ (r.toInt = -1 → ((a_kinds u) 40).toInt = 11 → 1 ≤ (f_frames u).toInt ∧ ((a_what u) ((f_frames u).toInt - 1).toNat).toInt ≤ 2))) (fun u t => Bw D T A (mW T h0 ar u) t) A) (by decide +kernel) (Nat.le_of_ble_eq_true rfl) (fun p e s m args below meth c A ls F hr hlocks hnm hK hP hD hS hA hN hE hl => ?_)
  obtain ⟨hx, hb, hml, hown, hts⟩ := id F
  have hl : lv_has ls 8 [(0, .ref h0), (1, .int 53)] := hl
  obtain ⟨i_size, i_taken, i_vals, i_room, i_dicts, i_deep, i_open, i_cells, i_points, i_part, i_length, i_knows, i_page, i_text, i_pats, i_fuel, i_fr, i_ink⟩ := id hI
  refine lv_aload_n hx hb d_Mo_begins_0 rfl (lv_at hl 0 rfl) ?_
  refine va_get (D := D) (ci := 11) (v := .int (f_size S)) (C := "PageScribeModel") (T := F_Mo) (N := 45) hx hb hts i_Mo hown hK hP 0 mW_0 cl_11 4 (by decide) (hts _ k_6_164) (fun _ h9 => h9) (mg_size _ _) d_Mo_begins_1 ?_
  refine lv_iconst (v := 1) hx hb d_Mo_begins_4 (by decide) ?_
  refine lv_isub hx hb d_Mo_begins_5 ?_
  refine lv_topi (fun x1 ex1 => ?_)
  have fx1 : x1.toInt = ((f_size S).toInt - 1) := by rw [ex1]; exact (zt_sub (show (f_size S).toInt = _ from rfl) tI_1 (by omega) (by omega)).trans (by omega)
  refine lv_istore_n (lv' := [(2, .int x1), (0, .ref h0), (1, .int 53)]) hx hb d_Mo_begins_6 rfl hl (by decide) rfl (fun ls hl => ?_)
  refine lv_aload_n hx hb d_Mo_begins_7 rfl (lv_at hl 1 rfl) ?_
  refine va_get (D := D) (ci := 11) (v := .ref (ar 1)) (C := "PageScribeModel") (T := F_Mo) (N := 45) hx hb hts i_Mo hown hK hP 0 mW_0 cl_11 2 (by decide) (hts _ k_6_162) (fun _ h9 => h9) (mg_codes _ _) d_Mo_begins_8 ?_
  refine lv_iload_n hx hb d_Mo_begins_11 rfl (lv_at hl 0 rfl) ?_
  refine va_lald hx hb hK hP 2 1 (ma_codes _ _ _ _) rfl (zt_in fx1 (by omega) (by omega)) d_Mo_begins_12 ?_
  refine lv_topl (fun x2 ex2 => ?_)
  have gx2 : x2 = (a_codes S) ((f_size S).toInt - 1).toNat := ex2.trans (congrArg _ (zt_ix fx1))
  have fx2 : x2.toInt = ((a_codes S) ((f_size S).toInt - 1).toNat).toInt := by rw [gx2]
  have kx2 : vOk ((a_kinds S) ((f_size S).toInt - 1).toNat) ((a_codes S) ((f_size S).toInt - 1).toNat) ((a_reals S) ((f_size S).toInt - 1).toNat) := i_vals (((f_size S).toInt - 1).toNat) (by omega)
  have tpx2 : cOk x2 := by rw [gx2]; exact vk_ar8 kx2 (by omega)
  refine lv_lstore_n (lv' := [(3, .long x2), (2, .int x1), (0, .ref h0), (1, .int 53)]) hx hb d_Mo_begins_13 rfl hl (by decide) rfl (fun ls hl => ?_)
  refine lv_iload_n hx hb d_Mo_begins_14 rfl (lv_at hl 1 rfl) ?_
  refine lv_if_le (tgt := 29) hx hb d_Mo_begins_15 (by decide) (fun c15_1 => ?_) (fun c15_1 => ?_)
  · have fc15_1 : ((f_size S).toInt - 1) ≤ 0 := zt_le fx1 tI_0 c15_1
    exfalso; omega
  · have fc15_1 : 0 < ((f_size S).toInt - 1) := Int.not_le.mp (zt_nle fx1 tI_0 c15_1)
    refine lv_aload_n hx hb d_Mo_begins_18 rfl (lv_at hl 2 rfl) ?_
    refine va_get (D := D) (ci := 11) (v := .ref (ar 1)) (C := "PageScribeModel") (T := F_Mo) (N := 45) hx hb hts i_Mo hown hK hP 0 mW_0 cl_11 2 (by decide) (hts _ k_6_162) (fun _ h9 => h9) (mg_codes _ _) d_Mo_begins_19 ?_
    refine lv_iload_n hx hb d_Mo_begins_22 rfl (lv_at hl 1 rfl) ?_
    refine lv_iconst (v := 1) hx hb d_Mo_begins_23 (by decide) ?_
    refine lv_isub hx hb d_Mo_begins_24 ?_
    refine lv_topi (fun x3 ex3 => ?_)
    have fx3 : x3.toInt = ((f_size S).toInt - 2) := by rw [ex3]; exact (zt_sub fx1 tI_1 (by omega) (by omega)).trans (by omega)
    refine va_lald hx hb hK hP 2 1 (ma_codes _ _ _ _) rfl (zt_in fx3 (by omega) (by omega)) d_Mo_begins_25 ?_
    refine lv_topl (fun x4 ex4 => ?_)
    have gx4 : x4 = (a_codes S) ((f_size S).toInt - 2).toNat := ex4.trans (congrArg _ (zt_ix fx3))
    have fx4 : x4.toInt = ((a_codes S) ((f_size S).toInt - 2).toNat).toInt := by rw [gx4]
    have kx4 : vOk ((a_kinds S) ((f_size S).toInt - 2).toNat) ((a_codes S) ((f_size S).toInt - 2).toNat) ((a_reals S) ((f_size S).toInt - 2).toNat) := i_vals (((f_size S).toInt - 2).toNat) (by omega)
    have lax4 := (vk_in8 kx4 (by omega)).2
    rw [← gx4] at lax4
    refine lv_goto (tgt := 30) hx hb d_Mo_begins_26 (by decide) ?_
    refine lv_lstore (lv' := [(5, .long x4), (3, .long x2), (2, .int x1), (0, .ref h0), (1, .int 53)]) hx hb d_Mo_begins_30 hl (by decide) rfl (fun ls hl => ?_)
    refine lv_iload_n hx hb d_Mo_begins_32 rfl (lv_at hl 4 rfl) ?_
    refine lv_bipush (v := 50) hx hb d_Mo_begins_33 (by decide) ?_
    refine lv_icmp_ne (tgt := 77) hx hb d_Mo_begins_35 (by decide) (fun _ => ?_) (fun c9 => absurd c9 (by decide +kernel))
    refine lv_iload_n hx hb d_Mo_begins_77 rfl (lv_at hl 4 rfl) ?_
    refine lv_bipush (v := 54) hx hb d_Mo_begins_78 (by decide) ?_
    refine lv_icmp_ne (tgt := 92) hx hb d_Mo_begins_80 (by decide) (fun _ => ?_) (fun c9 => absurd c9 (by decide +kernel))
    refine lv_iload_n hx hb d_Mo_begins_92 rfl (lv_at hl 4 rfl) ?_
    refine lv_bipush (v := 51) hx hb d_Mo_begins_93 (by decide) ?_
    refine lv_icmp_ne (tgt := 105) hx hb d_Mo_begins_95 (by decide) (fun _ => ?_) (fun c9 => absurd c9 (by decide +kernel))
    refine lv_iload_n hx hb d_Mo_begins_105 rfl (lv_at hl 4 rfl) ?_
    refine lv_bipush (v := 52) hx hb d_Mo_begins_106 (by decide) ?_
    refine lv_icmp_ne (tgt := 128) hx hb d_Mo_begins_108 (by decide) (fun _ => ?_) (fun c9 => absurd c9 (by decide +kernel))
    refine lv_iconst (v := 0) hx hb d_Mo_begins_128 (by decide) ?_
    refine lv_istore (lv' := [(7, .int 0), (5, .long x4), (3, .long x2), (2, .int x1), (0, .ref h0), (1, .int 53)]) hx hb d_Mo_begins_129 hl (by decide) rfl (fun ls hl => ?_)
    refine lv_aload_n hx hb d_Mo_begins_131 rfl (lv_at hl 4 rfl) ?_
    refine va_get (D := D) (ci := 11) (v := .ref (ar 12)) (C := "PageScribeModel") (T := F_Mo) (N := 45) hx hb hts i_Mo hown hK hP 0 mW_0 cl_11 20 (by decide) (hts _ k_6_180) (fun _ h9 => h9) (mg_value _ _) d_Mo_begins_132 ?_
    refine lv_aload_n hx hb d_Mo_begins_135 rfl (lv_at hl 4 rfl) ?_
    refine va_get (D := D) (ci := 11) (v := .int (f_frames S)) (C := "PageScribeModel") (T := F_Mo) (N := 45) hx hb hts i_Mo hown hK hP 0 mW_0 cl_11 15 (by decide) (hts _ k_6_175) (fun _ h9 => h9) (mg_frames _ _) d_Mo_begins_136 ?_
    refine lv_iload_n hx hb d_Mo_begins_139 rfl (lv_at hl 5 rfl) ?_
    refine lv_bipush (v := 53) hx hb d_Mo_begins_140 (by decide) ?_
    refine lv_icmp_ne (tgt := 156) hx hb d_Mo_begins_142 (by decide) (fun c9 => absurd c9 (by decide +kernel)) (fun _ => ?_)
    refine lv_aload_n hx hb d_Mo_begins_145 rfl (lv_at hl 4 rfl) ?_
    refine va_get (D := D) (ci := 11) (v := .ref (ar 1)) (C := "PageScribeModel") (T := F_Mo) (N := 45) hx hb hts i_Mo hown hK hP 0 mW_0 cl_11 2 (by decide) (hts _ k_6_162) (fun _ h9 => h9) (mg_codes _ _) d_Mo_begins_146 ?_
    refine lv_iload_n hx hb d_Mo_begins_149 rfl (lv_at hl 3 rfl) ?_
    refine lv_iconst (v := 3) hx hb d_Mo_begins_150 (by decide) ?_
    refine lv_isub hx hb d_Mo_begins_151 ?_
    refine lv_topi (fun x5 ex5 => ?_)
    have fx5 : x5.toInt = ((f_size S).toInt - 4) := by rw [ex5]; exact (zt_sub fx1 tI_3 (by omega) (by omega)).trans (by omega)
    refine va_lald hx hb hK hP 2 1 (ma_codes _ _ _ _) rfl (zt_in fx5 (by omega) (by omega)) d_Mo_begins_152 ?_
    refine lv_topl (fun x6 ex6 => ?_)
    have gx6 : x6 = (a_codes S) ((f_size S).toInt - 4).toNat := ex6.trans (congrArg _ (zt_ix fx5))
    have fx6 : x6.toInt = ((a_codes S) ((f_size S).toInt - 4).toNat).toInt := by rw [gx6]
    have kx6 : vOk ((a_kinds S) ((f_size S).toInt - 4).toNat) ((a_codes S) ((f_size S).toInt - 4).toNat) ((a_reals S) ((f_size S).toInt - 4).toNat) := i_vals (((f_size S).toInt - 4).toNat) (by omega)
    have vax6 := (vk_in8 kx6 (by omega)).2
    rw [← gx6] at vax6
    refine lv_goto (tgt := 158) hx hb d_Mo_begins_153 (by decide) ?_
    refine va_last hx hb hK hP hD hS 13 1 (ma_value _ _ _ _) rfl (zt_in (show (f_frames S).toInt = _ from rfl) (by omega) (by omega)) d_Mo_begins_158 (fun H locs hP hD hS => ?_)
    rw [ms_value] at hP hD
    rw [zt_ix (show (f_frames S).toInt = _ from rfl)] at hP hD
    have hP : va_P D classes (mW T h0 ar ((S.1, S.2.1, ((f_under S), (a_what S), (a_array S), (a_far S), (vp_updL (a_value S) ((f_frames S).toInt.toNat) x6), (a_grows S), (a_last S), (a_text S)), S.2.2.2.1, S.2.2.2.2.1, S.2.2.2.2.2) : MS)) H := hP
    have hD : va_D A (mW T h0 ar ((S.1, S.2.1, ((f_under S), (a_what S), (a_array S), (a_far S), (vp_updL (a_value S) ((f_frames S).toInt.toNat) x6), (a_grows S), (a_last S), (a_text S)), S.2.2.2.1, S.2.2.2.2.1, S.2.2.2.2.2) : MS)) := hD
    refine lv_aload_n hx hb d_Mo_begins_159 rfl (lv_at hl 4 rfl) ?_
    refine va_get (D := D) (ci := 11) (v := .ref (ar 13)) (C := "PageScribeModel") (T := F_Mo) (N := 45) hx hb hts i_Mo hown hK hP 0 mW_0 cl_11 21 (by decide) (hts _ k_6_181) (fun _ h9 => h9) (mg_grows _ _) d_Mo_begins_160 ?_
    refine lv_aload_n hx hb d_Mo_begins_163 rfl (lv_at hl 4 rfl) ?_
    refine va_get (D := D) (ci := 11) (v := .int (f_frames S)) (C := "PageScribeModel") (T := F_Mo) (N := 45) hx hb hts i_Mo hown hK hP 0 mW_0 cl_11 15 (by decide) (hts _ k_6_175) (fun _ h9 => h9) (mg_frames _ _) d_Mo_begins_164 ?_
    refine lv_iload_n hx hb d_Mo_begins_167 rfl (lv_at hl 5 rfl) ?_
    refine lv_bipush (v := 53) hx hb d_Mo_begins_168 (by decide) ?_
    refine lv_icmp_ne (tgt := 184) hx hb d_Mo_begins_170 (by decide) (fun c9 => absurd c9 (by decide +kernel)) (fun _ => ?_)
    refine lv_aload_n hx hb d_Mo_begins_173 rfl (lv_at hl 4 rfl) ?_
    refine va_get (D := D) (ci := 11) (v := .ref (ar 1)) (C := "PageScribeModel") (T := F_Mo) (N := 45) hx hb hts i_Mo hown hK hP 0 mW_0 cl_11 2 (by decide) (hts _ k_6_162) (fun _ h9 => h9) (mg_codes _ _) d_Mo_begins_174 ?_
    refine lv_iload_n hx hb d_Mo_begins_177 rfl (lv_at hl 3 rfl) ?_
    refine lv_iconst (v := 2) hx hb d_Mo_begins_178 (by decide) ?_
    refine lv_isub hx hb d_Mo_begins_179 ?_
    refine lv_topi (fun x7 ex7 => ?_)
    have fx7 : x7.toInt = ((f_size S).toInt - 3) := by rw [ex7]; exact (zt_sub fx1 tI_2 (by omega) (by omega)).trans (by omega)
    refine va_lald hx hb hK hP 2 1 (ma_codes _ _ _ _) rfl (zt_in fx7 (by omega) (by omega)) d_Mo_begins_180 ?_
    refine lv_topl (fun x8 ex8 => ?_)
    have gx8 : x8 = (a_codes S) ((f_size S).toInt - 3).toNat := ex8.trans (congrArg _ (zt_ix fx7))
    have fx8 : x8.toInt = ((a_codes S) ((f_size S).toInt - 3).toNat).toInt := by rw [gx8]
    have kx8 : vOk ((a_kinds S) ((f_size S).toInt - 3).toNat) ((a_codes S) ((f_size S).toInt - 3).toNat) ((a_reals S) ((f_size S).toInt - 3).toNat) := i_vals (((f_size S).toInt - 3).toNat) (by omega)
    have grx8 := (vk_in8 kx8 (by omega)).2
    rw [← gx8] at grx8
    refine lv_goto (tgt := 185) hx hb d_Mo_begins_181 (by decide) ?_
    refine va_last hx hb hK hP hD hS 14 1 (ma_grows _ _ _ _) rfl (zt_in (show (f_frames S).toInt = _ from rfl) (by omega) (by omega)) d_Mo_begins_185 (fun H locs hP hD hS => ?_)
    rw [ms_grows] at hP hD
    rw [zt_ix (show (f_frames S).toInt = _ from rfl)] at hP hD
    have hP : va_P D classes (mW T h0 ar ((S.1, S.2.1, ((f_under S), (a_what S), (a_array S), (a_far S), (vp_updL (a_value S) ((f_frames S).toInt.toNat) x6), (vp_updL (a_grows S) ((f_frames S).toInt.toNat) x8), (a_last S), (a_text S)), S.2.2.2.1, S.2.2.2.2.1, S.2.2.2.2.2) : MS)) H := hP
    have hD : va_D A (mW T h0 ar ((S.1, S.2.1, ((f_under S), (a_what S), (a_array S), (a_far S), (vp_updL (a_value S) ((f_frames S).toInt.toNat) x6), (vp_updL (a_grows S) ((f_frames S).toInt.toNat) x8), (a_last S), (a_text S)), S.2.2.2.1, S.2.2.2.2.1, S.2.2.2.2.2) : MS)) := hD
    refine lv_aload_n hx hb d_Mo_begins_186 rfl (lv_at hl 4 rfl) ?_
    refine va_get (D := D) (ci := 11) (v := .ref (ar 14)) (C := "PageScribeModel") (T := F_Mo) (N := 45) hx hb hts i_Mo hown hK hP 0 mW_0 cl_11 22 (by decide) (hts _ k_6_182) (fun _ h9 => h9) (mg_last _ _) d_Mo_begins_187 ?_
    refine lv_aload_n hx hb d_Mo_begins_190 rfl (lv_at hl 4 rfl) ?_
    refine va_get (D := D) (ci := 11) (v := .int (f_frames S)) (C := "PageScribeModel") (T := F_Mo) (N := 45) hx hb hts i_Mo hown hK hP 0 mW_0 cl_11 15 (by decide) (hts _ k_6_175) (fun _ h9 => h9) (mg_frames _ _) d_Mo_begins_191 ?_
    refine lv_lload hx hb d_Mo_begins_194 (lv_at hl 1 rfl) ?_
    refine va_last hx hb hK hP hD hS 15 1 (ma_last _ _ _ _) rfl (zt_in (show (f_frames S).toInt = _ from rfl) (by omega) (by omega)) d_Mo_begins_196 (fun H locs hP hD hS => ?_)
    rw [ms_last] at hP hD
    rw [zt_ix (show (f_frames S).toInt = _ from rfl)] at hP hD
    have hP : va_P D classes (mW T h0 ar ((S.1, S.2.1, ((f_under S), (a_what S), (a_array S), (a_far S), (vp_updL (a_value S) ((f_frames S).toInt.toNat) x6), (vp_updL (a_grows S) ((f_frames S).toInt.toNat) x8), (vp_updL (a_last S) ((f_frames S).toInt.toNat) x4), (a_text S)), S.2.2.2.1, S.2.2.2.2.1, S.2.2.2.2.2) : MS)) H := hP
    have hD : va_D A (mW T h0 ar ((S.1, S.2.1, ((f_under S), (a_what S), (a_array S), (a_far S), (vp_updL (a_value S) ((f_frames S).toInt.toNat) x6), (vp_updL (a_grows S) ((f_frames S).toInt.toNat) x8), (vp_updL (a_last S) ((f_frames S).toInt.toNat) x4), (a_text S)), S.2.2.2.1, S.2.2.2.2.1, S.2.2.2.2.2) : MS)) := hD
    refine lv_aload_n hx hb d_Mo_begins_197 rfl (lv_at hl 4 rfl) ?_
    refine lv_dup hx hb d_Mo_begins_198 rfl ?_
    refine va_get (D := D) (ci := 11) (v := .int (f_size S)) (C := "PageScribeModel") (T := F_Mo) (N := 45) hx hb hts i_Mo hown hK hP 0 mW_0 cl_11 4 (by decide) (hts _ k_6_164) (fun _ h9 => h9) (mg_size _ _) d_Mo_begins_199 ?_
    refine lv_iload_n hx hb d_Mo_begins_202 rfl (lv_at hl 5 rfl) ?_
    refine lv_bipush (v := 53) hx hb d_Mo_begins_203 (by decide) ?_
    refine lv_icmp_ne (tgt := 212) hx hb d_Mo_begins_205 (by decide) (fun c9 => absurd c9 (by decide +kernel)) (fun _ => ?_)
    refine lv_iconst (v := 4) hx hb d_Mo_begins_208 (by decide) ?_
    refine lv_goto (tgt := 233) hx hb d_Mo_begins_209 (by decide) ?_
    refine lv_isub hx hb d_Mo_begins_233 ?_
    refine lv_topi (fun x9 ex9 => ?_)
    have fx9 : x9.toInt = ((f_size S).toInt - 4) := by rw [ex9]; exact (zt_sub (show (f_size S).toInt = _ from rfl) tI_4 (by omega) (by omega)).trans (by omega)
    refine va_put (D := D) (ci := 11) (v := .int x9) (ty := .int) (C := "PageScribeModel") (T := F_Mo) (N := 45) hx hb hts i_Mo t_Mo t_Mo_ok n_Mo hown hK hP hD hS 0 mW_0 cl_11 4 (by decide) (hts _ k_6_164) (fun _ h9 => h9) rfl (by decide +kernel) rfl rfl (Nat.le_of_ble_eq_true rfl) d_Mo_begins_234 (fun H locs hP hD hS => ?_)
    rw [mp_size] at hP hD
    have hP : va_P D classes (mW T h0 ar ((((f_thrown S), (a_kinds S), (a_codes S), (a_reals S), x9, (f_taken S), (a_words S), (a_many S)), S.2.1, ((f_under S), (a_what S), (a_array S), (a_far S), (vp_updL (a_value S) ((f_frames S).toInt.toNat) x6), (vp_updL (a_grows S) ((f_frames S).toInt.toNat) x8), (vp_updL (a_last S) ((f_frames S).toInt.toNat) x4), (a_text S)), S.2.2.2.1, S.2.2.2.2.1, S.2.2.2.2.2) : MS)) H := hP
    have hD : va_D A (mW T h0 ar ((((f_thrown S), (a_kinds S), (a_codes S), (a_reals S), x9, (f_taken S), (a_words S), (a_many S)), S.2.1, ((f_under S), (a_what S), (a_array S), (a_far S), (vp_updL (a_value S) ((f_frames S).toInt.toNat) x6), (vp_updL (a_grows S) ((f_frames S).toInt.toNat) x8), (vp_updL (a_last S) ((f_frames S).toInt.toNat) x4), (a_text S)), S.2.2.2.1, S.2.2.2.2.1, S.2.2.2.2.2) : MS)) := hD
    refine lv_iload_n hx hb d_Mo_begins_237 rfl (lv_at hl 5 rfl) ?_
    refine lv_bipush (v := 51) hx hb d_Mo_begins_238 (by decide) ?_
    refine lv_icmp_ne (tgt := 258) hx hb d_Mo_begins_240 (by decide) (fun _ => ?_) (fun c9 => absurd c9 (by decide +kernel))
    refine lv_iload_n hx hb d_Mo_begins_258 rfl (lv_at hl 5 rfl) ?_
    refine lv_bipush (v := 52) hx hb d_Mo_begins_259 (by decide) ?_
    refine lv_icmp_ne (tgt := 280) hx hb d_Mo_begins_261 (by decide) (fun _ => ?_) (fun c9 => absurd c9 (by decide +kernel))
    refine lv_aload_n hx hb d_Mo_begins_280 rfl (lv_at hl 4 rfl) ?_
    refine lv_iload_n hx hb d_Mo_begins_281 rfl (lv_at hl 5 rfl) ?_
    refine lv_bipush (v := 50) hx hb d_Mo_begins_282 (by decide) ?_
    refine lv_isub hx hb d_Mo_begins_284 ?_
    refine j_eqi (y := 3) (by decide +kernel) ?_
    refine lv_lload_n hx hb d_Mo_begins_285 rfl (lv_at hl 2 rfl) ?_
    refine jm_cv (w := (fun u => u)) hK hP hD hS hA (va_runV (As := [.int 3, .long x2]) (rest := []) F (m_frame l D T h0 ar ((((f_thrown S), (a_kinds S), (a_codes S), (a_reals S), x9, (f_taken S), (a_words S), (a_many S)), S.2.1, ((f_under S), (a_what S), (a_array S), (a_far S), (vp_updL (a_value S) ((f_frames S).toInt.toNat) x6), (vp_updL (a_grows S) ((f_frames S).toInt.toNat) x8), (vp_updL (a_last S) ((f_frames S).toInt.toNat) x4), (a_text S)), S.2.2.2.1, S.2.2.2.2.1, S.2.2.2.2.2) : MS) (3 : Int32) x2 H.size ⟨(show 0 ≤ x9.toInt ∧ x9.toInt ≤ 40 by omega), i_taken, i_vals, i_room, i_dicts, i_deep, i_open, i_cells, i_points, i_part, i_length, i_knows, i_page, i_text, i_pats, i_fuel, (fr_above i_fr (fun k hk => ⟨updL_n hk, updL_n hk, updL_n hk⟩)), i_ink⟩ (Or.inr ⟨by have := tI_3; omega, (show freeT S from h2)⟩) (show fOk 3 x2 0 ((vp_updL (a_value S) ((f_frames S).toInt.toNat) x6) (f_frames S).toInt.toNat) ((vp_updL (a_grows S) ((f_frames S).toInt.toNat) x8) (f_frames S).toInt.toNat) ((vp_updL (a_last S) ((f_frames S).toInt.toNat) x4) (f_frames S).toInt.toNat) from by rw [updL_s, updL_s, updL_s]; have := tI_3; have := tI_0; have := tJ_0; exact ⟨by omega, by omega, tpx2, fun q => by omega, fun q => by omega, fun q => ⟨by omega, by omega, by omega, by omega, fun q2 => by omega, fun q2 => by omega⟩⟩)) (j_cV (k := 2) (C := "PageScribeModel") hts k_8_59 k_1_12 k_8_56 k_8_58 k_0_129 (by decide +kernel) ⟨Nat.le_of_ble_eq_true rfl, Nat.le_of_ble_eq_true rfl⟩) (jm_pre hK hP hD) rfl rfl hl.1 rfl (lv_room (Nat.le_of_ble_eq_true rfl)) d_Mo_begins_286 ⟨Nat.le_of_ble_eq_true rfl, Nat.le_of_ble_eq_true rfl⟩) (fun S1 H locs hw1 hP hD hS => ?_)
    have hP : va_P D classes (mW T h0 ar S1) H := hP
    have hD : va_D A (mW T h0 ar S1) := hD
    obtain ⟨⟨i_size, i_taken, i_vals, i_room, i_dicts, i_deep, i_open, i_cells, i_points, i_part, i_length, i_knows, i_page, i_text, i_pats, i_fuel, i_fr, i_ink⟩, kpA_S1, qqhw1⟩ := hw1
    have kSA_S1 : kA S S1 := kA_t (show kA S ((((f_thrown S), (a_kinds S), (a_codes S), (a_reals S), x9, (f_taken S), (a_words S), (a_many S)), S.2.1, ((f_under S), (a_what S), (a_array S), (a_far S), (vp_updL (a_value S) ((f_frames S).toInt.toNat) x6), (vp_updL (a_grows S) ((f_frames S).toInt.toNat) x8), (vp_updL (a_last S) ((f_frames S).toInt.toNat) x4), (a_text S)), S.2.2.2.1, S.2.2.2.2.1, S.2.2.2.2.2) : MS) from (kA_r S)) kpA_S1
    have kST_S1 : kT S S1 := kT_t (show kT S ((((f_thrown S), (a_kinds S), (a_codes S), (a_reals S), x9, (f_taken S), (a_words S), (a_many S)), S.2.1, ((f_under S), (a_what S), (a_array S), (a_far S), (vp_updL (a_value S) ((f_frames S).toInt.toNat) x6), (vp_updL (a_grows S) ((f_frames S).toInt.toNat) x8), (vp_updL (a_last S) ((f_frames S).toInt.toNat) x4), (a_text S)), S.2.2.2.1, S.2.2.2.2.1, S.2.2.2.2.2) : MS) from (kT_r S)) (kT_A kpA_S1)
    have qhw1 : (f_frames S1).toInt = (f_frames S).toInt + 1 ∧ ((a_what S1) ((f_frames S1).toInt - 1).toNat).toInt = 3 ∧ (f_size S1) = x9 ∧ (a_kinds S1) = (a_kinds S) ∧ (a_codes S1) = (a_codes S) := by simpa only [fx9, tI_3] using qqhw1
    refine lv_iconst (v := 0) hx hb d_Mo_begins_289 (by decide) ?_
    exact j_iret F hr hlocks hK hS S1 ⟨⟨i_size, i_taken, i_vals, i_room, i_dicts, i_deep, i_open, i_cells, i_points, i_part, i_length, i_knows, i_page, i_text, i_pats, i_fuel, i_fr, i_ink⟩, kSA_S1, (show -1 ≤ (0 : Int32).toInt ∧ (0 : Int32).toInt ≤ 16 ∧ (f_frames S1).toInt ≤ (f_frames S).toInt + 1 ∧ ((0 : Int32).toInt = -1 → ((a_kinds S1) 40).toInt = 11 → 1 ≤ (f_frames S1).toInt ∧ ((a_what S1) ((f_frames S1).toInt - 1).toNat).toInt ≤ 2) by have := tI_0; refine ⟨by omega, by omega, by omega, ?_⟩; first | exact (fun q1 q2 => by omega) | assumption)⟩ hP hD d_Mo_begins_290
theorem d_Mo_begins_83 : decode prog_15_method_64_code 83 = .ok (.lload 5, 2) := by decide +kernel
theorem d_Mo_begins_85 : decode prog_15_method_64_code 85 = .ok (.lconst 0, 1) := by decide +kernel
theorem d_Mo_begins_86 : decode prog_15_method_64_code 86 = .ok (.lcmp, 1) := by decide +kernel
theorem d_Mo_begins_87 : decode prog_15_method_64_code 87 = .ok (.ifCond .ge 5, 3) := by decide +kernel
theorem d_Mo_begins_90 : decode prog_15_method_64_code 90 = .ok (.iconst 4, 1) := by decide +kernel
theorem d_Mo_begins_91 : decode prog_15_method_64_code 91 = .ok (.ireturn, 1) := by decide +kernel
set_option maxHeartbeats 4000000 in
set_option maxRecDepth 100000 in
theorem m_begins_54 (l : Launch) (D : va_G) (T : Nat → ClassId) (h0 : Nat) (ar : Nat → Nat) (S : MS)  (sz : Nat) (hI : MI S) (h1 : 2 ≤ (f_size S).toInt ∧ ((a_kinds S) ((f_size S).toInt - 1).toNat).toInt = 13) (h2 : freeT S) : Met l ⟨"PageScribeModel", "begins", "(I)I"⟩ (wy ⟨"PageScribeModel", "begins", "(I)I"⟩ prog_15_method_64_code 8 (some .int)) ({ frames := 2, cells := 0, slots := 0, locals := 140 }) (va_Pc [.ref h0, .int 54] (Pw D T (mW T h0 ar S) sz E0)) (va_Qi (fun (r : Int32) (u : MS) => MI u ∧ kA S u ∧ (-1 ≤ r.toInt ∧ r.toInt ≤ 16 ∧ (f_frames u).toInt ≤ (f_frames S).toInt + 1 ∧ (r.toInt = -1 → ((a_kinds u) 40).toInt = 11 → 1 ≤ (f_frames u).toInt ∧ ((a_what u) ((f_frames u).toInt - 1).toNat).toInt ≤ 2))) (fun u t => Bw D T (va_A (mW T h0 ar S) sz) (mW T h0 ar u) t) (va_A (mW T h0 ar S) sz)) 0 0 (va_A (mW T h0 ar S) sz) := by
  refine j_met (y := ⟨"PageScribeModel", "begins", "(I)I"⟩) (b := prog_15_method_64_code) (n := 8) (ret := (some .int)) (av := [.ref h0, .int 54]) (Qc := fun A => va_Qi (fun (r : Int32) (u : MS) => MI u ∧ kA S u ∧ (-1 ≤ r.toInt ∧ r.toInt ≤ 16 ∧ (f_frames u).toInt ≤ (f_frames S).toInt + 1 ∧ (r.toInt = -1 → ((a_kinds u) 40).toInt = 11 → 1 ≤ (f_frames u).toInt ∧ ((a_what u) ((f_frames u).toInt - 1).toNat).toInt ≤ 2))) (fun u t => Bw D T A (mW T h0 ar u) t) A) (by decide +kernel) (Nat.le_of_ble_eq_true rfl) (fun p e s m args below meth c A ls F hr hlocks hnm hK hP hD hS hA hN hE hl => ?_)
  obtain ⟨hx, hb, hml, hown, hts⟩ := id F
  have hl : lv_has ls 8 [(0, .ref h0), (1, .int 54)] := hl
  obtain ⟨i_size, i_taken, i_vals, i_room, i_dicts, i_deep, i_open, i_cells, i_points, i_part, i_length, i_knows, i_page, i_text, i_pats, i_fuel, i_fr, i_ink⟩ := id hI
  refine lv_aload_n hx hb d_Mo_begins_0 rfl (lv_at hl 0 rfl) ?_
  refine va_get (D := D) (ci := 11) (v := .int (f_size S)) (C := "PageScribeModel") (T := F_Mo) (N := 45) hx hb hts i_Mo hown hK hP 0 mW_0 cl_11 4 (by decide) (hts _ k_6_164) (fun _ h9 => h9) (mg_size _ _) d_Mo_begins_1 ?_
  refine lv_iconst (v := 1) hx hb d_Mo_begins_4 (by decide) ?_
  refine lv_isub hx hb d_Mo_begins_5 ?_
  refine lv_topi (fun x1 ex1 => ?_)
  have fx1 : x1.toInt = ((f_size S).toInt - 1) := by rw [ex1]; exact (zt_sub (show (f_size S).toInt = _ from rfl) tI_1 (by omega) (by omega)).trans (by omega)
  refine lv_istore_n (lv' := [(2, .int x1), (0, .ref h0), (1, .int 54)]) hx hb d_Mo_begins_6 rfl hl (by decide) rfl (fun ls hl => ?_)
  refine lv_aload_n hx hb d_Mo_begins_7 rfl (lv_at hl 1 rfl) ?_
  refine va_get (D := D) (ci := 11) (v := .ref (ar 1)) (C := "PageScribeModel") (T := F_Mo) (N := 45) hx hb hts i_Mo hown hK hP 0 mW_0 cl_11 2 (by decide) (hts _ k_6_162) (fun _ h9 => h9) (mg_codes _ _) d_Mo_begins_8 ?_
  refine lv_iload_n hx hb d_Mo_begins_11 rfl (lv_at hl 0 rfl) ?_
  refine va_lald hx hb hK hP 2 1 (ma_codes _ _ _ _) rfl (zt_in fx1 (by omega) (by omega)) d_Mo_begins_12 ?_
  refine lv_topl (fun x2 ex2 => ?_)
  have gx2 : x2 = (a_codes S) ((f_size S).toInt - 1).toNat := ex2.trans (congrArg _ (zt_ix fx1))
  have fx2 : x2.toInt = ((a_codes S) ((f_size S).toInt - 1).toNat).toInt := by rw [gx2]
  have kx2 : vOk ((a_kinds S) ((f_size S).toInt - 1).toNat) ((a_codes S) ((f_size S).toInt - 1).toNat) ((a_reals S) ((f_size S).toInt - 1).toNat) := i_vals (((f_size S).toInt - 1).toNat) (by omega)
  have tpx2 : cOk x2 := by rw [gx2]; exact vk_ar8 kx2 (by omega)
  refine lv_lstore_n (lv' := [(3, .long x2), (2, .int x1), (0, .ref h0), (1, .int 54)]) hx hb d_Mo_begins_13 rfl hl (by decide) rfl (fun ls hl => ?_)
  refine lv_iload_n hx hb d_Mo_begins_14 rfl (lv_at hl 1 rfl) ?_
  refine lv_if_le (tgt := 29) hx hb d_Mo_begins_15 (by decide) (fun c15_1 => ?_) (fun c15_1 => ?_)
  · have fc15_1 : ((f_size S).toInt - 1) ≤ 0 := zt_le fx1 tI_0 c15_1
    exfalso; omega
  · have fc15_1 : 0 < ((f_size S).toInt - 1) := Int.not_le.mp (zt_nle fx1 tI_0 c15_1)
    refine lv_aload_n hx hb d_Mo_begins_18 rfl (lv_at hl 2 rfl) ?_
    refine va_get (D := D) (ci := 11) (v := .ref (ar 1)) (C := "PageScribeModel") (T := F_Mo) (N := 45) hx hb hts i_Mo hown hK hP 0 mW_0 cl_11 2 (by decide) (hts _ k_6_162) (fun _ h9 => h9) (mg_codes _ _) d_Mo_begins_19 ?_
    refine lv_iload_n hx hb d_Mo_begins_22 rfl (lv_at hl 1 rfl) ?_
    refine lv_iconst (v := 1) hx hb d_Mo_begins_23 (by decide) ?_
    refine lv_isub hx hb d_Mo_begins_24 ?_
    refine lv_topi (fun x3 ex3 => ?_)
    have fx3 : x3.toInt = ((f_size S).toInt - 2) := by rw [ex3]; exact (zt_sub fx1 tI_1 (by omega) (by omega)).trans (by omega)
    refine va_lald hx hb hK hP 2 1 (ma_codes _ _ _ _) rfl (zt_in fx3 (by omega) (by omega)) d_Mo_begins_25 ?_
    refine lv_topl (fun x4 ex4 => ?_)
    have gx4 : x4 = (a_codes S) ((f_size S).toInt - 2).toNat := ex4.trans (congrArg _ (zt_ix fx3))
    have fx4 : x4.toInt = ((a_codes S) ((f_size S).toInt - 2).toNat).toInt := by rw [gx4]
    have kx4 : vOk ((a_kinds S) ((f_size S).toInt - 2).toNat) ((a_codes S) ((f_size S).toInt - 2).toNat) ((a_reals S) ((f_size S).toInt - 2).toNat) := i_vals (((f_size S).toInt - 2).toNat) (by omega)
    refine lv_goto (tgt := 30) hx hb d_Mo_begins_26 (by decide) ?_
    refine lv_lstore (lv' := [(5, .long x4), (3, .long x2), (2, .int x1), (0, .ref h0), (1, .int 54)]) hx hb d_Mo_begins_30 hl (by decide) rfl (fun ls hl => ?_)
    refine lv_iload_n hx hb d_Mo_begins_32 rfl (lv_at hl 4 rfl) ?_
    refine lv_bipush (v := 50) hx hb d_Mo_begins_33 (by decide) ?_
    refine lv_icmp_ne (tgt := 77) hx hb d_Mo_begins_35 (by decide) (fun _ => ?_) (fun c9 => absurd c9 (by decide +kernel))
    refine lv_iload_n hx hb d_Mo_begins_77 rfl (lv_at hl 4 rfl) ?_
    refine lv_bipush (v := 54) hx hb d_Mo_begins_78 (by decide) ?_
    refine lv_icmp_ne (tgt := 92) hx hb d_Mo_begins_80 (by decide) (fun c9 => absurd c9 (by decide +kernel)) (fun _ => ?_)
    refine lv_lload hx hb d_Mo_begins_83 (lv_at hl 0 rfl) ?_
    refine lv_lconst (v := 0) hx hb d_Mo_begins_85 (by decide) ?_
    refine W.lcmp hx hb d_Mo_begins_86 ?_
    refine lv_topi (fun x5 ex5 => ?_)
    refine lv_if_ge (tgt := 92) hx hb d_Mo_begins_87 (by decide) (fun c87_1 => ?_) (fun c87_1 => ?_)
    · have fc87_1 : 0 ≤ x5.toInt := zt_le tI_0 (show x5.toInt = _ from rfl) c87_1
      have vc87_1 : x4.toInt ≥ 0 := by have := zr_cmp ex5 (show x4.toInt = _ from rfl) tJ_0; have := zt_le tI_0 (show x5.toInt = _ from rfl) c87_1; omega
      refine lv_iload_n hx hb d_Mo_begins_92 rfl (lv_at hl 4 rfl) ?_
      refine lv_bipush (v := 51) hx hb d_Mo_begins_93 (by decide) ?_
      refine lv_icmp_ne (tgt := 105) hx hb d_Mo_begins_95 (by decide) (fun _ => ?_) (fun c9 => absurd c9 (by decide +kernel))
      refine lv_iload_n hx hb d_Mo_begins_105 rfl (lv_at hl 4 rfl) ?_
      refine lv_bipush (v := 52) hx hb d_Mo_begins_106 (by decide) ?_
      refine lv_icmp_ne (tgt := 128) hx hb d_Mo_begins_108 (by decide) (fun _ => ?_) (fun c9 => absurd c9 (by decide +kernel))
      refine lv_iconst (v := 0) hx hb d_Mo_begins_128 (by decide) ?_
      refine lv_istore (lv' := [(7, .int 0), (5, .long x4), (3, .long x2), (2, .int x1), (0, .ref h0), (1, .int 54)]) hx hb d_Mo_begins_129 hl (by decide) rfl (fun ls hl => ?_)
      refine lv_aload_n hx hb d_Mo_begins_131 rfl (lv_at hl 4 rfl) ?_
      refine va_get (D := D) (ci := 11) (v := .ref (ar 12)) (C := "PageScribeModel") (T := F_Mo) (N := 45) hx hb hts i_Mo hown hK hP 0 mW_0 cl_11 20 (by decide) (hts _ k_6_180) (fun _ h9 => h9) (mg_value _ _) d_Mo_begins_132 ?_
      refine lv_aload_n hx hb d_Mo_begins_135 rfl (lv_at hl 4 rfl) ?_
      refine va_get (D := D) (ci := 11) (v := .int (f_frames S)) (C := "PageScribeModel") (T := F_Mo) (N := 45) hx hb hts i_Mo hown hK hP 0 mW_0 cl_11 15 (by decide) (hts _ k_6_175) (fun _ h9 => h9) (mg_frames _ _) d_Mo_begins_136 ?_
      refine lv_iload_n hx hb d_Mo_begins_139 rfl (lv_at hl 5 rfl) ?_
      refine lv_bipush (v := 53) hx hb d_Mo_begins_140 (by decide) ?_
      refine lv_icmp_ne (tgt := 156) hx hb d_Mo_begins_142 (by decide) (fun _ => ?_) (fun c9 => absurd c9 (by decide +kernel))
      refine lv_lload hx hb d_Mo_begins_156 (lv_at hl 1 rfl) ?_
      refine va_last hx hb hK hP hD hS 13 1 (ma_value _ _ _ _) rfl (zt_in (show (f_frames S).toInt = _ from rfl) (by omega) (by omega)) d_Mo_begins_158 (fun H locs hP hD hS => ?_)
      rw [ms_value] at hP hD
      rw [zt_ix (show (f_frames S).toInt = _ from rfl)] at hP hD
      have hP : va_P D classes (mW T h0 ar ((S.1, S.2.1, ((f_under S), (a_what S), (a_array S), (a_far S), (vp_updL (a_value S) ((f_frames S).toInt.toNat) x4), (a_grows S), (a_last S), (a_text S)), S.2.2.2.1, S.2.2.2.2.1, S.2.2.2.2.2) : MS)) H := hP
      have hD : va_D A (mW T h0 ar ((S.1, S.2.1, ((f_under S), (a_what S), (a_array S), (a_far S), (vp_updL (a_value S) ((f_frames S).toInt.toNat) x4), (a_grows S), (a_last S), (a_text S)), S.2.2.2.1, S.2.2.2.2.1, S.2.2.2.2.2) : MS)) := hD
      refine lv_aload_n hx hb d_Mo_begins_159 rfl (lv_at hl 4 rfl) ?_
      refine va_get (D := D) (ci := 11) (v := .ref (ar 13)) (C := "PageScribeModel") (T := F_Mo) (N := 45) hx hb hts i_Mo hown hK hP 0 mW_0 cl_11 21 (by decide) (hts _ k_6_181) (fun _ h9 => h9) (mg_grows _ _) d_Mo_begins_160 ?_
      refine lv_aload_n hx hb d_Mo_begins_163 rfl (lv_at hl 4 rfl) ?_
      refine va_get (D := D) (ci := 11) (v := .int (f_frames S)) (C := "PageScribeModel") (T := F_Mo) (N := 45) hx hb hts i_Mo hown hK hP 0 mW_0 cl_11 15 (by decide) (hts _ k_6_175) (fun _ h9 => h9) (mg_frames _ _) d_Mo_begins_164 ?_
      refine lv_iload_n hx hb d_Mo_begins_167 rfl (lv_at hl 5 rfl) ?_
      refine lv_bipush (v := 53) hx hb d_Mo_begins_168 (by decide) ?_
      refine lv_icmp_ne (tgt := 184) hx hb d_Mo_begins_170 (by decide) (fun _ => ?_) (fun c9 => absurd c9 (by decide +kernel))
      refine lv_lconst (v := 0) hx hb d_Mo_begins_184 (by decide) ?_
      refine va_last hx hb hK hP hD hS 14 1 (ma_grows _ _ _ _) rfl (zt_in (show (f_frames S).toInt = _ from rfl) (by omega) (by omega)) d_Mo_begins_185 (fun H locs hP hD hS => ?_)
      rw [ms_grows] at hP hD
      rw [zt_ix (show (f_frames S).toInt = _ from rfl)] at hP hD
      have hP : va_P D classes (mW T h0 ar ((S.1, S.2.1, ((f_under S), (a_what S), (a_array S), (a_far S), (vp_updL (a_value S) ((f_frames S).toInt.toNat) x4), (vp_updL (a_grows S) ((f_frames S).toInt.toNat) (0 : Int64)), (a_last S), (a_text S)), S.2.2.2.1, S.2.2.2.2.1, S.2.2.2.2.2) : MS)) H := hP
      have hD : va_D A (mW T h0 ar ((S.1, S.2.1, ((f_under S), (a_what S), (a_array S), (a_far S), (vp_updL (a_value S) ((f_frames S).toInt.toNat) x4), (vp_updL (a_grows S) ((f_frames S).toInt.toNat) (0 : Int64)), (a_last S), (a_text S)), S.2.2.2.1, S.2.2.2.2.1, S.2.2.2.2.2) : MS)) := hD
      refine lv_aload_n hx hb d_Mo_begins_186 rfl (lv_at hl 4 rfl) ?_
      refine va_get (D := D) (ci := 11) (v := .ref (ar 14)) (C := "PageScribeModel") (T := F_Mo) (N := 45) hx hb hts i_Mo hown hK hP 0 mW_0 cl_11 22 (by decide) (hts _ k_6_182) (fun _ h9 => h9) (mg_last _ _) d_Mo_begins_187 ?_
      refine lv_aload_n hx hb d_Mo_begins_190 rfl (lv_at hl 4 rfl) ?_
      refine va_get (D := D) (ci := 11) (v := .int (f_frames S)) (C := "PageScribeModel") (T := F_Mo) (N := 45) hx hb hts i_Mo hown hK hP 0 mW_0 cl_11 15 (by decide) (hts _ k_6_175) (fun _ h9 => h9) (mg_frames _ _) d_Mo_begins_191 ?_
      refine lv_lload hx hb d_Mo_begins_194 (lv_at hl 1 rfl) ?_
      refine va_last hx hb hK hP hD hS 15 1 (ma_last _ _ _ _) rfl (zt_in (show (f_frames S).toInt = _ from rfl) (by omega) (by omega)) d_Mo_begins_196 (fun H locs hP hD hS => ?_)
      rw [ms_last] at hP hD
      rw [zt_ix (show (f_frames S).toInt = _ from rfl)] at hP hD
      have hP : va_P D classes (mW T h0 ar ((S.1, S.2.1, ((f_under S), (a_what S), (a_array S), (a_far S), (vp_updL (a_value S) ((f_frames S).toInt.toNat) x4), (vp_updL (a_grows S) ((f_frames S).toInt.toNat) (0 : Int64)), (vp_updL (a_last S) ((f_frames S).toInt.toNat) x4), (a_text S)), S.2.2.2.1, S.2.2.2.2.1, S.2.2.2.2.2) : MS)) H := hP
      have hD : va_D A (mW T h0 ar ((S.1, S.2.1, ((f_under S), (a_what S), (a_array S), (a_far S), (vp_updL (a_value S) ((f_frames S).toInt.toNat) x4), (vp_updL (a_grows S) ((f_frames S).toInt.toNat) (0 : Int64)), (vp_updL (a_last S) ((f_frames S).toInt.toNat) x4), (a_text S)), S.2.2.2.1, S.2.2.2.2.1, S.2.2.2.2.2) : MS)) := hD
      refine lv_aload_n hx hb d_Mo_begins_197 rfl (lv_at hl 4 rfl) ?_
      refine lv_dup hx hb d_Mo_begins_198 rfl ?_
      refine va_get (D := D) (ci := 11) (v := .int (f_size S)) (C := "PageScribeModel") (T := F_Mo) (N := 45) hx hb hts i_Mo hown hK hP 0 mW_0 cl_11 4 (by decide) (hts _ k_6_164) (fun _ h9 => h9) (mg_size _ _) d_Mo_begins_199 ?_
      refine lv_iload_n hx hb d_Mo_begins_202 rfl (lv_at hl 5 rfl) ?_
      refine lv_bipush (v := 53) hx hb d_Mo_begins_203 (by decide) ?_
      refine lv_icmp_ne (tgt := 212) hx hb d_Mo_begins_205 (by decide) (fun _ => ?_) (fun c9 => absurd c9 (by decide +kernel))
      refine lv_iload_n hx hb d_Mo_begins_212 rfl (lv_at hl 5 rfl) ?_
      refine lv_bipush (v := 52) hx hb d_Mo_begins_213 (by decide) ?_
      refine lv_icmp_ne (tgt := 222) hx hb d_Mo_begins_215 (by decide) (fun _ => ?_) (fun c9 => absurd c9 (by decide +kernel))
      refine lv_iload_n hx hb d_Mo_begins_222 rfl (lv_at hl 5 rfl) ?_
      refine lv_bipush (v := 55) hx hb d_Mo_begins_223 (by decide) ?_
      refine lv_icmp_ne (tgt := 232) hx hb d_Mo_begins_225 (by decide) (fun _ => ?_) (fun c9 => absurd c9 (by decide +kernel))
      refine lv_iconst (v := 2) hx hb d_Mo_begins_232 (by decide) ?_
      refine lv_isub hx hb d_Mo_begins_233 ?_
      refine lv_topi (fun x6 ex6 => ?_)
      have fx6 : x6.toInt = ((f_size S).toInt - 2) := by rw [ex6]; exact (zt_sub (show (f_size S).toInt = _ from rfl) tI_2 (by omega) (by omega)).trans (by omega)
      refine va_put (D := D) (ci := 11) (v := .int x6) (ty := .int) (C := "PageScribeModel") (T := F_Mo) (N := 45) hx hb hts i_Mo t_Mo t_Mo_ok n_Mo hown hK hP hD hS 0 mW_0 cl_11 4 (by decide) (hts _ k_6_164) (fun _ h9 => h9) rfl (by decide +kernel) rfl rfl (Nat.le_of_ble_eq_true rfl) d_Mo_begins_234 (fun H locs hP hD hS => ?_)
      rw [mp_size] at hP hD
      have hP : va_P D classes (mW T h0 ar ((((f_thrown S), (a_kinds S), (a_codes S), (a_reals S), x6, (f_taken S), (a_words S), (a_many S)), S.2.1, ((f_under S), (a_what S), (a_array S), (a_far S), (vp_updL (a_value S) ((f_frames S).toInt.toNat) x4), (vp_updL (a_grows S) ((f_frames S).toInt.toNat) (0 : Int64)), (vp_updL (a_last S) ((f_frames S).toInt.toNat) x4), (a_text S)), S.2.2.2.1, S.2.2.2.2.1, S.2.2.2.2.2) : MS)) H := hP
      have hD : va_D A (mW T h0 ar ((((f_thrown S), (a_kinds S), (a_codes S), (a_reals S), x6, (f_taken S), (a_words S), (a_many S)), S.2.1, ((f_under S), (a_what S), (a_array S), (a_far S), (vp_updL (a_value S) ((f_frames S).toInt.toNat) x4), (vp_updL (a_grows S) ((f_frames S).toInt.toNat) (0 : Int64)), (vp_updL (a_last S) ((f_frames S).toInt.toNat) x4), (a_text S)), S.2.2.2.1, S.2.2.2.2.1, S.2.2.2.2.2) : MS)) := hD
      refine lv_iload_n hx hb d_Mo_begins_237 rfl (lv_at hl 5 rfl) ?_
      refine lv_bipush (v := 51) hx hb d_Mo_begins_238 (by decide) ?_
      refine lv_icmp_ne (tgt := 258) hx hb d_Mo_begins_240 (by decide) (fun _ => ?_) (fun c9 => absurd c9 (by decide +kernel))
      refine lv_iload_n hx hb d_Mo_begins_258 rfl (lv_at hl 5 rfl) ?_
      refine lv_bipush (v := 52) hx hb d_Mo_begins_259 (by decide) ?_
      refine lv_icmp_ne (tgt := 280) hx hb d_Mo_begins_261 (by decide) (fun _ => ?_) (fun c9 => absurd c9 (by decide +kernel))
      refine lv_aload_n hx hb d_Mo_begins_280 rfl (lv_at hl 4 rfl) ?_
      refine lv_iload_n hx hb d_Mo_begins_281 rfl (lv_at hl 5 rfl) ?_
      refine lv_bipush (v := 50) hx hb d_Mo_begins_282 (by decide) ?_
      refine lv_isub hx hb d_Mo_begins_284 ?_
      refine j_eqi (y := 4) (by decide +kernel) ?_
      refine lv_lload_n hx hb d_Mo_begins_285 rfl (lv_at hl 2 rfl) ?_
      refine jm_cv (w := (fun u => u)) hK hP hD hS hA (va_runV (As := [.int 4, .long x2]) (rest := []) F (m_frame l D T h0 ar ((((f_thrown S), (a_kinds S), (a_codes S), (a_reals S), x6, (f_taken S), (a_words S), (a_many S)), S.2.1, ((f_under S), (a_what S), (a_array S), (a_far S), (vp_updL (a_value S) ((f_frames S).toInt.toNat) x4), (vp_updL (a_grows S) ((f_frames S).toInt.toNat) (0 : Int64)), (vp_updL (a_last S) ((f_frames S).toInt.toNat) x4), (a_text S)), S.2.2.2.1, S.2.2.2.2.1, S.2.2.2.2.2) : MS) (4 : Int32) x2 H.size ⟨(show 0 ≤ x6.toInt ∧ x6.toInt ≤ 40 by omega), i_taken, i_vals, i_room, i_dicts, i_deep, i_open, i_cells, i_points, i_part, i_length, i_knows, i_page, i_text, i_pats, i_fuel, (fr_above i_fr (fun k hk => ⟨updL_n hk, updL_n hk, updL_n hk⟩)), i_ink⟩ (Or.inr ⟨by have := tI_4; omega, (show freeT S from h2)⟩) (show fOk 4 x2 0 ((vp_updL (a_value S) ((f_frames S).toInt.toNat) x4) (f_frames S).toInt.toNat) ((vp_updL (a_grows S) ((f_frames S).toInt.toNat) (0 : Int64)) (f_frames S).toInt.toNat) ((vp_updL (a_last S) ((f_frames S).toInt.toNat) x4) (f_frames S).toInt.toNat) from by rw [updL_s, updL_s, updL_s]; have := tI_4; have := tI_0; have := tJ_0; exact ⟨by omega, by omega, tpx2, fun q => by omega, fun q => by omega, fun q => by omega⟩)) (j_cV (k := 2) (C := "PageScribeModel") hts k_8_59 k_1_12 k_8_56 k_8_58 k_0_129 (by decide +kernel) ⟨Nat.le_of_ble_eq_true rfl, Nat.le_of_ble_eq_true rfl⟩) (jm_pre hK hP hD) rfl rfl hl.1 rfl (lv_room (Nat.le_of_ble_eq_true rfl)) d_Mo_begins_286 ⟨Nat.le_of_ble_eq_true rfl, Nat.le_of_ble_eq_true rfl⟩) (fun S1 H locs hw1 hP hD hS => ?_)
      have hP : va_P D classes (mW T h0 ar S1) H := hP
      have hD : va_D A (mW T h0 ar S1) := hD
      obtain ⟨⟨i_size, i_taken, i_vals, i_room, i_dicts, i_deep, i_open, i_cells, i_points, i_part, i_length, i_knows, i_page, i_text, i_pats, i_fuel, i_fr, i_ink⟩, kpA_S1, qqhw1⟩ := hw1
      have kSA_S1 : kA S S1 := kA_t (show kA S ((((f_thrown S), (a_kinds S), (a_codes S), (a_reals S), x6, (f_taken S), (a_words S), (a_many S)), S.2.1, ((f_under S), (a_what S), (a_array S), (a_far S), (vp_updL (a_value S) ((f_frames S).toInt.toNat) x4), (vp_updL (a_grows S) ((f_frames S).toInt.toNat) (0 : Int64)), (vp_updL (a_last S) ((f_frames S).toInt.toNat) x4), (a_text S)), S.2.2.2.1, S.2.2.2.2.1, S.2.2.2.2.2) : MS) from (kA_r S)) kpA_S1
      have kST_S1 : kT S S1 := kT_t (show kT S ((((f_thrown S), (a_kinds S), (a_codes S), (a_reals S), x6, (f_taken S), (a_words S), (a_many S)), S.2.1, ((f_under S), (a_what S), (a_array S), (a_far S), (vp_updL (a_value S) ((f_frames S).toInt.toNat) x4), (vp_updL (a_grows S) ((f_frames S).toInt.toNat) (0 : Int64)), (vp_updL (a_last S) ((f_frames S).toInt.toNat) x4), (a_text S)), S.2.2.2.1, S.2.2.2.2.1, S.2.2.2.2.2) : MS) from (kT_r S)) (kT_A kpA_S1)
      have qhw1 : (f_frames S1).toInt = (f_frames S).toInt + 1 ∧ ((a_what S1) ((f_frames S1).toInt - 1).toNat).toInt = 4 ∧ (f_size S1) = x6 ∧ (a_kinds S1) = (a_kinds S) ∧ (a_codes S1) = (a_codes S) := by simpa only [fx6, tI_4] using qqhw1
      refine lv_iconst (v := 0) hx hb d_Mo_begins_289 (by decide) ?_
      exact j_iret F hr hlocks hK hS S1 ⟨⟨i_size, i_taken, i_vals, i_room, i_dicts, i_deep, i_open, i_cells, i_points, i_part, i_length, i_knows, i_page, i_text, i_pats, i_fuel, i_fr, i_ink⟩, kSA_S1, (show -1 ≤ (0 : Int32).toInt ∧ (0 : Int32).toInt ≤ 16 ∧ (f_frames S1).toInt ≤ (f_frames S).toInt + 1 ∧ ((0 : Int32).toInt = -1 → ((a_kinds S1) 40).toInt = 11 → 1 ≤ (f_frames S1).toInt ∧ ((a_what S1) ((f_frames S1).toInt - 1).toNat).toInt ≤ 2) by have := tI_0; refine ⟨by omega, by omega, by omega, ?_⟩; first | exact (fun q1 q2 => by omega) | assumption)⟩ hP hD d_Mo_begins_290
    · have fc87_1 : x5.toInt < 0 := Int.not_le.mp (zt_nle tI_0 (show x5.toInt = _ from rfl) c87_1)
      have vc87_1 : x4.toInt < 0 := by have := zr_cmp ex5 (show x4.toInt = _ from rfl) tJ_0; have := Int.not_le.mp (zt_nle tI_0 (show x5.toInt = _ from rfl) c87_1); omega
      refine lv_iconst (v := 4) hx hb d_Mo_begins_90 (by decide) ?_
      exact j_iret F hr hlocks hK hS S ⟨⟨i_size, i_taken, i_vals, i_room, i_dicts, i_deep, i_open, i_cells, i_points, i_part, i_length, i_knows, i_page, i_text, i_pats, i_fuel, i_fr, i_ink⟩, (kA_r S), (show -1 ≤ (4 : Int32).toInt ∧ (4 : Int32).toInt ≤ 16 ∧ (f_frames S).toInt ≤ (f_frames S).toInt + 1 ∧ ((4 : Int32).toInt = -1 → ((a_kinds S) 40).toInt = 11 → 1 ≤ (f_frames S).toInt ∧ ((a_what S) ((f_frames S).toInt - 1).toNat).toInt ≤ 2) by have := tI_4; refine ⟨by omega, by omega, by omega, ?_⟩; first | exact (fun q1 q2 => by omega) | assumption)⟩ hP hD d_Mo_begins_91
theorem d_Mo_begins_228 : decode prog_15_method_64_code 228 = .ok (.iconst 1, 1) := by decide +kernel
theorem d_Mo_begins_229 : decode prog_15_method_64_code 229 = .ok (.goto 4, 3) := by decide +kernel
set_option maxHeartbeats 4000000 in
set_option maxRecDepth 100000 in
theorem m_begins_55 (l : Launch) (D : va_G) (T : Nat → ClassId) (h0 : Nat) (ar : Nat → Nat) (S : MS)  (sz : Nat) (hI : MI S) (h1 : 1 ≤ (f_size S).toInt ∧ ((a_kinds S) ((f_size S).toInt - 1).toNat).toInt = 13) (h2 : freeT S) : Met l ⟨"PageScribeModel", "begins", "(I)I"⟩ (wy ⟨"PageScribeModel", "begins", "(I)I"⟩ prog_15_method_64_code 8 (some .int)) ({ frames := 2, cells := 0, slots := 0, locals := 140 }) (va_Pc [.ref h0, .int 55] (Pw D T (mW T h0 ar S) sz E0)) (va_Qi (fun (r : Int32) (u : MS) => MI u ∧ kA S u ∧ (-1 ≤ r.toInt ∧ r.toInt ≤ 16 ∧ (f_frames u).toInt ≤ (f_frames S).toInt + 1 ∧ (r.toInt = -1 → ((a_kinds u) 40).toInt = 11 → 1 ≤ (f_frames u).toInt ∧ ((a_what u) ((f_frames u).toInt - 1).toNat).toInt ≤ 2))) (fun u t => Bw D T (va_A (mW T h0 ar S) sz) (mW T h0 ar u) t) (va_A (mW T h0 ar S) sz)) 0 0 (va_A (mW T h0 ar S) sz) := by
  refine j_met (y := ⟨"PageScribeModel", "begins", "(I)I"⟩) (b := prog_15_method_64_code) (n := 8) (ret := (some .int)) (av := [.ref h0, .int 55]) (Qc := fun A => va_Qi (fun (r : Int32) (u : MS) => MI u ∧ kA S u ∧ (-1 ≤ r.toInt ∧ r.toInt ≤ 16 ∧ (f_frames u).toInt ≤ (f_frames S).toInt + 1 ∧ (r.toInt = -1 → ((a_kinds u) 40).toInt = 11 → 1 ≤ (f_frames u).toInt ∧ ((a_what u) ((f_frames u).toInt - 1).toNat).toInt ≤ 2))) (fun u t => Bw D T A (mW T h0 ar u) t) A) (by decide +kernel) (Nat.le_of_ble_eq_true rfl) (fun p e s m args below meth c A ls F hr hlocks hnm hK hP hD hS hA hN hE hl => ?_)
  obtain ⟨hx, hb, hml, hown, hts⟩ := id F
  have hl : lv_has ls 8 [(0, .ref h0), (1, .int 55)] := hl
  obtain ⟨i_size, i_taken, i_vals, i_room, i_dicts, i_deep, i_open, i_cells, i_points, i_part, i_length, i_knows, i_page, i_text, i_pats, i_fuel, i_fr, i_ink⟩ := id hI
  refine lv_aload_n hx hb d_Mo_begins_0 rfl (lv_at hl 0 rfl) ?_
  refine va_get (D := D) (ci := 11) (v := .int (f_size S)) (C := "PageScribeModel") (T := F_Mo) (N := 45) hx hb hts i_Mo hown hK hP 0 mW_0 cl_11 4 (by decide) (hts _ k_6_164) (fun _ h9 => h9) (mg_size _ _) d_Mo_begins_1 ?_
  refine lv_iconst (v := 1) hx hb d_Mo_begins_4 (by decide) ?_
  refine lv_isub hx hb d_Mo_begins_5 ?_
  refine lv_topi (fun x1 ex1 => ?_)
  have fx1 : x1.toInt = ((f_size S).toInt - 1) := by rw [ex1]; exact (zt_sub (show (f_size S).toInt = _ from rfl) tI_1 (by omega) (by omega)).trans (by omega)
  refine lv_istore_n (lv' := [(2, .int x1), (0, .ref h0), (1, .int 55)]) hx hb d_Mo_begins_6 rfl hl (by decide) rfl (fun ls hl => ?_)
  refine lv_aload_n hx hb d_Mo_begins_7 rfl (lv_at hl 1 rfl) ?_
  refine va_get (D := D) (ci := 11) (v := .ref (ar 1)) (C := "PageScribeModel") (T := F_Mo) (N := 45) hx hb hts i_Mo hown hK hP 0 mW_0 cl_11 2 (by decide) (hts _ k_6_162) (fun _ h9 => h9) (mg_codes _ _) d_Mo_begins_8 ?_
  refine lv_iload_n hx hb d_Mo_begins_11 rfl (lv_at hl 0 rfl) ?_
  refine va_lald hx hb hK hP 2 1 (ma_codes _ _ _ _) rfl (zt_in fx1 (by omega) (by omega)) d_Mo_begins_12 ?_
  refine lv_topl (fun x2 ex2 => ?_)
  have gx2 : x2 = (a_codes S) ((f_size S).toInt - 1).toNat := ex2.trans (congrArg _ (zt_ix fx1))
  have fx2 : x2.toInt = ((a_codes S) ((f_size S).toInt - 1).toNat).toInt := by rw [gx2]
  have kx2 : vOk ((a_kinds S) ((f_size S).toInt - 1).toNat) ((a_codes S) ((f_size S).toInt - 1).toNat) ((a_reals S) ((f_size S).toInt - 1).toNat) := i_vals (((f_size S).toInt - 1).toNat) (by omega)
  have tpx2 : cOk x2 := by rw [gx2]; exact vk_ar8 kx2 (by omega)
  refine lv_lstore_n (lv' := [(3, .long x2), (2, .int x1), (0, .ref h0), (1, .int 55)]) hx hb d_Mo_begins_13 rfl hl (by decide) rfl (fun ls hl => ?_)
  refine j_joinH (α := Int64) (fun x H locs ls => (True) ∧ va_P D classes (mW T h0 ar S) H ∧ va_D A (mW T h0 ar S) ∧ va_S A s.heap H locs ∧ lv_has ls 8 [(3, .long x2), (2, .int x1), (0, .ref h0), (1, .int 55)]) (fun x ls => F0 m 30 ls (.long x :: [])) (fun x H locs ls hI9 => ?_) (fun key1 => ?_)
  · obtain ⟨j1, rfl⟩ : ∃ z, z = x := ⟨_, rfl⟩
    obtain ⟨hj1, hP, hD, hS, hl⟩ := hI9
    have hP : va_P D classes (mW T h0 ar S) H := hP
    have hD : va_D A (mW T h0 ar S) := hD
    have hl : lv_has ls 8 [(3, .long x2), (2, .int x1), (0, .ref h0), (1, .int 55)] := hl
    refine lv_lstore (lv' := [(5, .long j1), (3, .long x2), (2, .int x1), (0, .ref h0), (1, .int 55)]) hx hb d_Mo_begins_30 hl (by decide) rfl (fun ls hl => ?_)
    refine lv_iload_n hx hb d_Mo_begins_32 rfl (lv_at hl 4 rfl) ?_
    refine lv_bipush (v := 50) hx hb d_Mo_begins_33 (by decide) ?_
    refine lv_icmp_ne (tgt := 77) hx hb d_Mo_begins_35 (by decide) (fun _ => ?_) (fun c9 => absurd c9 (by decide +kernel))
    refine lv_iload_n hx hb d_Mo_begins_77 rfl (lv_at hl 4 rfl) ?_
    refine lv_bipush (v := 54) hx hb d_Mo_begins_78 (by decide) ?_
    refine lv_icmp_ne (tgt := 92) hx hb d_Mo_begins_80 (by decide) (fun _ => ?_) (fun c9 => absurd c9 (by decide +kernel))
    refine lv_iload_n hx hb d_Mo_begins_92 rfl (lv_at hl 4 rfl) ?_
    refine lv_bipush (v := 51) hx hb d_Mo_begins_93 (by decide) ?_
    refine lv_icmp_ne (tgt := 105) hx hb d_Mo_begins_95 (by decide) (fun _ => ?_) (fun c9 => absurd c9 (by decide +kernel))
    refine lv_iload_n hx hb d_Mo_begins_105 rfl (lv_at hl 4 rfl) ?_
    refine lv_bipush (v := 52) hx hb d_Mo_begins_106 (by decide) ?_
    refine lv_icmp_ne (tgt := 128) hx hb d_Mo_begins_108 (by decide) (fun _ => ?_) (fun c9 => absurd c9 (by decide +kernel))
    refine lv_iconst (v := 0) hx hb d_Mo_begins_128 (by decide) ?_
    refine lv_istore (lv' := [(7, .int 0), (5, .long j1), (3, .long x2), (2, .int x1), (0, .ref h0), (1, .int 55)]) hx hb d_Mo_begins_129 hl (by decide) rfl (fun ls hl => ?_)
    refine lv_aload_n hx hb d_Mo_begins_131 rfl (lv_at hl 4 rfl) ?_
    refine va_get (D := D) (ci := 11) (v := .ref (ar 12)) (C := "PageScribeModel") (T := F_Mo) (N := 45) hx hb hts i_Mo hown hK hP 0 mW_0 cl_11 20 (by decide) (hts _ k_6_180) (fun _ h9 => h9) (mg_value _ _) d_Mo_begins_132 ?_
    refine lv_aload_n hx hb d_Mo_begins_135 rfl (lv_at hl 4 rfl) ?_
    refine va_get (D := D) (ci := 11) (v := .int (f_frames S)) (C := "PageScribeModel") (T := F_Mo) (N := 45) hx hb hts i_Mo hown hK hP 0 mW_0 cl_11 15 (by decide) (hts _ k_6_175) (fun _ h9 => h9) (mg_frames _ _) d_Mo_begins_136 ?_
    refine lv_iload_n hx hb d_Mo_begins_139 rfl (lv_at hl 5 rfl) ?_
    refine lv_bipush (v := 53) hx hb d_Mo_begins_140 (by decide) ?_
    refine lv_icmp_ne (tgt := 156) hx hb d_Mo_begins_142 (by decide) (fun _ => ?_) (fun c9 => absurd c9 (by decide +kernel))
    refine lv_lload hx hb d_Mo_begins_156 (lv_at hl 1 rfl) ?_
    refine va_last hx hb hK hP hD hS 13 1 (ma_value _ _ _ _) rfl (zt_in (show (f_frames S).toInt = _ from rfl) (by omega) (by omega)) d_Mo_begins_158 (fun H locs hP hD hS => ?_)
    rw [ms_value] at hP hD
    rw [zt_ix (show (f_frames S).toInt = _ from rfl)] at hP hD
    have hP : va_P D classes (mW T h0 ar ((S.1, S.2.1, ((f_under S), (a_what S), (a_array S), (a_far S), (vp_updL (a_value S) ((f_frames S).toInt.toNat) j1), (a_grows S), (a_last S), (a_text S)), S.2.2.2.1, S.2.2.2.2.1, S.2.2.2.2.2) : MS)) H := hP
    have hD : va_D A (mW T h0 ar ((S.1, S.2.1, ((f_under S), (a_what S), (a_array S), (a_far S), (vp_updL (a_value S) ((f_frames S).toInt.toNat) j1), (a_grows S), (a_last S), (a_text S)), S.2.2.2.1, S.2.2.2.2.1, S.2.2.2.2.2) : MS)) := hD
    refine lv_aload_n hx hb d_Mo_begins_159 rfl (lv_at hl 4 rfl) ?_
    refine va_get (D := D) (ci := 11) (v := .ref (ar 13)) (C := "PageScribeModel") (T := F_Mo) (N := 45) hx hb hts i_Mo hown hK hP 0 mW_0 cl_11 21 (by decide) (hts _ k_6_181) (fun _ h9 => h9) (mg_grows _ _) d_Mo_begins_160 ?_
    refine lv_aload_n hx hb d_Mo_begins_163 rfl (lv_at hl 4 rfl) ?_
    refine va_get (D := D) (ci := 11) (v := .int (f_frames S)) (C := "PageScribeModel") (T := F_Mo) (N := 45) hx hb hts i_Mo hown hK hP 0 mW_0 cl_11 15 (by decide) (hts _ k_6_175) (fun _ h9 => h9) (mg_frames _ _) d_Mo_begins_164 ?_
    refine lv_iload_n hx hb d_Mo_begins_167 rfl (lv_at hl 5 rfl) ?_
    refine lv_bipush (v := 53) hx hb d_Mo_begins_168 (by decide) ?_
    refine lv_icmp_ne (tgt := 184) hx hb d_Mo_begins_170 (by decide) (fun _ => ?_) (fun c9 => absurd c9 (by decide +kernel))
    refine lv_lconst (v := 0) hx hb d_Mo_begins_184 (by decide) ?_
    refine va_last hx hb hK hP hD hS 14 1 (ma_grows _ _ _ _) rfl (zt_in (show (f_frames S).toInt = _ from rfl) (by omega) (by omega)) d_Mo_begins_185 (fun H locs hP hD hS => ?_)
    rw [ms_grows] at hP hD
    rw [zt_ix (show (f_frames S).toInt = _ from rfl)] at hP hD
    have hP : va_P D classes (mW T h0 ar ((S.1, S.2.1, ((f_under S), (a_what S), (a_array S), (a_far S), (vp_updL (a_value S) ((f_frames S).toInt.toNat) j1), (vp_updL (a_grows S) ((f_frames S).toInt.toNat) (0 : Int64)), (a_last S), (a_text S)), S.2.2.2.1, S.2.2.2.2.1, S.2.2.2.2.2) : MS)) H := hP
    have hD : va_D A (mW T h0 ar ((S.1, S.2.1, ((f_under S), (a_what S), (a_array S), (a_far S), (vp_updL (a_value S) ((f_frames S).toInt.toNat) j1), (vp_updL (a_grows S) ((f_frames S).toInt.toNat) (0 : Int64)), (a_last S), (a_text S)), S.2.2.2.1, S.2.2.2.2.1, S.2.2.2.2.2) : MS)) := hD
    refine lv_aload_n hx hb d_Mo_begins_186 rfl (lv_at hl 4 rfl) ?_
    refine va_get (D := D) (ci := 11) (v := .ref (ar 14)) (C := "PageScribeModel") (T := F_Mo) (N := 45) hx hb hts i_Mo hown hK hP 0 mW_0 cl_11 22 (by decide) (hts _ k_6_182) (fun _ h9 => h9) (mg_last _ _) d_Mo_begins_187 ?_
    refine lv_aload_n hx hb d_Mo_begins_190 rfl (lv_at hl 4 rfl) ?_
    refine va_get (D := D) (ci := 11) (v := .int (f_frames S)) (C := "PageScribeModel") (T := F_Mo) (N := 45) hx hb hts i_Mo hown hK hP 0 mW_0 cl_11 15 (by decide) (hts _ k_6_175) (fun _ h9 => h9) (mg_frames _ _) d_Mo_begins_191 ?_
    refine lv_lload hx hb d_Mo_begins_194 (lv_at hl 1 rfl) ?_
    refine va_last hx hb hK hP hD hS 15 1 (ma_last _ _ _ _) rfl (zt_in (show (f_frames S).toInt = _ from rfl) (by omega) (by omega)) d_Mo_begins_196 (fun H locs hP hD hS => ?_)
    rw [ms_last] at hP hD
    rw [zt_ix (show (f_frames S).toInt = _ from rfl)] at hP hD
    have hP : va_P D classes (mW T h0 ar ((S.1, S.2.1, ((f_under S), (a_what S), (a_array S), (a_far S), (vp_updL (a_value S) ((f_frames S).toInt.toNat) j1), (vp_updL (a_grows S) ((f_frames S).toInt.toNat) (0 : Int64)), (vp_updL (a_last S) ((f_frames S).toInt.toNat) j1), (a_text S)), S.2.2.2.1, S.2.2.2.2.1, S.2.2.2.2.2) : MS)) H := hP
    have hD : va_D A (mW T h0 ar ((S.1, S.2.1, ((f_under S), (a_what S), (a_array S), (a_far S), (vp_updL (a_value S) ((f_frames S).toInt.toNat) j1), (vp_updL (a_grows S) ((f_frames S).toInt.toNat) (0 : Int64)), (vp_updL (a_last S) ((f_frames S).toInt.toNat) j1), (a_text S)), S.2.2.2.1, S.2.2.2.2.1, S.2.2.2.2.2) : MS)) := hD
    refine lv_aload_n hx hb d_Mo_begins_197 rfl (lv_at hl 4 rfl) ?_
    refine lv_dup hx hb d_Mo_begins_198 rfl ?_
    refine va_get (D := D) (ci := 11) (v := .int (f_size S)) (C := "PageScribeModel") (T := F_Mo) (N := 45) hx hb hts i_Mo hown hK hP 0 mW_0 cl_11 4 (by decide) (hts _ k_6_164) (fun _ h9 => h9) (mg_size _ _) d_Mo_begins_199 ?_
    refine lv_iload_n hx hb d_Mo_begins_202 rfl (lv_at hl 5 rfl) ?_
    refine lv_bipush (v := 53) hx hb d_Mo_begins_203 (by decide) ?_
    refine lv_icmp_ne (tgt := 212) hx hb d_Mo_begins_205 (by decide) (fun _ => ?_) (fun c9 => absurd c9 (by decide +kernel))
    refine lv_iload_n hx hb d_Mo_begins_212 rfl (lv_at hl 5 rfl) ?_
    refine lv_bipush (v := 52) hx hb d_Mo_begins_213 (by decide) ?_
    refine lv_icmp_ne (tgt := 222) hx hb d_Mo_begins_215 (by decide) (fun _ => ?_) (fun c9 => absurd c9 (by decide +kernel))
    refine lv_iload_n hx hb d_Mo_begins_222 rfl (lv_at hl 5 rfl) ?_
    refine lv_bipush (v := 55) hx hb d_Mo_begins_223 (by decide) ?_
    refine lv_icmp_ne (tgt := 232) hx hb d_Mo_begins_225 (by decide) (fun c9 => absurd c9 (by decide +kernel)) (fun _ => ?_)
    refine lv_iconst (v := 1) hx hb d_Mo_begins_228 (by decide) ?_
    refine lv_goto (tgt := 233) hx hb d_Mo_begins_229 (by decide) ?_
    refine lv_isub hx hb d_Mo_begins_233 ?_
    refine j_eqi (y := x1) ex1.symm ?_
    refine va_put (D := D) (ci := 11) (v := .int x1) (ty := .int) (C := "PageScribeModel") (T := F_Mo) (N := 45) hx hb hts i_Mo t_Mo t_Mo_ok n_Mo hown hK hP hD hS 0 mW_0 cl_11 4 (by decide) (hts _ k_6_164) (fun _ h9 => h9) rfl (by decide +kernel) rfl rfl (Nat.le_of_ble_eq_true rfl) d_Mo_begins_234 (fun H locs hP hD hS => ?_)
    rw [mp_size] at hP hD
    have hP : va_P D classes (mW T h0 ar ((((f_thrown S), (a_kinds S), (a_codes S), (a_reals S), x1, (f_taken S), (a_words S), (a_many S)), S.2.1, ((f_under S), (a_what S), (a_array S), (a_far S), (vp_updL (a_value S) ((f_frames S).toInt.toNat) j1), (vp_updL (a_grows S) ((f_frames S).toInt.toNat) (0 : Int64)), (vp_updL (a_last S) ((f_frames S).toInt.toNat) j1), (a_text S)), S.2.2.2.1, S.2.2.2.2.1, S.2.2.2.2.2) : MS)) H := hP
    have hD : va_D A (mW T h0 ar ((((f_thrown S), (a_kinds S), (a_codes S), (a_reals S), x1, (f_taken S), (a_words S), (a_many S)), S.2.1, ((f_under S), (a_what S), (a_array S), (a_far S), (vp_updL (a_value S) ((f_frames S).toInt.toNat) j1), (vp_updL (a_grows S) ((f_frames S).toInt.toNat) (0 : Int64)), (vp_updL (a_last S) ((f_frames S).toInt.toNat) j1), (a_text S)), S.2.2.2.1, S.2.2.2.2.1, S.2.2.2.2.2) : MS)) := hD
    refine lv_iload_n hx hb d_Mo_begins_237 rfl (lv_at hl 5 rfl) ?_
    refine lv_bipush (v := 51) hx hb d_Mo_begins_238 (by decide) ?_
    refine lv_icmp_ne (tgt := 258) hx hb d_Mo_begins_240 (by decide) (fun _ => ?_) (fun c9 => absurd c9 (by decide +kernel))
    refine lv_iload_n hx hb d_Mo_begins_258 rfl (lv_at hl 5 rfl) ?_
    refine lv_bipush (v := 52) hx hb d_Mo_begins_259 (by decide) ?_
    refine lv_icmp_ne (tgt := 280) hx hb d_Mo_begins_261 (by decide) (fun _ => ?_) (fun c9 => absurd c9 (by decide +kernel))
    refine lv_aload_n hx hb d_Mo_begins_280 rfl (lv_at hl 4 rfl) ?_
    refine lv_iload_n hx hb d_Mo_begins_281 rfl (lv_at hl 5 rfl) ?_
    refine lv_bipush (v := 50) hx hb d_Mo_begins_282 (by decide) ?_
    refine lv_isub hx hb d_Mo_begins_284 ?_
    refine j_eqi (y := 5) (by decide +kernel) ?_
    refine lv_lload_n hx hb d_Mo_begins_285 rfl (lv_at hl 2 rfl) ?_
    refine jm_cv (w := (fun u => u)) hK hP hD hS hA (va_runV (As := [.int 5, .long x2]) (rest := []) F (m_frame l D T h0 ar ((((f_thrown S), (a_kinds S), (a_codes S), (a_reals S), x1, (f_taken S), (a_words S), (a_many S)), S.2.1, ((f_under S), (a_what S), (a_array S), (a_far S), (vp_updL (a_value S) ((f_frames S).toInt.toNat) j1), (vp_updL (a_grows S) ((f_frames S).toInt.toNat) (0 : Int64)), (vp_updL (a_last S) ((f_frames S).toInt.toNat) j1), (a_text S)), S.2.2.2.1, S.2.2.2.2.1, S.2.2.2.2.2) : MS) (5 : Int32) x2 H.size ⟨(show 0 ≤ x1.toInt ∧ x1.toInt ≤ 40 by omega), i_taken, i_vals, i_room, i_dicts, i_deep, i_open, i_cells, i_points, i_part, i_length, i_knows, i_page, i_text, i_pats, i_fuel, (fr_above i_fr (fun k hk => ⟨updL_n hk, updL_n hk, updL_n hk⟩)), i_ink⟩ (Or.inr ⟨by have := tI_5; omega, (show freeT S from h2)⟩) (show fOk 5 x2 0 ((vp_updL (a_value S) ((f_frames S).toInt.toNat) j1) (f_frames S).toInt.toNat) ((vp_updL (a_grows S) ((f_frames S).toInt.toNat) (0 : Int64)) (f_frames S).toInt.toNat) ((vp_updL (a_last S) ((f_frames S).toInt.toNat) j1) (f_frames S).toInt.toNat) from by rw [updL_s, updL_s, updL_s]; have := tI_5; have := tI_0; have := tJ_0; exact ⟨by omega, by omega, tpx2, fun q => by omega, fun q => by omega, fun q => by omega⟩)) (j_cV (k := 2) (C := "PageScribeModel") hts k_8_59 k_1_12 k_8_56 k_8_58 k_0_129 (by decide +kernel) ⟨Nat.le_of_ble_eq_true rfl, Nat.le_of_ble_eq_true rfl⟩) (jm_pre hK hP hD) rfl rfl hl.1 rfl (lv_room (Nat.le_of_ble_eq_true rfl)) d_Mo_begins_286 ⟨Nat.le_of_ble_eq_true rfl, Nat.le_of_ble_eq_true rfl⟩) (fun S1 H locs hw1 hP hD hS => ?_)
    have hP : va_P D classes (mW T h0 ar S1) H := hP
    have hD : va_D A (mW T h0 ar S1) := hD
    obtain ⟨⟨i_size, i_taken, i_vals, i_room, i_dicts, i_deep, i_open, i_cells, i_points, i_part, i_length, i_knows, i_page, i_text, i_pats, i_fuel, i_fr, i_ink⟩, kpA_S1, qqhw1⟩ := hw1
    have kSA_S1 : kA S S1 := kA_t (show kA S ((((f_thrown S), (a_kinds S), (a_codes S), (a_reals S), x1, (f_taken S), (a_words S), (a_many S)), S.2.1, ((f_under S), (a_what S), (a_array S), (a_far S), (vp_updL (a_value S) ((f_frames S).toInt.toNat) j1), (vp_updL (a_grows S) ((f_frames S).toInt.toNat) (0 : Int64)), (vp_updL (a_last S) ((f_frames S).toInt.toNat) j1), (a_text S)), S.2.2.2.1, S.2.2.2.2.1, S.2.2.2.2.2) : MS) from (kA_r S)) kpA_S1
    have kST_S1 : kT S S1 := kT_t (show kT S ((((f_thrown S), (a_kinds S), (a_codes S), (a_reals S), x1, (f_taken S), (a_words S), (a_many S)), S.2.1, ((f_under S), (a_what S), (a_array S), (a_far S), (vp_updL (a_value S) ((f_frames S).toInt.toNat) j1), (vp_updL (a_grows S) ((f_frames S).toInt.toNat) (0 : Int64)), (vp_updL (a_last S) ((f_frames S).toInt.toNat) j1), (a_text S)), S.2.2.2.1, S.2.2.2.2.1, S.2.2.2.2.2) : MS) from (kT_r S)) (kT_A kpA_S1)
    have qhw1 : (f_frames S1).toInt = (f_frames S).toInt + 1 ∧ ((a_what S1) ((f_frames S1).toInt - 1).toNat).toInt = 5 ∧ (f_size S1) = x1 ∧ (a_kinds S1) = (a_kinds S) ∧ (a_codes S1) = (a_codes S) := by simpa only [fx1, tI_5] using qqhw1
    refine lv_iconst (v := 0) hx hb d_Mo_begins_289 (by decide) ?_
    exact j_iret F hr hlocks hK hS S1 ⟨⟨i_size, i_taken, i_vals, i_room, i_dicts, i_deep, i_open, i_cells, i_points, i_part, i_length, i_knows, i_page, i_text, i_pats, i_fuel, i_fr, i_ink⟩, kSA_S1, (show -1 ≤ (0 : Int32).toInt ∧ (0 : Int32).toInt ≤ 16 ∧ (f_frames S1).toInt ≤ (f_frames S).toInt + 1 ∧ ((0 : Int32).toInt = -1 → ((a_kinds S1) 40).toInt = 11 → 1 ≤ (f_frames S1).toInt ∧ ((a_what S1) ((f_frames S1).toInt - 1).toNat).toInt ≤ 2) by have := tI_0; refine ⟨by omega, by omega, by omega, ?_⟩; first | exact (fun q1 q2 => by omega) | assumption)⟩ hP hD d_Mo_begins_290
  · refine lv_iload_n hx hb d_Mo_begins_14 rfl (lv_at hl 1 rfl) ?_
    refine lv_if_le (tgt := 29) hx hb d_Mo_begins_15 (by decide) (fun c15_1 => ?_) (fun c15_1 => ?_)
    · have fc15_1 : ((f_size S).toInt - 1) ≤ 0 := zt_le fx1 tI_0 c15_1
      refine lv_lconst (v := 0) hx hb d_Mo_begins_29 (by decide) ?_
      exact key1 (0 : Int64) _ _ _ ⟨trivial, hP, hD, hS, lv_sub hl [0, 1, 2, 3] rfl⟩
    · have fc15_1 : 0 < ((f_size S).toInt - 1) := Int.not_le.mp (zt_nle fx1 tI_0 c15_1)
      refine lv_aload_n hx hb d_Mo_begins_18 rfl (lv_at hl 2 rfl) ?_
      refine va_get (D := D) (ci := 11) (v := .ref (ar 1)) (C := "PageScribeModel") (T := F_Mo) (N := 45) hx hb hts i_Mo hown hK hP 0 mW_0 cl_11 2 (by decide) (hts _ k_6_162) (fun _ h9 => h9) (mg_codes _ _) d_Mo_begins_19 ?_
      refine lv_iload_n hx hb d_Mo_begins_22 rfl (lv_at hl 1 rfl) ?_
      refine lv_iconst (v := 1) hx hb d_Mo_begins_23 (by decide) ?_
      refine lv_isub hx hb d_Mo_begins_24 ?_
      refine lv_topi (fun x3 ex3 => ?_)
      have fx3 : x3.toInt = ((f_size S).toInt - 2) := by rw [ex3]; exact (zt_sub fx1 tI_1 (by omega) (by omega)).trans (by omega)
      refine va_lald hx hb hK hP 2 1 (ma_codes _ _ _ _) rfl (zt_in fx3 (by omega) (by omega)) d_Mo_begins_25 ?_
      refine lv_topl (fun x4 ex4 => ?_)
      have gx4 : x4 = (a_codes S) ((f_size S).toInt - 2).toNat := ex4.trans (congrArg _ (zt_ix fx3))
      have fx4 : x4.toInt = ((a_codes S) ((f_size S).toInt - 2).toNat).toInt := by rw [gx4]
      have kx4 : vOk ((a_kinds S) ((f_size S).toInt - 2).toNat) ((a_codes S) ((f_size S).toInt - 2).toNat) ((a_reals S) ((f_size S).toInt - 2).toNat) := i_vals (((f_size S).toInt - 2).toNat) (by omega)
      refine lv_goto (tgt := 30) hx hb d_Mo_begins_26 (by decide) ?_
      exact key1 (x4) _ _ _ ⟨trivial, hP, hD, hS, lv_sub hl [0, 1, 2, 3] rfl⟩
set_option maxHeartbeats 4000000 in
set_option maxRecDepth 100000 in
theorem m_begins_56 (l : Launch) (D : va_G) (T : Nat → ClassId) (h0 : Nat) (ar : Nat → Nat) (S : MS)  (sz : Nat) (hI : MI S) (h1 : 2 ≤ (f_size S).toInt ∧ ((a_kinds S) ((f_size S).toInt - 1).toNat).toInt = 13 ∧ ((a_kinds S) ((f_size S).toInt - 2).toNat).toInt % 8 = 5) (h2 : freeT S) : Met l ⟨"PageScribeModel", "begins", "(I)I"⟩ (wy ⟨"PageScribeModel", "begins", "(I)I"⟩ prog_15_method_64_code 8 (some .int)) ({ frames := 2, cells := 0, slots := 0, locals := 140 }) (va_Pc [.ref h0, .int 56] (Pw D T (mW T h0 ar S) sz E0)) (va_Qi (fun (r : Int32) (u : MS) => MI u ∧ kA S u ∧ (-1 ≤ r.toInt ∧ r.toInt ≤ 16 ∧ (f_frames u).toInt ≤ (f_frames S).toInt + 1 ∧ (r.toInt = -1 → ((a_kinds u) 40).toInt = 11 → 1 ≤ (f_frames u).toInt ∧ ((a_what u) ((f_frames u).toInt - 1).toNat).toInt ≤ 2))) (fun u t => Bw D T (va_A (mW T h0 ar S) sz) (mW T h0 ar u) t) (va_A (mW T h0 ar S) sz)) 0 0 (va_A (mW T h0 ar S) sz) := by
  refine j_met (y := ⟨"PageScribeModel", "begins", "(I)I"⟩) (b := prog_15_method_64_code) (n := 8) (ret := (some .int)) (av := [.ref h0, .int 56]) (Qc := fun A => va_Qi (fun (r : Int32) (u : MS) => MI u ∧ kA S u ∧ (-1 ≤ r.toInt ∧ r.toInt ≤ 16 ∧ (f_frames u).toInt ≤ (f_frames S).toInt + 1 ∧ (r.toInt = -1 → ((a_kinds u) 40).toInt = 11 → 1 ≤ (f_frames u).toInt ∧ ((a_what u) ((f_frames u).toInt - 1).toNat).toInt ≤ 2))) (fun u t => Bw D T A (mW T h0 ar u) t) A) (by decide +kernel) (Nat.le_of_ble_eq_true rfl) (fun p e s m args below meth c A ls F hr hlocks hnm hK hP hD hS hA hN hE hl => ?_)
  obtain ⟨hx, hb, hml, hown, hts⟩ := id F
  have hl : lv_has ls 8 [(0, .ref h0), (1, .int 56)] := hl
  obtain ⟨i_size, i_taken, i_vals, i_room, i_dicts, i_deep, i_open, i_cells, i_points, i_part, i_length, i_knows, i_page, i_text, i_pats, i_fuel, i_fr, i_ink⟩ := id hI
  refine lv_aload_n hx hb d_Mo_begins_0 rfl (lv_at hl 0 rfl) ?_
  refine va_get (D := D) (ci := 11) (v := .int (f_size S)) (C := "PageScribeModel") (T := F_Mo) (N := 45) hx hb hts i_Mo hown hK hP 0 mW_0 cl_11 4 (by decide) (hts _ k_6_164) (fun _ h9 => h9) (mg_size _ _) d_Mo_begins_1 ?_
  refine lv_iconst (v := 1) hx hb d_Mo_begins_4 (by decide) ?_
  refine lv_isub hx hb d_Mo_begins_5 ?_
  refine lv_topi (fun x1 ex1 => ?_)
  have fx1 : x1.toInt = ((f_size S).toInt - 1) := by rw [ex1]; exact (zt_sub (show (f_size S).toInt = _ from rfl) tI_1 (by omega) (by omega)).trans (by omega)
  refine lv_istore_n (lv' := [(2, .int x1), (0, .ref h0), (1, .int 56)]) hx hb d_Mo_begins_6 rfl hl (by decide) rfl (fun ls hl => ?_)
  refine lv_aload_n hx hb d_Mo_begins_7 rfl (lv_at hl 1 rfl) ?_
  refine va_get (D := D) (ci := 11) (v := .ref (ar 1)) (C := "PageScribeModel") (T := F_Mo) (N := 45) hx hb hts i_Mo hown hK hP 0 mW_0 cl_11 2 (by decide) (hts _ k_6_162) (fun _ h9 => h9) (mg_codes _ _) d_Mo_begins_8 ?_
  refine lv_iload_n hx hb d_Mo_begins_11 rfl (lv_at hl 0 rfl) ?_
  refine va_lald hx hb hK hP 2 1 (ma_codes _ _ _ _) rfl (zt_in fx1 (by omega) (by omega)) d_Mo_begins_12 ?_
  refine lv_topl (fun x2 ex2 => ?_)
  have gx2 : x2 = (a_codes S) ((f_size S).toInt - 1).toNat := ex2.trans (congrArg _ (zt_ix fx1))
  have fx2 : x2.toInt = ((a_codes S) ((f_size S).toInt - 1).toNat).toInt := by rw [gx2]
  have kx2 : vOk ((a_kinds S) ((f_size S).toInt - 1).toNat) ((a_codes S) ((f_size S).toInt - 1).toNat) ((a_reals S) ((f_size S).toInt - 1).toNat) := i_vals (((f_size S).toInt - 1).toNat) (by omega)
  have tpx2 : cOk x2 := by rw [gx2]; exact vk_ar8 kx2 (by omega)
  refine lv_lstore_n (lv' := [(3, .long x2), (2, .int x1), (0, .ref h0), (1, .int 56)]) hx hb d_Mo_begins_13 rfl hl (by decide) rfl (fun ls hl => ?_)
  refine lv_iload_n hx hb d_Mo_begins_14 rfl (lv_at hl 1 rfl) ?_
  refine lv_if_le (tgt := 29) hx hb d_Mo_begins_15 (by decide) (fun c15_1 => ?_) (fun c15_1 => ?_)
  · have fc15_1 : ((f_size S).toInt - 1) ≤ 0 := zt_le fx1 tI_0 c15_1
    exfalso; omega
  · have fc15_1 : 0 < ((f_size S).toInt - 1) := Int.not_le.mp (zt_nle fx1 tI_0 c15_1)
    refine lv_aload_n hx hb d_Mo_begins_18 rfl (lv_at hl 2 rfl) ?_
    refine va_get (D := D) (ci := 11) (v := .ref (ar 1)) (C := "PageScribeModel") (T := F_Mo) (N := 45) hx hb hts i_Mo hown hK hP 0 mW_0 cl_11 2 (by decide) (hts _ k_6_162) (fun _ h9 => h9) (mg_codes _ _) d_Mo_begins_19 ?_
    refine lv_iload_n hx hb d_Mo_begins_22 rfl (lv_at hl 1 rfl) ?_
    refine lv_iconst (v := 1) hx hb d_Mo_begins_23 (by decide) ?_
    refine lv_isub hx hb d_Mo_begins_24 ?_
    refine lv_topi (fun x3 ex3 => ?_)
    have fx3 : x3.toInt = ((f_size S).toInt - 2) := by rw [ex3]; exact (zt_sub fx1 tI_1 (by omega) (by omega)).trans (by omega)
    refine va_lald hx hb hK hP 2 1 (ma_codes _ _ _ _) rfl (zt_in fx3 (by omega) (by omega)) d_Mo_begins_25 ?_
    refine lv_topl (fun x4 ex4 => ?_)
    have gx4 : x4 = (a_codes S) ((f_size S).toInt - 2).toNat := ex4.trans (congrArg _ (zt_ix fx3))
    have fx4 : x4.toInt = ((a_codes S) ((f_size S).toInt - 2).toNat).toInt := by rw [gx4]
    have kx4 : vOk ((a_kinds S) ((f_size S).toInt - 2).toNat) ((a_codes S) ((f_size S).toInt - 2).toNat) ((a_reals S) ((f_size S).toInt - 2).toNat) := i_vals (((f_size S).toInt - 2).toNat) (by omega)
    have xxx4 : cOk x4 := by rw [gx4]; exact vk_ar8 kx4 (by omega)
    refine lv_goto (tgt := 30) hx hb d_Mo_begins_26 (by decide) ?_
    refine lv_lstore (lv' := [(5, .long x4), (3, .long x2), (2, .int x1), (0, .ref h0), (1, .int 56)]) hx hb d_Mo_begins_30 hl (by decide) rfl (fun ls hl => ?_)
    refine lv_iload_n hx hb d_Mo_begins_32 rfl (lv_at hl 4 rfl) ?_
    refine lv_bipush (v := 50) hx hb d_Mo_begins_33 (by decide) ?_
    refine lv_icmp_ne (tgt := 77) hx hb d_Mo_begins_35 (by decide) (fun _ => ?_) (fun c9 => absurd c9 (by decide +kernel))
    refine lv_iload_n hx hb d_Mo_begins_77 rfl (lv_at hl 4 rfl) ?_
    refine lv_bipush (v := 54) hx hb d_Mo_begins_78 (by decide) ?_
    refine lv_icmp_ne (tgt := 92) hx hb d_Mo_begins_80 (by decide) (fun _ => ?_) (fun c9 => absurd c9 (by decide +kernel))
    refine lv_iload_n hx hb d_Mo_begins_92 rfl (lv_at hl 4 rfl) ?_
    refine lv_bipush (v := 51) hx hb d_Mo_begins_93 (by decide) ?_
    refine lv_icmp_ne (tgt := 105) hx hb d_Mo_begins_95 (by decide) (fun _ => ?_) (fun c9 => absurd c9 (by decide +kernel))
    refine lv_iload_n hx hb d_Mo_begins_105 rfl (lv_at hl 4 rfl) ?_
    refine lv_bipush (v := 52) hx hb d_Mo_begins_106 (by decide) ?_
    refine lv_icmp_ne (tgt := 128) hx hb d_Mo_begins_108 (by decide) (fun _ => ?_) (fun c9 => absurd c9 (by decide +kernel))
    refine lv_iconst (v := 0) hx hb d_Mo_begins_128 (by decide) ?_
    refine lv_istore (lv' := [(7, .int 0), (5, .long x4), (3, .long x2), (2, .int x1), (0, .ref h0), (1, .int 56)]) hx hb d_Mo_begins_129 hl (by decide) rfl (fun ls hl => ?_)
    refine lv_aload_n hx hb d_Mo_begins_131 rfl (lv_at hl 4 rfl) ?_
    refine va_get (D := D) (ci := 11) (v := .ref (ar 12)) (C := "PageScribeModel") (T := F_Mo) (N := 45) hx hb hts i_Mo hown hK hP 0 mW_0 cl_11 20 (by decide) (hts _ k_6_180) (fun _ h9 => h9) (mg_value _ _) d_Mo_begins_132 ?_
    refine lv_aload_n hx hb d_Mo_begins_135 rfl (lv_at hl 4 rfl) ?_
    refine va_get (D := D) (ci := 11) (v := .int (f_frames S)) (C := "PageScribeModel") (T := F_Mo) (N := 45) hx hb hts i_Mo hown hK hP 0 mW_0 cl_11 15 (by decide) (hts _ k_6_175) (fun _ h9 => h9) (mg_frames _ _) d_Mo_begins_136 ?_
    refine lv_iload_n hx hb d_Mo_begins_139 rfl (lv_at hl 5 rfl) ?_
    refine lv_bipush (v := 53) hx hb d_Mo_begins_140 (by decide) ?_
    refine lv_icmp_ne (tgt := 156) hx hb d_Mo_begins_142 (by decide) (fun _ => ?_) (fun c9 => absurd c9 (by decide +kernel))
    refine lv_lload hx hb d_Mo_begins_156 (lv_at hl 1 rfl) ?_
    refine va_last hx hb hK hP hD hS 13 1 (ma_value _ _ _ _) rfl (zt_in (show (f_frames S).toInt = _ from rfl) (by omega) (by omega)) d_Mo_begins_158 (fun H locs hP hD hS => ?_)
    rw [ms_value] at hP hD
    rw [zt_ix (show (f_frames S).toInt = _ from rfl)] at hP hD
    have hP : va_P D classes (mW T h0 ar ((S.1, S.2.1, ((f_under S), (a_what S), (a_array S), (a_far S), (vp_updL (a_value S) ((f_frames S).toInt.toNat) x4), (a_grows S), (a_last S), (a_text S)), S.2.2.2.1, S.2.2.2.2.1, S.2.2.2.2.2) : MS)) H := hP
    have hD : va_D A (mW T h0 ar ((S.1, S.2.1, ((f_under S), (a_what S), (a_array S), (a_far S), (vp_updL (a_value S) ((f_frames S).toInt.toNat) x4), (a_grows S), (a_last S), (a_text S)), S.2.2.2.1, S.2.2.2.2.1, S.2.2.2.2.2) : MS)) := hD
    refine lv_aload_n hx hb d_Mo_begins_159 rfl (lv_at hl 4 rfl) ?_
    refine va_get (D := D) (ci := 11) (v := .ref (ar 13)) (C := "PageScribeModel") (T := F_Mo) (N := 45) hx hb hts i_Mo hown hK hP 0 mW_0 cl_11 21 (by decide) (hts _ k_6_181) (fun _ h9 => h9) (mg_grows _ _) d_Mo_begins_160 ?_
    refine lv_aload_n hx hb d_Mo_begins_163 rfl (lv_at hl 4 rfl) ?_
    refine va_get (D := D) (ci := 11) (v := .int (f_frames S)) (C := "PageScribeModel") (T := F_Mo) (N := 45) hx hb hts i_Mo hown hK hP 0 mW_0 cl_11 15 (by decide) (hts _ k_6_175) (fun _ h9 => h9) (mg_frames _ _) d_Mo_begins_164 ?_
    refine lv_iload_n hx hb d_Mo_begins_167 rfl (lv_at hl 5 rfl) ?_
    refine lv_bipush (v := 53) hx hb d_Mo_begins_168 (by decide) ?_
    refine lv_icmp_ne (tgt := 184) hx hb d_Mo_begins_170 (by decide) (fun _ => ?_) (fun c9 => absurd c9 (by decide +kernel))
    refine lv_lconst (v := 0) hx hb d_Mo_begins_184 (by decide) ?_
    refine va_last hx hb hK hP hD hS 14 1 (ma_grows _ _ _ _) rfl (zt_in (show (f_frames S).toInt = _ from rfl) (by omega) (by omega)) d_Mo_begins_185 (fun H locs hP hD hS => ?_)
    rw [ms_grows] at hP hD
    rw [zt_ix (show (f_frames S).toInt = _ from rfl)] at hP hD
    have hP : va_P D classes (mW T h0 ar ((S.1, S.2.1, ((f_under S), (a_what S), (a_array S), (a_far S), (vp_updL (a_value S) ((f_frames S).toInt.toNat) x4), (vp_updL (a_grows S) ((f_frames S).toInt.toNat) (0 : Int64)), (a_last S), (a_text S)), S.2.2.2.1, S.2.2.2.2.1, S.2.2.2.2.2) : MS)) H := hP
    have hD : va_D A (mW T h0 ar ((S.1, S.2.1, ((f_under S), (a_what S), (a_array S), (a_far S), (vp_updL (a_value S) ((f_frames S).toInt.toNat) x4), (vp_updL (a_grows S) ((f_frames S).toInt.toNat) (0 : Int64)), (a_last S), (a_text S)), S.2.2.2.1, S.2.2.2.2.1, S.2.2.2.2.2) : MS)) := hD
    refine lv_aload_n hx hb d_Mo_begins_186 rfl (lv_at hl 4 rfl) ?_
    refine va_get (D := D) (ci := 11) (v := .ref (ar 14)) (C := "PageScribeModel") (T := F_Mo) (N := 45) hx hb hts i_Mo hown hK hP 0 mW_0 cl_11 22 (by decide) (hts _ k_6_182) (fun _ h9 => h9) (mg_last _ _) d_Mo_begins_187 ?_
    refine lv_aload_n hx hb d_Mo_begins_190 rfl (lv_at hl 4 rfl) ?_
    refine va_get (D := D) (ci := 11) (v := .int (f_frames S)) (C := "PageScribeModel") (T := F_Mo) (N := 45) hx hb hts i_Mo hown hK hP 0 mW_0 cl_11 15 (by decide) (hts _ k_6_175) (fun _ h9 => h9) (mg_frames _ _) d_Mo_begins_191 ?_
    refine lv_lload hx hb d_Mo_begins_194 (lv_at hl 1 rfl) ?_
    refine va_last hx hb hK hP hD hS 15 1 (ma_last _ _ _ _) rfl (zt_in (show (f_frames S).toInt = _ from rfl) (by omega) (by omega)) d_Mo_begins_196 (fun H locs hP hD hS => ?_)
    rw [ms_last] at hP hD
    rw [zt_ix (show (f_frames S).toInt = _ from rfl)] at hP hD
    have hP : va_P D classes (mW T h0 ar ((S.1, S.2.1, ((f_under S), (a_what S), (a_array S), (a_far S), (vp_updL (a_value S) ((f_frames S).toInt.toNat) x4), (vp_updL (a_grows S) ((f_frames S).toInt.toNat) (0 : Int64)), (vp_updL (a_last S) ((f_frames S).toInt.toNat) x4), (a_text S)), S.2.2.2.1, S.2.2.2.2.1, S.2.2.2.2.2) : MS)) H := hP
    have hD : va_D A (mW T h0 ar ((S.1, S.2.1, ((f_under S), (a_what S), (a_array S), (a_far S), (vp_updL (a_value S) ((f_frames S).toInt.toNat) x4), (vp_updL (a_grows S) ((f_frames S).toInt.toNat) (0 : Int64)), (vp_updL (a_last S) ((f_frames S).toInt.toNat) x4), (a_text S)), S.2.2.2.1, S.2.2.2.2.1, S.2.2.2.2.2) : MS)) := hD
    refine lv_aload_n hx hb d_Mo_begins_197 rfl (lv_at hl 4 rfl) ?_
    refine lv_dup hx hb d_Mo_begins_198 rfl ?_
    refine va_get (D := D) (ci := 11) (v := .int (f_size S)) (C := "PageScribeModel") (T := F_Mo) (N := 45) hx hb hts i_Mo hown hK hP 0 mW_0 cl_11 4 (by decide) (hts _ k_6_164) (fun _ h9 => h9) (mg_size _ _) d_Mo_begins_199 ?_
    refine lv_iload_n hx hb d_Mo_begins_202 rfl (lv_at hl 5 rfl) ?_
    refine lv_bipush (v := 53) hx hb d_Mo_begins_203 (by decide) ?_
    refine lv_icmp_ne (tgt := 212) hx hb d_Mo_begins_205 (by decide) (fun _ => ?_) (fun c9 => absurd c9 (by decide +kernel))
    refine lv_iload_n hx hb d_Mo_begins_212 rfl (lv_at hl 5 rfl) ?_
    refine lv_bipush (v := 52) hx hb d_Mo_begins_213 (by decide) ?_
    refine lv_icmp_ne (tgt := 222) hx hb d_Mo_begins_215 (by decide) (fun _ => ?_) (fun c9 => absurd c9 (by decide +kernel))
    refine lv_iload_n hx hb d_Mo_begins_222 rfl (lv_at hl 5 rfl) ?_
    refine lv_bipush (v := 55) hx hb d_Mo_begins_223 (by decide) ?_
    refine lv_icmp_ne (tgt := 232) hx hb d_Mo_begins_225 (by decide) (fun _ => ?_) (fun c9 => absurd c9 (by decide +kernel))
    refine lv_iconst (v := 2) hx hb d_Mo_begins_232 (by decide) ?_
    refine lv_isub hx hb d_Mo_begins_233 ?_
    refine lv_topi (fun x5 ex5 => ?_)
    have fx5 : x5.toInt = ((f_size S).toInt - 2) := by rw [ex5]; exact (zt_sub (show (f_size S).toInt = _ from rfl) tI_2 (by omega) (by omega)).trans (by omega)
    refine va_put (D := D) (ci := 11) (v := .int x5) (ty := .int) (C := "PageScribeModel") (T := F_Mo) (N := 45) hx hb hts i_Mo t_Mo t_Mo_ok n_Mo hown hK hP hD hS 0 mW_0 cl_11 4 (by decide) (hts _ k_6_164) (fun _ h9 => h9) rfl (by decide +kernel) rfl rfl (Nat.le_of_ble_eq_true rfl) d_Mo_begins_234 (fun H locs hP hD hS => ?_)
    rw [mp_size] at hP hD
    have hP : va_P D classes (mW T h0 ar ((((f_thrown S), (a_kinds S), (a_codes S), (a_reals S), x5, (f_taken S), (a_words S), (a_many S)), S.2.1, ((f_under S), (a_what S), (a_array S), (a_far S), (vp_updL (a_value S) ((f_frames S).toInt.toNat) x4), (vp_updL (a_grows S) ((f_frames S).toInt.toNat) (0 : Int64)), (vp_updL (a_last S) ((f_frames S).toInt.toNat) x4), (a_text S)), S.2.2.2.1, S.2.2.2.2.1, S.2.2.2.2.2) : MS)) H := hP
    have hD : va_D A (mW T h0 ar ((((f_thrown S), (a_kinds S), (a_codes S), (a_reals S), x5, (f_taken S), (a_words S), (a_many S)), S.2.1, ((f_under S), (a_what S), (a_array S), (a_far S), (vp_updL (a_value S) ((f_frames S).toInt.toNat) x4), (vp_updL (a_grows S) ((f_frames S).toInt.toNat) (0 : Int64)), (vp_updL (a_last S) ((f_frames S).toInt.toNat) x4), (a_text S)), S.2.2.2.1, S.2.2.2.2.1, S.2.2.2.2.2) : MS)) := hD
    refine lv_iload_n hx hb d_Mo_begins_237 rfl (lv_at hl 5 rfl) ?_
    refine lv_bipush (v := 51) hx hb d_Mo_begins_238 (by decide) ?_
    refine lv_icmp_ne (tgt := 258) hx hb d_Mo_begins_240 (by decide) (fun _ => ?_) (fun c9 => absurd c9 (by decide +kernel))
    refine lv_iload_n hx hb d_Mo_begins_258 rfl (lv_at hl 5 rfl) ?_
    refine lv_bipush (v := 52) hx hb d_Mo_begins_259 (by decide) ?_
    refine lv_icmp_ne (tgt := 280) hx hb d_Mo_begins_261 (by decide) (fun _ => ?_) (fun c9 => absurd c9 (by decide +kernel))
    refine lv_aload_n hx hb d_Mo_begins_280 rfl (lv_at hl 4 rfl) ?_
    refine lv_iload_n hx hb d_Mo_begins_281 rfl (lv_at hl 5 rfl) ?_
    refine lv_bipush (v := 50) hx hb d_Mo_begins_282 (by decide) ?_
    refine lv_isub hx hb d_Mo_begins_284 ?_
    refine j_eqi (y := 6) (by decide +kernel) ?_
    refine lv_lload_n hx hb d_Mo_begins_285 rfl (lv_at hl 2 rfl) ?_
    refine jm_cv (w := (fun u => u)) hK hP hD hS hA (va_runV (As := [.int 6, .long x2]) (rest := []) F (m_frame l D T h0 ar ((((f_thrown S), (a_kinds S), (a_codes S), (a_reals S), x5, (f_taken S), (a_words S), (a_many S)), S.2.1, ((f_under S), (a_what S), (a_array S), (a_far S), (vp_updL (a_value S) ((f_frames S).toInt.toNat) x4), (vp_updL (a_grows S) ((f_frames S).toInt.toNat) (0 : Int64)), (vp_updL (a_last S) ((f_frames S).toInt.toNat) x4), (a_text S)), S.2.2.2.1, S.2.2.2.2.1, S.2.2.2.2.2) : MS) (6 : Int32) x2 H.size ⟨(show 0 ≤ x5.toInt ∧ x5.toInt ≤ 40 by omega), i_taken, i_vals, i_room, i_dicts, i_deep, i_open, i_cells, i_points, i_part, i_length, i_knows, i_page, i_text, i_pats, i_fuel, (fr_above i_fr (fun k hk => ⟨updL_n hk, updL_n hk, updL_n hk⟩)), i_ink⟩ (Or.inr ⟨by have := tI_6; omega, (show freeT S from h2)⟩) (show fOk 6 x2 0 ((vp_updL (a_value S) ((f_frames S).toInt.toNat) x4) (f_frames S).toInt.toNat) ((vp_updL (a_grows S) ((f_frames S).toInt.toNat) (0 : Int64)) (f_frames S).toInt.toNat) ((vp_updL (a_last S) ((f_frames S).toInt.toNat) x4) (f_frames S).toInt.toNat) from by rw [updL_s, updL_s, updL_s]; have := tI_6; have := tI_0; have := tJ_0; exact ⟨by omega, by omega, tpx2, fun q => by omega, fun q => xxx4, fun q => by omega⟩)) (j_cV (k := 2) (C := "PageScribeModel") hts k_8_59 k_1_12 k_8_56 k_8_58 k_0_129 (by decide +kernel) ⟨Nat.le_of_ble_eq_true rfl, Nat.le_of_ble_eq_true rfl⟩) (jm_pre hK hP hD) rfl rfl hl.1 rfl (lv_room (Nat.le_of_ble_eq_true rfl)) d_Mo_begins_286 ⟨Nat.le_of_ble_eq_true rfl, Nat.le_of_ble_eq_true rfl⟩) (fun S1 H locs hw1 hP hD hS => ?_)
    have hP : va_P D classes (mW T h0 ar S1) H := hP
    have hD : va_D A (mW T h0 ar S1) := hD
    obtain ⟨⟨i_size, i_taken, i_vals, i_room, i_dicts, i_deep, i_open, i_cells, i_points, i_part, i_length, i_knows, i_page, i_text, i_pats, i_fuel, i_fr, i_ink⟩, kpA_S1, qqhw1⟩ := hw1
    have kSA_S1 : kA S S1 := kA_t (show kA S ((((f_thrown S), (a_kinds S), (a_codes S), (a_reals S), x5, (f_taken S), (a_words S), (a_many S)), S.2.1, ((f_under S), (a_what S), (a_array S), (a_far S), (vp_updL (a_value S) ((f_frames S).toInt.toNat) x4), (vp_updL (a_grows S) ((f_frames S).toInt.toNat) (0 : Int64)), (vp_updL (a_last S) ((f_frames S).toInt.toNat) x4), (a_text S)), S.2.2.2.1, S.2.2.2.2.1, S.2.2.2.2.2) : MS) from (kA_r S)) kpA_S1
    have kST_S1 : kT S S1 := kT_t (show kT S ((((f_thrown S), (a_kinds S), (a_codes S), (a_reals S), x5, (f_taken S), (a_words S), (a_many S)), S.2.1, ((f_under S), (a_what S), (a_array S), (a_far S), (vp_updL (a_value S) ((f_frames S).toInt.toNat) x4), (vp_updL (a_grows S) ((f_frames S).toInt.toNat) (0 : Int64)), (vp_updL (a_last S) ((f_frames S).toInt.toNat) x4), (a_text S)), S.2.2.2.1, S.2.2.2.2.1, S.2.2.2.2.2) : MS) from (kT_r S)) (kT_A kpA_S1)
    have qhw1 : (f_frames S1).toInt = (f_frames S).toInt + 1 ∧ ((a_what S1) ((f_frames S1).toInt - 1).toNat).toInt = 6 ∧ (f_size S1) = x5 ∧ (a_kinds S1) = (a_kinds S) ∧ (a_codes S1) = (a_codes S) := by simpa only [fx5, tI_6] using qqhw1
    refine lv_iconst (v := 0) hx hb d_Mo_begins_289 (by decide) ?_
    exact j_iret F hr hlocks hK hS S1 ⟨⟨i_size, i_taken, i_vals, i_room, i_dicts, i_deep, i_open, i_cells, i_points, i_part, i_length, i_knows, i_page, i_text, i_pats, i_fuel, i_fr, i_ink⟩, kSA_S1, (show -1 ≤ (0 : Int32).toInt ∧ (0 : Int32).toInt ≤ 16 ∧ (f_frames S1).toInt ≤ (f_frames S).toInt + 1 ∧ ((0 : Int32).toInt = -1 → ((a_kinds S1) 40).toInt = 11 → 1 ≤ (f_frames S1).toInt ∧ ((a_what S1) ((f_frames S1).toInt - 1).toNat).toInt ≤ 2) by have := tI_0; refine ⟨by omega, by omega, by omega, ?_⟩; first | exact (fun q1 q2 => by omega) | assumption)⟩ hP hD d_Mo_begins_290
theorem m_begins (l : Launch) (D : va_G) (T : Nat → ClassId) (h0 : Nat) (ar : Nat → Nat) (S : MS) (p0 : Int32) (sz : Nat) (hI : MI S) (h1 : 50 ≤ p0.toInt ∧ p0.toInt ≤ 56) (h2 : freeT S) (h3 : begP p0.toInt S) : Met l ⟨"PageScribeModel", "begins", "(I)I"⟩ (wy ⟨"PageScribeModel", "begins", "(I)I"⟩ prog_15_method_64_code 8 (some .int)) ({ frames := 2, cells := 0, slots := 0, locals := 140 }) (va_Pc [.ref h0, .int p0] (Pw D T (mW T h0 ar S) sz E0)) (va_Qi (fun (r : Int32) (u : MS) => MI u ∧ kA S u ∧ (-1 ≤ r.toInt ∧ r.toInt ≤ 16 ∧ (f_frames u).toInt ≤ (f_frames S).toInt + 1 ∧ (r.toInt = -1 → ((a_kinds u) 40).toInt = 11 → 1 ≤ (f_frames u).toInt ∧ ((a_what u) ((f_frames u).toInt - 1).toNat).toInt ≤ 2))) (fun u t => Bw D T (va_A (mW T h0 ar S) sz) (mW T h0 ar u) t) (va_A (mW T h0 ar S) sz)) 0 0 (va_A (mW T h0 ar S) sz) := by
  have hc : p0.toInt = 50 ∨ p0.toInt = 51 ∨ p0.toInt = 52 ∨ p0.toInt = 53 ∨ p0.toInt = 54 ∨ p0.toInt = 55 ∨ p0.toInt = 56 := by omega
  rcases hc with c | c | c | c | c | c | c
  · have e : p0 = 50 := Int32.toInt_inj.mp (by rw [c]; decide +kernel)
    subst e
    exact m_begins_50 l D T h0 ar S  sz hI (h3.1 (by omega))
  · have e : p0 = 51 := Int32.toInt_inj.mp (by rw [c]; decide +kernel)
    subst e
    exact m_begins_51 l D T h0 ar S  sz hI (h3.2.1 (by omega))
  · have e : p0 = 52 := Int32.toInt_inj.mp (by rw [c]; decide +kernel)
    subst e
    exact m_begins_52 l D T h0 ar S  sz hI (h3.2.2.1 (by omega))
  · have e : p0 = 53 := Int32.toInt_inj.mp (by rw [c]; decide +kernel)
    subst e
    exact m_begins_53 l D T h0 ar S  sz hI (h3.2.2.2.1 (by omega)) h2
  · have e : p0 = 54 := Int32.toInt_inj.mp (by rw [c]; decide +kernel)
    subst e
    exact m_begins_54 l D T h0 ar S  sz hI (h3.2.2.2.2.1 (by omega)) h2
  · have e : p0 = 55 := Int32.toInt_inj.mp (by rw [c]; decide +kernel)
    subst e
    exact m_begins_55 l D T h0 ar S  sz hI (h3.2.2.2.2.2.1 (by omega)) h2
  · have e : p0 = 56 := Int32.toInt_inj.mp (by rw [c]; decide +kernel)
    subst e
    exact m_begins_56 l D T h0 ar S  sz hI (h3.2.2.2.2.2.2 (by omega)) h2
