theorem d_Mo_move_0 : decode prog_15_method_3_code 0 = .ok (.aload_n 0, 1) := by decide +kernel
theorem d_Mo_move_1 : decode prog_15_method_3_code 1 = .ok (.getfield 7, 3) := by decide +kernel
theorem d_Mo_move_4 : decode prog_15_method_3_code 4 = .ok (.iload_n 1, 1) := by decide +kernel
theorem d_Mo_move_5 : decode prog_15_method_3_code 5 = .ok (.aload_n 0, 1) := by decide +kernel
theorem d_Mo_move_6 : decode prog_15_method_3_code 6 = .ok (.getfield 7, 3) := by decide +kernel
theorem d_Mo_move_9 : decode prog_15_method_3_code 9 = .ok (.iload_n 2, 1) := by decide +kernel
theorem d_Mo_move_10 : decode prog_15_method_3_code 10 = .ok (.iaload, 1) := by decide +kernel
theorem d_Mo_move_11 : decode prog_15_method_3_code 11 = .ok (.iastore, 1) := by decide +kernel
theorem d_Mo_move_12 : decode prog_15_method_3_code 12 = .ok (.aload_n 0, 1) := by decide +kernel
theorem d_Mo_move_13 : decode prog_15_method_3_code 13 = .ok (.getfield 13, 3) := by decide +kernel
theorem d_Mo_move_16 : decode prog_15_method_3_code 16 = .ok (.iload_n 1, 1) := by decide +kernel
theorem d_Mo_move_17 : decode prog_15_method_3_code 17 = .ok (.aload_n 0, 1) := by decide +kernel
theorem d_Mo_move_18 : decode prog_15_method_3_code 18 = .ok (.getfield 13, 3) := by decide +kernel
theorem d_Mo_move_21 : decode prog_15_method_3_code 21 = .ok (.iload_n 2, 1) := by decide +kernel
theorem d_Mo_move_22 : decode prog_15_method_3_code 22 = .ok (.laload, 1) := by decide +kernel
theorem d_Mo_move_23 : decode prog_15_method_3_code 23 = .ok (.lastore, 1) := by decide +kernel
theorem d_Mo_move_24 : decode prog_15_method_3_code 24 = .ok (.aload_n 0, 1) := by decide +kernel
theorem d_Mo_move_25 : decode prog_15_method_3_code 25 = .ok (.getfield 17, 3) := by decide +kernel
theorem d_Mo_move_28 : decode prog_15_method_3_code 28 = .ok (.iload_n 1, 1) := by decide +kernel
theorem d_Mo_move_29 : decode prog_15_method_3_code 29 = .ok (.aload_n 0, 1) := by decide +kernel
theorem d_Mo_move_30 : decode prog_15_method_3_code 30 = .ok (.getfield 17, 3) := by decide +kernel
theorem d_Mo_move_33 : decode prog_15_method_3_code 33 = .ok (.iload_n 2, 1) := by decide +kernel
theorem d_Mo_move_34 : decode prog_15_method_3_code 34 = .ok (.daload, 1) := by decide +kernel
theorem d_Mo_move_35 : decode prog_15_method_3_code 35 = .ok (.dastore, 1) := by decide +kernel
theorem d_Mo_move_36 : decode prog_15_method_3_code 36 = .ok (.return_, 1) := by decide +kernel
set_option maxHeartbeats 4000000 in
set_option maxRecDepth 100000 in
theorem m_move (l : Launch) (D : va_G) (T : Nat → ClassId) (h0 : Nat) (ar : Nat → Nat) (S : MS) (p0 : Int32) (p1 : Int32) (sz : Nat) (h1 : 0 ≤ p0.toInt ∧ p0.toInt < 1300) (h2 : 0 ≤ p1.toInt ∧ p1.toInt < 1300) : Met l ⟨"PageScribeModel", "move", "(II)V"⟩ (wy ⟨"PageScribeModel", "move", "(II)V"⟩ prog_15_method_3_code 3 none) ({ frames := 0, cells := 0, slots := 0, locals := 0 }) (va_Pc [.ref h0, .int p0, .int p1] (Pw D T (mW T h0 ar S) sz E0)) (va_Qv (fun (u : MS) => u = ((((f_thrown S), (upd (a_kinds S) (p0.toInt.toNat) ((a_kinds S) (p1.toInt.toNat))), (vp_updL (a_codes S) (p0.toInt.toNat) ((a_codes S) (p1.toInt.toNat))), (vf_upd (a_reals S) (p0.toInt.toNat) ((a_reals S) (p1.toInt.toNat))), (f_size S), (f_taken S), (a_words S), (a_many S)), S.2.1, S.2.2.1, S.2.2.2.1, S.2.2.2.2.1, S.2.2.2.2.2) : MS)) (fun u t => Bw D T (va_A (mW T h0 ar S) sz) (mW T h0 ar u) t) (va_A (mW T h0 ar S) sz)) 0 0 (va_A (mW T h0 ar S) sz) := by
  refine j_met (y := ⟨"PageScribeModel", "move", "(II)V"⟩) (b := prog_15_method_3_code) (n := 3) (ret := none) (av := [.ref h0, .int p0, .int p1]) (Qc := fun A => va_Qv (fun (u : MS) => u = ((((f_thrown S), (upd (a_kinds S) (p0.toInt.toNat) ((a_kinds S) (p1.toInt.toNat))), (vp_updL (a_codes S) (p0.toInt.toNat) ((a_codes S) (p1.toInt.toNat))), (vf_upd (a_reals S) (p0.toInt.toNat) ((a_reals S) (p1.toInt.toNat))), (f_size S), (f_taken S), (a_words S), (a_many S)), S.2.1, S.2.2.1, S.2.2.2.1, S.2.2.2.2.1, S.2.2.2.2.2) : MS)) (fun u t => Bw D T A (mW T h0 ar u) t) A) (by decide +kernel) (Nat.le_of_ble_eq_true rfl) (fun p e s m args below meth c A ls F hr hlocks hnm hK hP hD hS hA hN hE hl => ?_)
  obtain ⟨hx, hb, hml, hown, hts⟩ := id F
  have hl : lv_has ls 3 [(0, .ref h0), (1, .int p0), (2, .int p1)] := hl
  refine lv_aload_n hx hb d_Mo_move_0 rfl (lv_at hl 0 rfl) ?_
  refine va_get (D := D) (ci := 11) (v := .ref (ar 0)) (C := "PageScribeModel") (T := F_Mo) (N := 45) hx hb hts i_Mo hown hK hP 0 mW_0 cl_11 1 (by decide) (hts _ k_6_161) (fun _ h9 => h9) (mg_kinds _ _) d_Mo_move_1 ?_
  refine lv_iload_n hx hb d_Mo_move_4 rfl (lv_at hl 1 rfl) ?_
  refine lv_aload_n hx hb d_Mo_move_5 rfl (lv_at hl 0 rfl) ?_
  refine va_get (D := D) (ci := 11) (v := .ref (ar 0)) (C := "PageScribeModel") (T := F_Mo) (N := 45) hx hb hts i_Mo hown hK hP 0 mW_0 cl_11 1 (by decide) (hts _ k_6_161) (fun _ h9 => h9) (mg_kinds _ _) d_Mo_move_6 ?_
  refine lv_iload_n hx hb d_Mo_move_9 rfl (lv_at hl 2 rfl) ?_
  refine va_iald hx hb hK hP 1 0 (ma_kinds _ _ _ _) rfl (zt_in (show p1.toInt = _ from rfl) (by omega) (by omega)) d_Mo_move_10 ?_
  refine lv_topi (fun x1 ex1 => ?_)
  have gx1 : x1 = (a_kinds S) p1.toInt.toNat := ex1.trans (congrArg _ (zt_ix (show p1.toInt = _ from rfl)))
  have fx1 : x1.toInt = ((a_kinds S) p1.toInt.toNat).toInt := by rw [gx1]
  refine va_iast hx hb hK hP hD hS 1 0 (ma_kinds _ _ _ _) rfl (zt_in (show p0.toInt = _ from rfl) (by omega) (by omega)) d_Mo_move_11 (fun H locs hP hD hS => ?_)
  rw [ms_kinds] at hP hD
  rw [zt_ix (show p0.toInt = _ from rfl)] at hP hD
  have hP : va_P D classes (mW T h0 ar ((((f_thrown S), (upd (a_kinds S) (p0.toInt.toNat) x1), (a_codes S), (a_reals S), (f_size S), (f_taken S), (a_words S), (a_many S)), S.2.1, S.2.2.1, S.2.2.2.1, S.2.2.2.2.1, S.2.2.2.2.2) : MS)) H := hP
  have hD : va_D A (mW T h0 ar ((((f_thrown S), (upd (a_kinds S) (p0.toInt.toNat) x1), (a_codes S), (a_reals S), (f_size S), (f_taken S), (a_words S), (a_many S)), S.2.1, S.2.2.1, S.2.2.2.1, S.2.2.2.2.1, S.2.2.2.2.2) : MS)) := hD
  refine lv_aload_n hx hb d_Mo_move_12 rfl (lv_at hl 0 rfl) ?_
  refine va_get (D := D) (ci := 11) (v := .ref (ar 1)) (C := "PageScribeModel") (T := F_Mo) (N := 45) hx hb hts i_Mo hown hK hP 0 mW_0 cl_11 2 (by decide) (hts _ k_6_162) (fun _ h9 => h9) (mg_codes _ _) d_Mo_move_13 ?_
  refine lv_iload_n hx hb d_Mo_move_16 rfl (lv_at hl 1 rfl) ?_
  refine lv_aload_n hx hb d_Mo_move_17 rfl (lv_at hl 0 rfl) ?_
  refine va_get (D := D) (ci := 11) (v := .ref (ar 1)) (C := "PageScribeModel") (T := F_Mo) (N := 45) hx hb hts i_Mo hown hK hP 0 mW_0 cl_11 2 (by decide) (hts _ k_6_162) (fun _ h9 => h9) (mg_codes _ _) d_Mo_move_18 ?_
  refine lv_iload_n hx hb d_Mo_move_21 rfl (lv_at hl 2 rfl) ?_
  refine va_lald hx hb hK hP 2 1 (ma_codes _ _ _ _) rfl (zt_in (show p1.toInt = _ from rfl) (by omega) (by omega)) d_Mo_move_22 ?_
  refine lv_topl (fun x2 ex2 => ?_)
  have gx2 : x2 = (a_codes S) p1.toInt.toNat := ex2.trans (congrArg _ (zt_ix (show p1.toInt = _ from rfl)))
  have fx2 : x2.toInt = ((a_codes S) p1.toInt.toNat).toInt := by rw [gx2]
  refine va_last hx hb hK hP hD hS 2 1 (ma_codes _ _ _ _) rfl (zt_in (show p0.toInt = _ from rfl) (by omega) (by omega)) d_Mo_move_23 (fun H locs hP hD hS => ?_)
  rw [ms_codes] at hP hD
  rw [zt_ix (show p0.toInt = _ from rfl)] at hP hD
  have hP : va_P D classes (mW T h0 ar ((((f_thrown S), (upd (a_kinds S) (p0.toInt.toNat) x1), (vp_updL (a_codes S) (p0.toInt.toNat) x2), (a_reals S), (f_size S), (f_taken S), (a_words S), (a_many S)), S.2.1, S.2.2.1, S.2.2.2.1, S.2.2.2.2.1, S.2.2.2.2.2) : MS)) H := hP
  have hD : va_D A (mW T h0 ar ((((f_thrown S), (upd (a_kinds S) (p0.toInt.toNat) x1), (vp_updL (a_codes S) (p0.toInt.toNat) x2), (a_reals S), (f_size S), (f_taken S), (a_words S), (a_many S)), S.2.1, S.2.2.1, S.2.2.2.1, S.2.2.2.2.1, S.2.2.2.2.2) : MS)) := hD
  refine lv_aload_n hx hb d_Mo_move_24 rfl (lv_at hl 0 rfl) ?_
  refine va_get (D := D) (ci := 11) (v := .ref (ar 2)) (C := "PageScribeModel") (T := F_Mo) (N := 45) hx hb hts i_Mo hown hK hP 0 mW_0 cl_11 3 (by decide) (hts _ k_6_163) (fun _ h9 => h9) (mg_reals _ _) d_Mo_move_25 ?_
  refine lv_iload_n hx hb d_Mo_move_28 rfl (lv_at hl 1 rfl) ?_
  refine lv_aload_n hx hb d_Mo_move_29 rfl (lv_at hl 0 rfl) ?_
  refine va_get (D := D) (ci := 11) (v := .ref (ar 2)) (C := "PageScribeModel") (T := F_Mo) (N := 45) hx hb hts i_Mo hown hK hP 0 mW_0 cl_11 3 (by decide) (hts _ k_6_163) (fun _ h9 => h9) (mg_reals _ _) d_Mo_move_30 ?_
  refine lv_iload_n hx hb d_Mo_move_33 rfl (lv_at hl 2 rfl) ?_
  refine va_dald hx hb hK hP 3 3 (ma_reals _ _ _ _) rfl (zt_in (show p1.toInt = _ from rfl) (by omega) (by omega)) d_Mo_move_34 ?_
  refine lv_topd (fun x3 ex3 => ?_)
  have gx3 : x3 = (a_reals S) p1.toInt.toNat := ex3.trans (congrArg _ (zt_ix (show p1.toInt = _ from rfl)))
  refine va_dast hx hb hK hP hD hS 3 3 (ma_reals _ _ _ _) rfl (zt_in (show p0.toInt = _ from rfl) (by omega) (by omega)) d_Mo_move_35 (fun H locs hP hD hS => ?_)
  rw [ms_reals] at hP hD
  rw [zt_ix (show p0.toInt = _ from rfl)] at hP hD
  have hP : va_P D classes (mW T h0 ar ((((f_thrown S), (upd (a_kinds S) (p0.toInt.toNat) x1), (vp_updL (a_codes S) (p0.toInt.toNat) x2), (vf_upd (a_reals S) (p0.toInt.toNat) x3), (f_size S), (f_taken S), (a_words S), (a_many S)), S.2.1, S.2.2.1, S.2.2.2.1, S.2.2.2.2.1, S.2.2.2.2.2) : MS)) H := hP
  have hD : va_D A (mW T h0 ar ((((f_thrown S), (upd (a_kinds S) (p0.toInt.toNat) x1), (vp_updL (a_codes S) (p0.toInt.toNat) x2), (vf_upd (a_reals S) (p0.toInt.toNat) x3), (f_size S), (f_taken S), (a_words S), (a_many S)), S.2.1, S.2.2.1, S.2.2.2.1, S.2.2.2.2.1, S.2.2.2.2.2) : MS)) := hD
  exact j_vret F hr hlocks hK hS ((((f_thrown S), (upd (a_kinds S) (p0.toInt.toNat) x1), (vp_updL (a_codes S) (p0.toInt.toNat) x2), (vf_upd (a_reals S) (p0.toInt.toNat) x3), (f_size S), (f_taken S), (a_words S), (a_many S)), S.2.1, S.2.2.1, S.2.2.2.1, S.2.2.2.2.1, S.2.2.2.2.2) : MS) (by rw [gx1, gx2, gx3]) hP hD d_Mo_move_36
theorem d_Mo_set_0 : decode prog_15_method_4_code 0 = .ok (.aload_n 0, 1) := by decide +kernel
theorem d_Mo_set_1 : decode prog_15_method_4_code 1 = .ok (.getfield 7, 3) := by decide +kernel
theorem d_Mo_set_4 : decode prog_15_method_4_code 4 = .ok (.iload_n 1, 1) := by decide +kernel
theorem d_Mo_set_5 : decode prog_15_method_4_code 5 = .ok (.iload_n 2, 1) := by decide +kernel
theorem d_Mo_set_6 : decode prog_15_method_4_code 6 = .ok (.iastore, 1) := by decide +kernel
theorem d_Mo_set_7 : decode prog_15_method_4_code 7 = .ok (.aload_n 0, 1) := by decide +kernel
theorem d_Mo_set_8 : decode prog_15_method_4_code 8 = .ok (.getfield 13, 3) := by decide +kernel
theorem d_Mo_set_11 : decode prog_15_method_4_code 11 = .ok (.iload_n 1, 1) := by decide +kernel
theorem d_Mo_set_12 : decode prog_15_method_4_code 12 = .ok (.lload_n 3, 1) := by decide +kernel
theorem d_Mo_set_13 : decode prog_15_method_4_code 13 = .ok (.lastore, 1) := by decide +kernel
theorem d_Mo_set_14 : decode prog_15_method_4_code 14 = .ok (.aload_n 0, 1) := by decide +kernel
theorem d_Mo_set_15 : decode prog_15_method_4_code 15 = .ok (.getfield 17, 3) := by decide +kernel
theorem d_Mo_set_18 : decode prog_15_method_4_code 18 = .ok (.iload_n 1, 1) := by decide +kernel
theorem d_Mo_set_19 : decode prog_15_method_4_code 19 = .ok (.dconst 0, 1) := by decide +kernel
theorem tD_0 : dk 0 = 0 := by decide +kernel
theorem d_Mo_set_20 : decode prog_15_method_4_code 20 = .ok (.dastore, 1) := by decide +kernel
theorem d_Mo_set_21 : decode prog_15_method_4_code 21 = .ok (.return_, 1) := by decide +kernel
set_option maxHeartbeats 4000000 in
set_option maxRecDepth 100000 in
theorem m_set (l : Launch) (D : va_G) (T : Nat → ClassId) (h0 : Nat) (ar : Nat → Nat) (S : MS) (p0 : Int32) (p1 : Int32) (v0 : Int64) (sz : Nat) (h1 : 0 ≤ p0.toInt ∧ p0.toInt < 1300) : Met l ⟨"PageScribeModel", "set", "(IIJ)V"⟩ (wy ⟨"PageScribeModel", "set", "(IIJ)V"⟩ prog_15_method_4_code 5 none) ({ frames := 0, cells := 0, slots := 0, locals := 0 }) (va_Pc [.ref h0, .int p0, .int p1, .long v0] (Pw D T (mW T h0 ar S) sz E0)) (va_Qv (fun (u : MS) => u = ((((f_thrown S), (upd (a_kinds S) (p0.toInt.toNat) p1), (vp_updL (a_codes S) (p0.toInt.toNat) v0), (vf_upd (a_reals S) (p0.toInt.toNat) 0), (f_size S), (f_taken S), (a_words S), (a_many S)), S.2.1, S.2.2.1, S.2.2.2.1, S.2.2.2.2.1, S.2.2.2.2.2) : MS)) (fun u t => Bw D T (va_A (mW T h0 ar S) sz) (mW T h0 ar u) t) (va_A (mW T h0 ar S) sz)) 0 0 (va_A (mW T h0 ar S) sz) := by
  refine j_met (y := ⟨"PageScribeModel", "set", "(IIJ)V"⟩) (b := prog_15_method_4_code) (n := 5) (ret := none) (av := [.ref h0, .int p0, .int p1, .long v0]) (Qc := fun A => va_Qv (fun (u : MS) => u = ((((f_thrown S), (upd (a_kinds S) (p0.toInt.toNat) p1), (vp_updL (a_codes S) (p0.toInt.toNat) v0), (vf_upd (a_reals S) (p0.toInt.toNat) 0), (f_size S), (f_taken S), (a_words S), (a_many S)), S.2.1, S.2.2.1, S.2.2.2.1, S.2.2.2.2.1, S.2.2.2.2.2) : MS)) (fun u t => Bw D T A (mW T h0 ar u) t) A) (by decide +kernel) (Nat.le_of_ble_eq_true rfl) (fun p e s m args below meth c A ls F hr hlocks hnm hK hP hD hS hA hN hE hl => ?_)
  obtain ⟨hx, hb, hml, hown, hts⟩ := id F
  have hl : lv_has ls 5 [(0, .ref h0), (1, .int p0), (2, .int p1), (3, .long v0)] := hl
  refine lv_aload_n hx hb d_Mo_set_0 rfl (lv_at hl 0 rfl) ?_
  refine va_get (D := D) (ci := 11) (v := .ref (ar 0)) (C := "PageScribeModel") (T := F_Mo) (N := 45) hx hb hts i_Mo hown hK hP 0 mW_0 cl_11 1 (by decide) (hts _ k_6_161) (fun _ h9 => h9) (mg_kinds _ _) d_Mo_set_1 ?_
  refine lv_iload_n hx hb d_Mo_set_4 rfl (lv_at hl 1 rfl) ?_
  refine lv_iload_n hx hb d_Mo_set_5 rfl (lv_at hl 2 rfl) ?_
  refine va_iast hx hb hK hP hD hS 1 0 (ma_kinds _ _ _ _) rfl (zt_in (show p0.toInt = _ from rfl) (by omega) (by omega)) d_Mo_set_6 (fun H locs hP hD hS => ?_)
  rw [ms_kinds] at hP hD
  rw [zt_ix (show p0.toInt = _ from rfl)] at hP hD
  have hP : va_P D classes (mW T h0 ar ((((f_thrown S), (upd (a_kinds S) (p0.toInt.toNat) p1), (a_codes S), (a_reals S), (f_size S), (f_taken S), (a_words S), (a_many S)), S.2.1, S.2.2.1, S.2.2.2.1, S.2.2.2.2.1, S.2.2.2.2.2) : MS)) H := hP
  have hD : va_D A (mW T h0 ar ((((f_thrown S), (upd (a_kinds S) (p0.toInt.toNat) p1), (a_codes S), (a_reals S), (f_size S), (f_taken S), (a_words S), (a_many S)), S.2.1, S.2.2.1, S.2.2.2.1, S.2.2.2.2.1, S.2.2.2.2.2) : MS)) := hD
  refine lv_aload_n hx hb d_Mo_set_7 rfl (lv_at hl 0 rfl) ?_
  refine va_get (D := D) (ci := 11) (v := .ref (ar 1)) (C := "PageScribeModel") (T := F_Mo) (N := 45) hx hb hts i_Mo hown hK hP 0 mW_0 cl_11 2 (by decide) (hts _ k_6_162) (fun _ h9 => h9) (mg_codes _ _) d_Mo_set_8 ?_
  refine lv_iload_n hx hb d_Mo_set_11 rfl (lv_at hl 1 rfl) ?_
  refine lv_lload_n hx hb d_Mo_set_12 rfl (lv_at hl 3 rfl) ?_
  refine va_last hx hb hK hP hD hS 2 1 (ma_codes _ _ _ _) rfl (zt_in (show p0.toInt = _ from rfl) (by omega) (by omega)) d_Mo_set_13 (fun H locs hP hD hS => ?_)
  rw [ms_codes] at hP hD
  rw [zt_ix (show p0.toInt = _ from rfl)] at hP hD
  have hP : va_P D classes (mW T h0 ar ((((f_thrown S), (upd (a_kinds S) (p0.toInt.toNat) p1), (vp_updL (a_codes S) (p0.toInt.toNat) v0), (a_reals S), (f_size S), (f_taken S), (a_words S), (a_many S)), S.2.1, S.2.2.1, S.2.2.2.1, S.2.2.2.2.1, S.2.2.2.2.2) : MS)) H := hP
  have hD : va_D A (mW T h0 ar ((((f_thrown S), (upd (a_kinds S) (p0.toInt.toNat) p1), (vp_updL (a_codes S) (p0.toInt.toNat) v0), (a_reals S), (f_size S), (f_taken S), (a_words S), (a_many S)), S.2.1, S.2.2.1, S.2.2.2.1, S.2.2.2.2.1, S.2.2.2.2.2) : MS)) := hD
  refine lv_aload_n hx hb d_Mo_set_14 rfl (lv_at hl 0 rfl) ?_
  refine va_get (D := D) (ci := 11) (v := .ref (ar 2)) (C := "PageScribeModel") (T := F_Mo) (N := 45) hx hb hts i_Mo hown hK hP 0 mW_0 cl_11 3 (by decide) (hts _ k_6_163) (fun _ h9 => h9) (mg_reals _ _) d_Mo_set_15 ?_
  refine lv_iload_n hx hb d_Mo_set_18 rfl (lv_at hl 1 rfl) ?_
  refine lv_dconst0 hx hb d_Mo_set_19 ?_
  have := tD_0
  refine va_dast hx hb hK hP hD hS 3 3 (ma_reals _ _ _ _) rfl (zt_in (show p0.toInt = _ from rfl) (by omega) (by omega)) d_Mo_set_20 (fun H locs hP hD hS => ?_)
  rw [ms_reals] at hP hD
  rw [zt_ix (show p0.toInt = _ from rfl)] at hP hD
  have hP : va_P D classes (mW T h0 ar ((((f_thrown S), (upd (a_kinds S) (p0.toInt.toNat) p1), (vp_updL (a_codes S) (p0.toInt.toNat) v0), (vf_upd (a_reals S) (p0.toInt.toNat) 0), (f_size S), (f_taken S), (a_words S), (a_many S)), S.2.1, S.2.2.1, S.2.2.2.1, S.2.2.2.2.1, S.2.2.2.2.2) : MS)) H := hP
  have hD : va_D A (mW T h0 ar ((((f_thrown S), (upd (a_kinds S) (p0.toInt.toNat) p1), (vp_updL (a_codes S) (p0.toInt.toNat) v0), (vf_upd (a_reals S) (p0.toInt.toNat) 0), (f_size S), (f_taken S), (a_words S), (a_many S)), S.2.1, S.2.2.1, S.2.2.2.1, S.2.2.2.2.1, S.2.2.2.2.2) : MS)) := hD
  exact j_vret F hr hlocks hK hS ((((f_thrown S), (upd (a_kinds S) (p0.toInt.toNat) p1), (vp_updL (a_codes S) (p0.toInt.toNat) v0), (vf_upd (a_reals S) (p0.toInt.toNat) 0), (f_size S), (f_taken S), (a_words S), (a_many S)), S.2.1, S.2.2.1, S.2.2.2.1, S.2.2.2.2.1, S.2.2.2.2.2) : MS) rfl hP hD d_Mo_set_21
