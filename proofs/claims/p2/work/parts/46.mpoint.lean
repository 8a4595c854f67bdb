abbrev dI (x : UInt64) : Prop := -4696837146684686336 ≤ dk x ∧ dk x ≤ 4696837146684686336
theorem ink_up {g : UInt32} {ac al : Nat → UInt64} {i : Nat} {a b : UInt64} (H : inkOk g ac al) (ha : dI a) (hb : dI b) : inkOk g (vf_upd ac i a) (vf_upd al i b) := by
  refine ⟨H.1, fun k hk => ?_⟩
  by_cases e : k = i
  · subst e
    unfold vf_upd
    rw [if_pos rfl, if_pos rfl]
    exact ⟨ha, hb⟩
  · unfold vf_upd
    rw [if_neg e, if_neg e]
    exact H.2 k hk
theorem d_Mo_point_0 : decode prog_15_method_72_code 0 = .ok (.aload_n 0, 1) := by decide +kernel
theorem k_6_198 : Cond.fieldLink "PageScribeModel" 78 "PageScribeModel" "across" "[D" ∈ gw := gw_of (tb_6 (List.mem_of_getElem? (i := 198) (by decide +kernel))) (by decide +kernel)
theorem d_Mo_point_1 : decode prog_15_method_72_code 1 = .ok (.getfield 78, 3) := by decide +kernel
theorem d_Mo_point_4 : decode prog_15_method_72_code 4 = .ok (.aload_n 0, 1) := by decide +kernel
theorem k_6_201 : Cond.fieldLink "PageScribeModel" 547 "PageScribeModel" "points" "I" ∈ gw := gw_of (tb_6 (List.mem_of_getElem? (i := 201) (by decide +kernel))) (by decide +kernel)
theorem d_Mo_point_5 : decode prog_15_method_72_code 5 = .ok (.getfield 547, 3) := by decide +kernel
theorem d_Mo_point_8 : decode prog_15_method_72_code 8 = .ok (.dload_n 1, 1) := by decide +kernel
theorem d_Mo_point_9 : decode prog_15_method_72_code 9 = .ok (.dastore, 1) := by decide +kernel
theorem d_Mo_point_10 : decode prog_15_method_72_code 10 = .ok (.aload_n 0, 1) := by decide +kernel
theorem k_6_199 : Cond.fieldLink "PageScribeModel" 81 "PageScribeModel" "along" "[D" ∈ gw := gw_of (tb_6 (List.mem_of_getElem? (i := 199) (by decide +kernel))) (by decide +kernel)
theorem d_Mo_point_11 : decode prog_15_method_72_code 11 = .ok (.getfield 81, 3) := by decide +kernel
theorem d_Mo_point_14 : decode prog_15_method_72_code 14 = .ok (.aload_n 0, 1) := by decide +kernel
theorem d_Mo_point_15 : decode prog_15_method_72_code 15 = .ok (.getfield 547, 3) := by decide +kernel
theorem d_Mo_point_18 : decode prog_15_method_72_code 18 = .ok (.dload_n 3, 1) := by decide +kernel
theorem d_Mo_point_19 : decode prog_15_method_72_code 19 = .ok (.dastore, 1) := by decide +kernel
theorem d_Mo_point_20 : decode prog_15_method_72_code 20 = .ok (.aload_n 0, 1) := by decide +kernel
theorem k_6_200 : Cond.fieldLink "PageScribeModel" 84 "PageScribeModel" "part" "[I" ∈ gw := gw_of (tb_6 (List.mem_of_getElem? (i := 200) (by decide +kernel))) (by decide +kernel)
theorem d_Mo_point_21 : decode prog_15_method_72_code 21 = .ok (.getfield 84, 3) := by decide +kernel
theorem d_Mo_point_24 : decode prog_15_method_72_code 24 = .ok (.aload_n 0, 1) := by decide +kernel
theorem d_Mo_point_25 : decode prog_15_method_72_code 25 = .ok (.getfield 547, 3) := by decide +kernel
theorem d_Mo_point_28 : decode prog_15_method_72_code 28 = .ok (.iload 5, 2) := by decide +kernel
theorem d_Mo_point_30 : decode prog_15_method_72_code 30 = .ok (.iastore, 1) := by decide +kernel
theorem d_Mo_point_31 : decode prog_15_method_72_code 31 = .ok (.aload_n 0, 1) := by decide +kernel
theorem d_Mo_point_32 : decode prog_15_method_72_code 32 = .ok (.dup, 1) := by decide +kernel
theorem d_Mo_point_33 : decode prog_15_method_72_code 33 = .ok (.getfield 547, 3) := by decide +kernel
theorem d_Mo_point_36 : decode prog_15_method_72_code 36 = .ok (.iconst 1, 1) := by decide +kernel
theorem d_Mo_point_37 : decode prog_15_method_72_code 37 = .ok (.iadd, 1) := by decide +kernel
theorem d_Mo_point_38 : decode prog_15_method_72_code 38 = .ok (.putfield 547, 3) := by decide +kernel
theorem d_Mo_point_41 : decode prog_15_method_72_code 41 = .ok (.iconst 0, 1) := by decide +kernel
theorem d_Mo_point_42 : decode prog_15_method_72_code 42 = .ok (.ireturn, 1) := by decide +kernel
set_option maxHeartbeats 4000000 in
set_option maxRecDepth 100000 in
theorem m_point (l : Launch) (D : va_G) (T : Nat → ClassId) (h0 : Nat) (ar : Nat → Nat) (S : MS) (d0 : UInt64) (d1 : UInt64) (p0 : Int32) (sz : Nat) (hI : MI S) (h3 : (f_points S).toInt < 30) (h4 : dI d0) (h5 : dI d1) (h6 : 0 ≤ p0.toInt ∧ p0.toInt ≤ 29) : Met l ⟨"PageScribeModel", "point", "(DDI)I"⟩ (wy ⟨"PageScribeModel", "point", "(DDI)I"⟩ prog_15_method_72_code 6 (some .int)) ({ frames := 0, cells := 0, slots := 0, locals := 0 }) (va_Pc [.ref h0, .double d0, .double d1, .int p0] (Pw D T (mW T h0 ar S) sz E0)) (va_Qi (fun (r : Int32) (u : MS) => MI u ∧ kA S u ∧ kF S u ∧ (r.toInt = 0)) (fun u t => Bw D T (va_A (mW T h0 ar S) sz) (mW T h0 ar u) t) (va_A (mW T h0 ar S) sz)) 0 0 (va_A (mW T h0 ar S) sz) := by
  refine j_met (y := ⟨"PageScribeModel", "point", "(DDI)I"⟩) (b := prog_15_method_72_code) (n := 6) (ret := (some .int)) (av := [.ref h0, .double d0, .double d1, .int p0]) (Qc := fun A => va_Qi (fun (r : Int32) (u : MS) => MI u ∧ kA S u ∧ kF S u ∧ (r.toInt = 0)) (fun u t => Bw D T A (mW T h0 ar u) t) A) (by decide +kernel) (Nat.le_of_ble_eq_true rfl) (fun p e s m args below meth c A ls F hr hlocks hnm hK hP hD hS hA hN hE hl => ?_)
  obtain ⟨hx, hb, hml, hown, hts⟩ := id F
  have hl : lv_has ls 6 [(0, .ref h0), (1, .double d0), (3, .double d1), (5, .int p0)] := hl
  obtain ⟨i_size, i_taken, i_vals, i_room, i_dicts, i_deep, i_open, i_cells, i_points, i_part, i_length, i_knows, i_page, i_text, i_pats, i_fuel, i_fr, i_ink⟩ := id hI
  refine lv_aload_n hx hb d_Mo_point_0 rfl (lv_at hl 0 rfl) ?_
  refine va_get (D := D) (ci := 11) (v := .ref (ar 19)) (C := "PageScribeModel") (T := F_Mo) (N := 45) hx hb hts i_Mo hown hK hP 0 mW_0 cl_11 38 (by decide) (hts _ k_6_198) (fun _ h9 => h9) (mg_across _ _) d_Mo_point_1 ?_
  refine lv_aload_n hx hb d_Mo_point_4 rfl (lv_at hl 0 rfl) ?_
  refine va_get (D := D) (ci := 11) (v := .int (f_points S)) (C := "PageScribeModel") (T := F_Mo) (N := 45) hx hb hts i_Mo hown hK hP 0 mW_0 cl_11 41 (by decide) (hts _ k_6_201) (fun _ h9 => h9) (mg_points _ _) d_Mo_point_5 ?_
  refine lv_dload_n hx hb d_Mo_point_8 rfl (lv_at hl 1 rfl) ?_
  refine va_dast hx hb hK hP hD hS 20 3 (ma_across _ _ _ _) rfl (zt_in (show (f_points S).toInt = _ from rfl) (by omega) (by omega)) d_Mo_point_9 (fun H locs hP hD hS => ?_)
  rw [ms_across] at hP hD
  rw [zt_ix (show (f_points S).toInt = _ from rfl)] at hP hD
  have hP : va_P D classes (mW T h0 ar ((S.1, S.2.1, S.2.2.1, S.2.2.2.1, ((f_steps S), (f_failure S), (f_columns S), (f_rows S), (a_pixels S), (f_gray S), (vf_upd (a_across S) ((f_points S).toInt.toNat) d0), (a_along S)), S.2.2.2.2.2) : MS)) H := hP
  have hD : va_D A (mW T h0 ar ((S.1, S.2.1, S.2.2.1, S.2.2.2.1, ((f_steps S), (f_failure S), (f_columns S), (f_rows S), (a_pixels S), (f_gray S), (vf_upd (a_across S) ((f_points S).toInt.toNat) d0), (a_along S)), S.2.2.2.2.2) : MS)) := hD
  refine lv_aload_n hx hb d_Mo_point_10 rfl (lv_at hl 0 rfl) ?_
  refine va_get (D := D) (ci := 11) (v := .ref (ar 20)) (C := "PageScribeModel") (T := F_Mo) (N := 45) hx hb hts i_Mo hown hK hP 0 mW_0 cl_11 39 (by decide) (hts _ k_6_199) (fun _ h9 => h9) (mg_along _ _) d_Mo_point_11 ?_
  refine lv_aload_n hx hb d_Mo_point_14 rfl (lv_at hl 0 rfl) ?_
  refine va_get (D := D) (ci := 11) (v := .int (f_points S)) (C := "PageScribeModel") (T := F_Mo) (N := 45) hx hb hts i_Mo hown hK hP 0 mW_0 cl_11 41 (by decide) (hts _ k_6_201) (fun _ h9 => h9) (mg_points _ _) d_Mo_point_15 ?_
  refine lv_dload_n hx hb d_Mo_point_18 rfl (lv_at hl 2 rfl) ?_
  refine va_dast hx hb hK hP hD hS 21 3 (ma_along _ _ _ _) rfl (zt_in (show (f_points S).toInt = _ from rfl) (by omega) (by omega)) d_Mo_point_19 (fun H locs hP hD hS => ?_)
  rw [ms_along] at hP hD
  rw [zt_ix (show (f_points S).toInt = _ from rfl)] at hP hD
  have hP : va_P D classes (mW T h0 ar ((S.1, S.2.1, S.2.2.1, S.2.2.2.1, ((f_steps S), (f_failure S), (f_columns S), (f_rows S), (a_pixels S), (f_gray S), (vf_upd (a_across S) ((f_points S).toInt.toNat) d0), (vf_upd (a_along S) ((f_points S).toInt.toNat) d1)), S.2.2.2.2.2) : MS)) H := hP
  have hD : va_D A (mW T h0 ar ((S.1, S.2.1, S.2.2.1, S.2.2.2.1, ((f_steps S), (f_failure S), (f_columns S), (f_rows S), (a_pixels S), (f_gray S), (vf_upd (a_across S) ((f_points S).toInt.toNat) d0), (vf_upd (a_along S) ((f_points S).toInt.toNat) d1)), S.2.2.2.2.2) : MS)) := hD
  refine lv_aload_n hx hb d_Mo_point_20 rfl (lv_at hl 0 rfl) ?_
  refine va_get (D := D) (ci := 11) (v := .ref (ar 21)) (C := "PageScribeModel") (T := F_Mo) (N := 45) hx hb hts i_Mo hown hK hP 0 mW_0 cl_11 40 (by decide) (hts _ k_6_200) (fun _ h9 => h9) (mg_part _ _) d_Mo_point_21 ?_
  refine lv_aload_n hx hb d_Mo_point_24 rfl (lv_at hl 0 rfl) ?_
  refine va_get (D := D) (ci := 11) (v := .int (f_points S)) (C := "PageScribeModel") (T := F_Mo) (N := 45) hx hb hts i_Mo hown hK hP 0 mW_0 cl_11 41 (by decide) (hts _ k_6_201) (fun _ h9 => h9) (mg_points _ _) d_Mo_point_25 ?_
  refine lv_iload hx hb d_Mo_point_28 (lv_at hl 3 rfl) ?_
  refine va_iast hx hb hK hP hD hS 22 0 (ma_part _ _ _ _) rfl (zt_in (show (f_points S).toInt = _ from rfl) (by omega) (by omega)) d_Mo_point_30 (fun H locs hP hD hS => ?_)
  rw [ms_part] at hP hD
  rw [zt_ix (show (f_points S).toInt = _ from rfl)] at hP hD
  have hP : va_P D classes (mW T h0 ar ((S.1, S.2.1, S.2.2.1, S.2.2.2.1, ((f_steps S), (f_failure S), (f_columns S), (f_rows S), (a_pixels S), (f_gray S), (vf_upd (a_across S) ((f_points S).toInt.toNat) d0), (vf_upd (a_along S) ((f_points S).toInt.toNat) d1)), ((upd (a_part S) ((f_points S).toInt.toNat) p0), (f_points S), (a_patterns S), (a_early S), (a_late S))) : MS)) H := hP
  have hD : va_D A (mW T h0 ar ((S.1, S.2.1, S.2.2.1, S.2.2.2.1, ((f_steps S), (f_failure S), (f_columns S), (f_rows S), (a_pixels S), (f_gray S), (vf_upd (a_across S) ((f_points S).toInt.toNat) d0), (vf_upd (a_along S) ((f_points S).toInt.toNat) d1)), ((upd (a_part S) ((f_points S).toInt.toNat) p0), (f_points S), (a_patterns S), (a_early S), (a_late S))) : MS)) := hD
  refine lv_aload_n hx hb d_Mo_point_31 rfl (lv_at hl 0 rfl) ?_
  refine lv_dup hx hb d_Mo_point_32 rfl ?_
  refine va_get (D := D) (ci := 11) (v := .int (f_points S)) (C := "PageScribeModel") (T := F_Mo) (N := 45) hx hb hts i_Mo hown hK hP 0 mW_0 cl_11 41 (by decide) (hts _ k_6_201) (fun _ h9 => h9) (mg_points _ _) d_Mo_point_33 ?_
  refine lv_iconst (v := 1) hx hb d_Mo_point_36 (by decide) ?_
  refine lv_iadd hx hb d_Mo_point_37 ?_
  refine lv_topi (fun x1 ex1 => ?_)
  have fx1 : x1.toInt = ((f_points S).toInt + 1) := by rw [ex1]; exact (zt_add (show (f_points S).toInt = _ from rfl) tI_1 (by omega) (by omega)).trans (by omega)
  refine va_put (D := D) (ci := 11) (v := .int x1) (ty := .int) (C := "PageScribeModel") (T := F_Mo) (N := 45) hx hb hts i_Mo t_Mo t_Mo_ok n_Mo hown hK hP hD hS 0 mW_0 cl_11 41 (by decide) (hts _ k_6_201) (fun _ h9 => h9) rfl (by decide +kernel) rfl rfl (Nat.le_of_ble_eq_true rfl) d_Mo_point_38 (fun H locs hP hD hS => ?_)
  rw [mp_points] at hP hD
  have hP : va_P D classes (mW T h0 ar ((S.1, S.2.1, S.2.2.1, S.2.2.2.1, ((f_steps S), (f_failure S), (f_columns S), (f_rows S), (a_pixels S), (f_gray S), (vf_upd (a_across S) ((f_points S).toInt.toNat) d0), (vf_upd (a_along S) ((f_points S).toInt.toNat) d1)), ((upd (a_part S) ((f_points S).toInt.toNat) p0), x1, (a_patterns S), (a_early S), (a_late S))) : MS)) H := hP
  have hD : va_D A (mW T h0 ar ((S.1, S.2.1, S.2.2.1, S.2.2.2.1, ((f_steps S), (f_failure S), (f_columns S), (f_rows S), (a_pixels S), (f_gray S), (vf_upd (a_across S) ((f_points S).toInt.toNat) d0), (vf_upd (a_along S) ((f_points S).toInt.toNat) d1)), ((upd (a_part S) ((f_points S).toInt.toNat) p0), x1, (a_patterns S), (a_early S), (a_late S))) : MS)) := hD
  refine lv_iconst (v := 0) hx hb d_Mo_point_41 (by decide) ?_
  exact j_iret F hr hlocks hK hS ((S.1, S.2.1, S.2.2.1, S.2.2.2.1, ((f_steps S), (f_failure S), (f_columns S), (f_rows S), (a_pixels S), (f_gray S), (vf_upd (a_across S) ((f_points S).toInt.toNat) d0), (vf_upd (a_along S) ((f_points S).toInt.toNat) d1)), ((upd (a_part S) ((f_points S).toInt.toNat) p0), x1, (a_patterns S), (a_early S), (a_late S))) : MS) ⟨⟨i_size, i_taken, i_vals, i_room, i_dicts, i_deep, i_open, i_cells, (show 0 ≤ x1.toInt ∧ x1.toInt ≤ 30 by omega), (ar_up (lo := 0) (hi := 29) (N := 30) i_part (by omega)), i_length, i_knows, i_page, i_text, i_pats, i_fuel, i_fr, (ink_up i_ink h4 h5)⟩, (kA_r S), (kF_r S), (show (0 : Int32).toInt = 0 by have := tI_0; omega)⟩ hP hD d_Mo_point_42
