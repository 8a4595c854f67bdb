theorem zt_bo {x : Int32} (h : x.toInt = 0 ∨ x.toInt = 1) : narrow .boolean (.int x) = .int x := by
  rcases h with h | h
  · have e : x = 0 := Int32.toInt_inj.mp (by rw [h]; decide +kernel)
    rw [e]; rfl
  · have e : x = 1 := Int32.toInt_inj.mp (by rw [h]; decide +kernel)
    rw [e]; rfl
theorem d_Reader_empty_0 : decode prog_7_method_3_code 0 = .ok (.aload_n 0, 1) := by decide +kernel
theorem d_Reader_empty_1 : decode prog_7_method_3_code 1 = .ok (.iconst 0, 1) := by decide +kernel
theorem d_Reader_empty_2 : decode prog_7_method_3_code 2 = .ok (.putfield 15, 3) := by decide +kernel
theorem d_Reader_empty_5 : decode prog_7_method_3_code 5 = .ok (.aload_n 0, 1) := by decide +kernel
theorem d_Reader_empty_6 : decode prog_7_method_3_code 6 = .ok (.iconst 0, 1) := by decide +kernel
theorem d_Reader_empty_7 : decode prog_7_method_3_code 7 = .ok (.putfield 19, 3) := by decide +kernel
theorem k_1_171 : Cond.fieldLink "PageScribe$Reader" 19 "PageScribe$Reader" "place" "I" ∈ gw := gw_of (tb_1 (List.mem_of_getElem? (i := 171) (by decide +kernel))) (by decide +kernel)
theorem d_Reader_empty_10 : decode prog_7_method_3_code 10 = .ok (.return_, 1) := by decide +kernel
set_option maxHeartbeats 4000000 in
set_option maxRecDepth 100000 in
theorem c_Reader_empty (l : Launch) (D : va_G) (T : Nat → ClassId) (ad : Nat → Nat) (S : CS)  (sz : Nat)  (hI : CIv S) : Met l ⟨"PageScribe$Reader", "empty", "()V"⟩ (wy ⟨"PageScribe$Reader", "empty", "()V"⟩ prog_7_method_3_code 1 none) ({ frames := 0, cells := 0, slots := 0, locals := 0 }) (va_Pc [.ref (ad 60)] (Pw D T (cW T ad S) sz E0)) (va_Qv (fun (u : CS) => CIv u ∧ kcU S u ∧ kcW S u ∧ ((f_xr_length u).toInt = 0)) (fun u t => Bw D T (va_A (cW T ad S) sz) (cW T ad u) t) (va_A (cW T ad S) sz)) 0 0 (va_A (cW T ad S) sz) := by
  refine j_met (y := ⟨"PageScribe$Reader", "empty", "()V"⟩) (b := prog_7_method_3_code) (n := 1) (ret := none) (av := [.ref (ad 60)]) (Qc := fun A => va_Qv (fun (u : CS) => CIv u ∧ kcU S u ∧ kcW S u ∧ ((f_xr_length u).toInt = 0)) (fun u t => Bw D T A (cW T ad u) t) A) (by decide +kernel) (Nat.le_of_ble_eq_true rfl) (fun p e s m args below meth c A ls F hr hlocks hnm hK hP hD hS hA hN hE hl => ?_)
  obtain ⟨hx, hb, hml, hown, hts⟩ := id F
  have hl : lv_has ls 1 [(0, .ref (ad 60))] := hl
  obtain ⟨i_vst, i_vc0, i_vc1, i_vc2, i_vc3, i_vv0, i_vv1, i_vv2, i_vv3, i_vg, i_wct, i_wln, i_sd0, i_sd1, i_sd2, i_sd3, i_rln, i_rtx, i_rpl, i_rtk, i_cnv, i_pts, i_cik, i_und⟩ := id hI
  refine lv_aload_n hx hb d_Reader_empty_0 rfl (lv_at hl 0 rfl) ?_
  refine lv_iconst (v := 0) hx hb d_Reader_empty_1 (by decide) ?_
  refine va_put (D := D) (ci := 5) (v := .int 0) (ty := .int) (C := "PageScribe$Reader") (T := F_Reader) (N := 10) hx hb hts i_Reader t_Reader t_Reader_ok n_Reader hown hK hP hD hS 60 (ce_60 _ _ _) cl_5 3 (by decide) (hts _ k_1_169) (fun _ h9 => h9) rfl (by decide +kernel) rfl rfl (Nat.le_of_ble_eq_true rfl) d_Reader_empty_2 (fun H locs hP hD hS => ?_)
  rw [cp_xr_length] at hP hD
  have hP : va_P D classes (cW T ad ((S.1, S.2.1, S.2.2.1, S.2.2.2.1, S.2.2.2.2.1, S.2.2.2.2.2.1, ((a_xr_text S), 0, (f_xr_place S), (f_xr_tokenKind S), (f_xr_tokenNumber S), (f_xr_tokenReal S), (a_xr_begins S), (a_xg_k S), (a_xg_n S), (a_xg_r S), (f_xg_z S)), S.2.2.2.2.2.2.2.1, S.2.2.2.2.2.2.2.2) : CS)) H := hP
  have hD : va_D A (cW T ad ((S.1, S.2.1, S.2.2.1, S.2.2.2.1, S.2.2.2.2.1, S.2.2.2.2.2.1, ((a_xr_text S), 0, (f_xr_place S), (f_xr_tokenKind S), (f_xr_tokenNumber S), (f_xr_tokenReal S), (a_xr_begins S), (a_xg_k S), (a_xg_n S), (a_xg_r S), (f_xg_z S)), S.2.2.2.2.2.2.2.1, S.2.2.2.2.2.2.2.2) : CS)) := hD
  refine lv_aload_n hx hb d_Reader_empty_5 rfl (lv_at hl 0 rfl) ?_
  refine lv_iconst (v := 0) hx hb d_Reader_empty_6 (by decide) ?_
  refine va_put (D := D) (ci := 5) (v := .int 0) (ty := .int) (C := "PageScribe$Reader") (T := F_Reader) (N := 10) hx hb hts i_Reader t_Reader t_Reader_ok n_Reader hown hK hP hD hS 60 (ce_60 _ _ _) cl_5 4 (by decide) (hts _ k_1_171) (fun _ h9 => h9) rfl (by decide +kernel) rfl rfl (Nat.le_of_ble_eq_true rfl) d_Reader_empty_7 (fun H locs hP hD hS => ?_)
  rw [cp_xr_place] at hP hD
  have hP : va_P D classes (cW T ad ((S.1, S.2.1, S.2.2.1, S.2.2.2.1, S.2.2.2.2.1, S.2.2.2.2.2.1, ((a_xr_text S), 0, 0, (f_xr_tokenKind S), (f_xr_tokenNumber S), (f_xr_tokenReal S), (a_xr_begins S), (a_xg_k S), (a_xg_n S), (a_xg_r S), (f_xg_z S)), S.2.2.2.2.2.2.2.1, S.2.2.2.2.2.2.2.2) : CS)) H := hP
  have hD : va_D A (cW T ad ((S.1, S.2.1, S.2.2.1, S.2.2.2.1, S.2.2.2.2.1, S.2.2.2.2.2.1, ((a_xr_text S), 0, 0, (f_xr_tokenKind S), (f_xr_tokenNumber S), (f_xr_tokenReal S), (a_xr_begins S), (a_xg_k S), (a_xg_n S), (a_xg_r S), (f_xg_z S)), S.2.2.2.2.2.2.2.1, S.2.2.2.2.2.2.2.2) : CS)) := hD
  exact j_vret F hr hlocks hK hS ((S.1, S.2.1, S.2.2.1, S.2.2.2.1, S.2.2.2.2.1, S.2.2.2.2.2.1, ((a_xr_text S), 0, 0, (f_xr_tokenKind S), (f_xr_tokenNumber S), (f_xr_tokenReal S), (a_xr_begins S), (a_xg_k S), (a_xg_n S), (a_xg_r S), (f_xg_z S)), S.2.2.2.2.2.2.2.1, S.2.2.2.2.2.2.2.2) : CS) ⟨⟨i_vst, i_vc0, i_vc1, i_vc2, i_vc3, i_vv0, i_vv1, i_vv2, i_vv3, i_vg, i_wct, i_wln, i_sd0, i_sd1, i_sd2, i_sd3, (show 0 ≤ (0 : Int32).toInt ∧ (0 : Int32).toInt ≤ 120 by have := tI_0; have := tI_0; omega), i_rtx, (show 0 ≤ (0 : Int32).toInt ∧ (0 : Int32).toInt ≤ 300 by have := tI_0; have := tI_0; omega), i_rtk, i_cnv, i_pts, i_cik, i_und⟩, (kcU_r S), (kcW_r S), (show (0 : Int32).toInt = 0 by (have := tI_0; omega))⟩ hP hD d_Reader_empty_10
theorem d_Reader_charAt_0 : decode prog_7_method_5_code 0 = .ok (.iload_n 1, 1) := by decide +kernel
theorem d_Reader_charAt_1 : decode prog_7_method_5_code 1 = .ok (.ifCond .lt 20, 3) := by decide +kernel
theorem d_Reader_charAt_21 : decode prog_7_method_5_code 21 = .ok (.iconst 0, 1) := by decide +kernel
theorem d_Reader_charAt_22 : decode prog_7_method_5_code 22 = .ok (.ireturn, 1) := by decide +kernel
theorem d_Reader_charAt_4 : decode prog_7_method_5_code 4 = .ok (.iload_n 1, 1) := by decide +kernel
theorem d_Reader_charAt_5 : decode prog_7_method_5_code 5 = .ok (.aload_n 0, 1) := by decide +kernel
theorem d_Reader_charAt_6 : decode prog_7_method_5_code 6 = .ok (.getfield 15, 3) := by decide +kernel
theorem d_Reader_charAt_9 : decode prog_7_method_5_code 9 = .ok (.if_icmp .ge 12, 3) := by decide +kernel
theorem d_Reader_charAt_12 : decode prog_7_method_5_code 12 = .ok (.aload_n 0, 1) := by decide +kernel
theorem d_Reader_charAt_13 : decode prog_7_method_5_code 13 = .ok (.getfield 9, 3) := by decide +kernel
theorem d_Reader_charAt_16 : decode prog_7_method_5_code 16 = .ok (.iload_n 1, 1) := by decide +kernel
theorem d_Reader_charAt_17 : decode prog_7_method_5_code 17 = .ok (.caload, 1) := by decide +kernel
theorem d_Reader_charAt_18 : decode prog_7_method_5_code 18 = .ok (.goto 4, 3) := by decide +kernel
set_option maxHeartbeats 4000000 in
set_option maxRecDepth 100000 in
theorem c_Reader_charAt (l : Launch) (D : va_G) (T : Nat → ClassId) (ad : Nat → Nat) (S : CS) (p0 : Int32) (sz : Nat)  (hI : CIv S) : Met l ⟨"PageScribe$Reader", "charAt", "(I)C"⟩ (wy ⟨"PageScribe$Reader", "charAt", "(I)C"⟩ prog_7_method_5_code 2 (some .char)) ({ frames := 0, cells := 0, slots := 0, locals := 0 }) (va_Pc [.ref (ad 60), .int p0] (Pw D T (cW T ad S) sz E0)) (va_Qi (fun (r : Int32) (u : Unit) => 0 ≤ r.toInt ∧ r.toInt ≤ 127 ∧ (r.toInt = 0 ∨ (0 ≤ p0.toInt ∧ p0.toInt < (f_xr_length S).toInt ∧ r.toInt = ((a_xr_text S) p0.toInt.toNat).toInt))) (fun u t => Bw D T (va_A (cW T ad S) sz) (cW T ad S) t) (va_A (cW T ad S) sz)) 0 0 (va_A (cW T ad S) sz) := by
  refine j_met (y := ⟨"PageScribe$Reader", "charAt", "(I)C"⟩) (b := prog_7_method_5_code) (n := 2) (ret := (some .char)) (av := [.ref (ad 60), .int p0]) (Qc := fun A => va_Qi (fun (r : Int32) (u : Unit) => 0 ≤ r.toInt ∧ r.toInt ≤ 127 ∧ (r.toInt = 0 ∨ (0 ≤ p0.toInt ∧ p0.toInt < (f_xr_length S).toInt ∧ r.toInt = ((a_xr_text S) p0.toInt.toNat).toInt))) (fun u t => Bw D T A (cW T ad S) t) A) (by decide +kernel) (Nat.le_of_ble_eq_true rfl) (fun p e s m args below meth c A ls F hr hlocks hnm hK hP hD hS hA hN hE hl => ?_)
  obtain ⟨hx, hb, hml, hown, hts⟩ := id F
  have hl : lv_has ls 2 [(0, .ref (ad 60)), (1, .int p0)] := hl
  obtain ⟨i_vst, i_vc0, i_vc1, i_vc2, i_vc3, i_vv0, i_vv1, i_vv2, i_vv3, i_vg, i_wct, i_wln, i_sd0, i_sd1, i_sd2, i_sd3, i_rln, i_rtx, i_rpl, i_rtk, i_cnv, i_pts, i_cik, i_und⟩ := id hI
  have rp0 := zt_rng p0
  refine lv_iload_n hx hb d_Reader_charAt_0 rfl (lv_at hl 1 rfl) ?_
  refine lv_if_lt (tgt := 21) hx hb d_Reader_charAt_1 (by decide) (fun c1_1 => ?_) (fun c1_1 => ?_)
  · have fc1_1 : p0.toInt < 0 := zt_lt (show p0.toInt = _ from rfl) tI_0 c1_1
    refine lv_iconst (v := 0) hx hb d_Reader_charAt_21 (by decide) ?_
    exact j_zret F hr (by decide +kernel) hlocks hK hS () (show 0 ≤ (0 : Int32).toInt ∧ (0 : Int32).toInt ≤ 127 ∧ ((0 : Int32).toInt = 0 ∨ (0 ≤ p0.toInt ∧ p0.toInt < (f_xr_length S).toInt ∧ (0 : Int32).toInt = ((a_xr_text S) p0.toInt.toNat).toInt)) by have := tI_0; omega) hP hD d_Reader_charAt_22
  · have fc1_1 : 0 ≤ p0.toInt := Int.not_lt.mp (zt_nlt (show p0.toInt = _ from rfl) tI_0 c1_1)
    refine lv_iload_n hx hb d_Reader_charAt_4 rfl (lv_at hl 1 rfl) ?_
    refine lv_aload_n hx hb d_Reader_charAt_5 rfl (lv_at hl 0 rfl) ?_
    refine va_get (D := D) (ci := 5) (v := .int (f_xr_length S)) (C := "PageScribe$Reader") (T := F_Reader) (N := 10) hx hb hts i_Reader hown hK hP 60 (ce_60 _ _ _) cl_5 3 (by decide) (hts _ k_1_169) (fun _ h9 => h9) rfl d_Reader_charAt_6 ?_
    refine lv_icmp_ge (tgt := 21) hx hb d_Reader_charAt_9 (by decide) (fun c9_1 => ?_) (fun c9_1 => ?_)
    · have fc9_1 : (f_xr_length S).toInt ≤ p0.toInt := zt_le (show (f_xr_length S).toInt = _ from rfl) (show p0.toInt = _ from rfl) c9_1
      refine lv_iconst (v := 0) hx hb d_Reader_charAt_21 (by decide) ?_
      exact j_zret F hr (by decide +kernel) hlocks hK hS () (show 0 ≤ (0 : Int32).toInt ∧ (0 : Int32).toInt ≤ 127 ∧ ((0 : Int32).toInt = 0 ∨ (0 ≤ p0.toInt ∧ p0.toInt < (f_xr_length S).toInt ∧ (0 : Int32).toInt = ((a_xr_text S) p0.toInt.toNat).toInt)) by have := tI_0; omega) hP hD d_Reader_charAt_22
    · have fc9_1 : p0.toInt < (f_xr_length S).toInt := Int.not_le.mp (zt_nle (show (f_xr_length S).toInt = _ from rfl) (show p0.toInt = _ from rfl) c9_1)
      refine lv_aload_n hx hb d_Reader_charAt_12 rfl (lv_at hl 0 rfl) ?_
      refine va_get (D := D) (ci := 5) (v := .ref (ad 61)) (C := "PageScribe$Reader") (T := F_Reader) (N := 10) hx hb hts i_Reader hown hK hP 60 (ce_60 _ _ _) cl_5 2 (by decide) (hts _ k_1_168) (fun _ h9 => h9) rfl d_Reader_charAt_13 ?_
      refine lv_iload_n hx hb d_Reader_charAt_16 rfl (lv_at hl 1 rfl) ?_
      refine va_cald hx hb hK hP 61 2 (ce_61 _ _ _) rfl (zt_in (show p0.toInt = _ from rfl) (by omega) (by omega)) d_Reader_charAt_17 ?_
      refine lv_topi (fun x1 ex1 => ?_)
      have gx1 : x1 = (a_xr_text S) p0.toInt.toNat := ex1.trans (congrArg _ (zt_ix (show p0.toInt = _ from rfl)))
      have fx1 : x1.toInt = ((a_xr_text S) p0.toInt.toNat).toInt := by rw [gx1]
      have rx1 := zt_rng x1
      have kx1 := i_rtx (p0.toInt.toNat) (by omega)
      refine lv_goto (tgt := 22) hx hb d_Reader_charAt_18 (by decide) ?_
      exact j_zret F hr (zt_chB (by omega)) hlocks hK hS () (show 0 ≤ x1.toInt ∧ x1.toInt ≤ 127 ∧ (x1.toInt = 0 ∨ (0 ≤ p0.toInt ∧ p0.toInt < (f_xr_length S).toInt ∧ x1.toInt = ((a_xr_text S) p0.toInt.toNat).toInt)) by omega) hP hD d_Reader_charAt_22
theorem d_Reader_isDigit_0 : decode prog_7_method_14_code 0 = .ok (.iload_n 0, 1) := by decide +kernel
theorem d_Reader_isDigit_1 : decode prog_7_method_14_code 1 = .ok (.bipush 48, 2) := by decide +kernel
theorem d_Reader_isDigit_3 : decode prog_7_method_14_code 3 = .ok (.if_icmp .lt 13, 3) := by decide +kernel
theorem d_Reader_isDigit_16 : decode prog_7_method_14_code 16 = .ok (.iconst 0, 1) := by decide +kernel
theorem d_Reader_isDigit_17 : decode prog_7_method_14_code 17 = .ok (.ireturn, 1) := by decide +kernel
theorem d_Reader_isDigit_6 : decode prog_7_method_14_code 6 = .ok (.iload_n 0, 1) := by decide +kernel
theorem d_Reader_isDigit_7 : decode prog_7_method_14_code 7 = .ok (.bipush 57, 2) := by decide +kernel
theorem d_Reader_isDigit_9 : decode prog_7_method_14_code 9 = .ok (.if_icmp .gt 7, 3) := by decide +kernel
theorem d_Reader_isDigit_12 : decode prog_7_method_14_code 12 = .ok (.iconst 1, 1) := by decide +kernel
theorem d_Reader_isDigit_13 : decode prog_7_method_14_code 13 = .ok (.goto 4, 3) := by decide +kernel
set_option maxHeartbeats 4000000 in
set_option maxRecDepth 100000 in
theorem c_Reader_isDigit (l : Launch) (D : va_G) (T : Nat → ClassId) (p0 : Int32) (sz : Nat)  : Met l ⟨"PageScribe$Reader", "isDigit", "(C)Z"⟩ (wy ⟨"PageScribe$Reader", "isDigit", "(C)Z"⟩ prog_7_method_14_code 1 (some .boolean)) ({ frames := 0, cells := 0, slots := 0, locals := 0 }) (va_Pc [.int p0] (Pw D T [] sz E0)) (va_Qi (fun (r : Int32) (u : Unit) => r.toInt = 0 ∨ r.toInt = 1) (fun u t => Bw D T (va_A [] sz) [] t) (va_A [] sz)) 0 0 (va_A [] sz) := by
  refine j_met (y := ⟨"PageScribe$Reader", "isDigit", "(C)Z"⟩) (b := prog_7_method_14_code) (n := 1) (ret := (some .boolean)) (av := [.int p0]) (Qc := fun A => va_Qi (fun (r : Int32) (u : Unit) => r.toInt = 0 ∨ r.toInt = 1) (fun u t => Bw D T A [] t) A) (by decide +kernel) (Nat.le_of_ble_eq_true rfl) (fun p e s m args below meth c A ls F hr hlocks hnm hK hP hD hS hA hN hE hl => ?_)
  obtain ⟨hx, hb, hml, hown, hts⟩ := id F
  have hl : lv_has ls 1 [(0, .int p0)] := hl
  have rp0 := zt_rng p0
  refine lv_iload_n hx hb d_Reader_isDigit_0 rfl (lv_at hl 0 rfl) ?_
  refine lv_bipush (v := 48) hx hb d_Reader_isDigit_1 (by decide) ?_
  refine lv_icmp_lt (tgt := 16) hx hb d_Reader_isDigit_3 (by decide) (fun c3_1 => ?_) (fun c3_1 => ?_)
  · have fc3_1 : p0.toInt < 48 := zt_lt (show p0.toInt = _ from rfl) tI_48 c3_1
    refine lv_iconst (v := 0) hx hb d_Reader_isDigit_16 (by decide) ?_
    exact j_zret F hr (by decide +kernel) hlocks hK hS () (show (0 : Int32).toInt = 0 ∨ (0 : Int32).toInt = 1 by have := tI_0; omega) hP hD d_Reader_isDigit_17
  · have fc3_1 : 48 ≤ p0.toInt := Int.not_lt.mp (zt_nlt (show p0.toInt = _ from rfl) tI_48 c3_1)
    refine lv_iload_n hx hb d_Reader_isDigit_6 rfl (lv_at hl 0 rfl) ?_
    refine lv_bipush (v := 57) hx hb d_Reader_isDigit_7 (by decide) ?_
    refine lv_icmp_gt (tgt := 16) hx hb d_Reader_isDigit_9 (by decide) (fun c9_1 => ?_) (fun c9_1 => ?_)
    · have fc9_1 : 57 < p0.toInt := zt_lt tI_57 (show p0.toInt = _ from rfl) c9_1
      refine lv_iconst (v := 0) hx hb d_Reader_isDigit_16 (by decide) ?_
      exact j_zret F hr (by decide +kernel) hlocks hK hS () (show (0 : Int32).toInt = 0 ∨ (0 : Int32).toInt = 1 by have := tI_0; omega) hP hD d_Reader_isDigit_17
    · have fc9_1 : p0.toInt ≤ 57 := Int.not_lt.mp (zt_nlt tI_57 (show p0.toInt = _ from rfl) c9_1)
      refine lv_iconst (v := 1) hx hb d_Reader_isDigit_12 (by decide) ?_
      refine lv_goto (tgt := 17) hx hb d_Reader_isDigit_13 (by decide) ?_
      exact j_zret F hr (by decide +kernel) hlocks hK hS () (show (1 : Int32).toInt = 0 ∨ (1 : Int32).toInt = 1 by have := tI_1; omega) hP hD d_Reader_isDigit_17
theorem d_Reader_findToken_0 : decode prog_7_method_4_code 0 = .ok (.aload_n 0, 1) := by decide +kernel
theorem d_Reader_findToken_1 : decode prog_7_method_4_code 1 = .ok (.getfield 19, 3) := by decide +kernel
theorem d_Reader_findToken_4 : decode prog_7_method_4_code 4 = .ok (.aload_n 0, 1) := by decide +kernel
theorem d_Reader_findToken_5 : decode prog_7_method_4_code 5 = .ok (.getfield 15, 3) := by decide +kernel
theorem d_Reader_findToken_8 : decode prog_7_method_4_code 8 = .ok (.if_icmp .ge 30, 3) := by decide +kernel
theorem d_Reader_findToken_54 : decode prog_7_method_4_code 54 = .ok (.ireturn, 1) := by decide +kernel
theorem d_Reader_findToken_38 : decode prog_7_method_4_code 38 = .ok (.aload_n 0, 1) := by decide +kernel
theorem d_Reader_findToken_39 : decode prog_7_method_4_code 39 = .ok (.getfield 19, 3) := by decide +kernel
theorem d_Reader_findToken_42 : decode prog_7_method_4_code 42 = .ok (.aload_n 0, 1) := by decide +kernel
theorem d_Reader_findToken_43 : decode prog_7_method_4_code 43 = .ok (.getfield 15, 3) := by decide +kernel
theorem d_Reader_findToken_46 : decode prog_7_method_4_code 46 = .ok (.if_icmp .ge 7, 3) := by decide +kernel
theorem d_Reader_findToken_53 : decode prog_7_method_4_code 53 = .ok (.iconst 0, 1) := by decide +kernel
theorem d_Reader_findToken_49 : decode prog_7_method_4_code 49 = .ok (.iconst 1, 1) := by decide +kernel
theorem d_Reader_findToken_50 : decode prog_7_method_4_code 50 = .ok (.goto 4, 3) := by decide +kernel
theorem d_Reader_findToken_11 : decode prog_7_method_4_code 11 = .ok (.aload_n 0, 1) := by decide +kernel
theorem d_Reader_findToken_12 : decode prog_7_method_4_code 12 = .ok (.getfield 9, 3) := by decide +kernel
theorem d_Reader_findToken_15 : decode prog_7_method_4_code 15 = .ok (.aload_n 0, 1) := by decide +kernel
theorem d_Reader_findToken_16 : decode prog_7_method_4_code 16 = .ok (.getfield 19, 3) := by decide +kernel
theorem d_Reader_findToken_19 : decode prog_7_method_4_code 19 = .ok (.caload, 1) := by decide +kernel
theorem d_Reader_findToken_20 : decode prog_7_method_4_code 20 = .ok (.bipush 32, 2) := by decide +kernel
theorem d_Reader_findToken_22 : decode prog_7_method_4_code 22 = .ok (.if_icmp .ne 16, 3) := by decide +kernel
theorem d_Reader_findToken_25 : decode prog_7_method_4_code 25 = .ok (.aload_n 0, 1) := by decide +kernel
theorem d_Reader_findToken_26 : decode prog_7_method_4_code 26 = .ok (.dup, 1) := by decide +kernel
theorem d_Reader_findToken_27 : decode prog_7_method_4_code 27 = .ok (.getfield 19, 3) := by decide +kernel
theorem d_Reader_findToken_30 : decode prog_7_method_4_code 30 = .ok (.iconst 1, 1) := by decide +kernel
theorem d_Reader_findToken_31 : decode prog_7_method_4_code 31 = .ok (.iadd, 1) := by decide +kernel
theorem d_Reader_findToken_32 : decode prog_7_method_4_code 32 = .ok (.putfield 19, 3) := by decide +kernel
theorem d_Reader_findToken_35 : decode prog_7_method_4_code 35 = .ok (.goto (-35), 3) := by decide +kernel
set_option maxHeartbeats 4000000 in
set_option maxRecDepth 100000 in
theorem c_Reader_findToken (l : Launch) (D : va_G) (T : Nat → ClassId) (ad : Nat → Nat) (S : CS)  (sz : Nat)  (hI : CIv S) : Met l ⟨"PageScribe$Reader", "findToken", "()Z"⟩ (wy ⟨"PageScribe$Reader", "findToken", "()Z"⟩ prog_7_method_4_code 1 (some .boolean)) ({ frames := 0, cells := 0, slots := 0, locals := 0 }) (va_Pc [.ref (ad 60)] (Pw D T (cW T ad S) sz E0)) (va_Qi (fun (r : Int32) (u : CS) => CIv u ∧ kcL S u ∧ kcU S u ∧ kcW S u ∧ ((((r.toInt = 1 ∧ (f_xr_place u).toInt < (f_xr_length u).toInt) ∨ r.toInt = 0) ∧ (((f_xr_place S).toInt < (f_xr_length S).toInt ∧ ¬ ((a_xr_text S) (f_xr_place S).toInt.toNat).toInt = 32) → (f_xr_place u).toInt = (f_xr_place S).toInt ∧ r.toInt = 1)) ∧ (a_xr_text u) = (a_xr_text S))) (fun u t => Bw D T (va_A (cW T ad S) sz) (cW T ad u) t) (va_A (cW T ad S) sz)) 0 0 (va_A (cW T ad S) sz) := by
  refine j_met (y := ⟨"PageScribe$Reader", "findToken", "()Z"⟩) (b := prog_7_method_4_code) (n := 1) (ret := (some .boolean)) (av := [.ref (ad 60)]) (Qc := fun A => va_Qi (fun (r : Int32) (u : CS) => CIv u ∧ kcL S u ∧ kcU S u ∧ kcW S u ∧ ((((r.toInt = 1 ∧ (f_xr_place u).toInt < (f_xr_length u).toInt) ∨ r.toInt = 0) ∧ (((f_xr_place S).toInt < (f_xr_length S).toInt ∧ ¬ ((a_xr_text S) (f_xr_place S).toInt.toNat).toInt = 32) → (f_xr_place u).toInt = (f_xr_place S).toInt ∧ r.toInt = 1)) ∧ (a_xr_text u) = (a_xr_text S))) (fun u t => Bw D T A (cW T ad u) t) A) (by decide +kernel) (Nat.le_of_ble_eq_true rfl) (fun p e s m args below meth c A ls F hr hlocks hnm hK hP hD hS hA hN hE hl => ?_)
  obtain ⟨hx, hb, hml, hown, hts⟩ := id F
  have hl : lv_has ls 1 [(0, .ref (ad 60))] := hl
  obtain ⟨i_vst, i_vc0, i_vc1, i_vc2, i_vc3, i_vv0, i_vv1, i_vv2, i_vv3, i_vg, i_wct, i_wln, i_sd0, i_sd1, i_sd2, i_sd3, i_rln, i_rtx, i_rpl, i_rtk, i_cnv, i_pts, i_cik, i_und⟩ := id hI
  refine j_loop (α := CS) (fun k x H locs ls => (0 ≤ (f_xr_place x).toInt ∧ (f_xr_place x).toInt ≤ 300 ∧ 120 ≤ (f_xr_place x).toInt + ((k : Nat) : Int) ∧ (f_xr_length x).toInt = (f_xr_length S).toInt ∧ ((f_xr_place x).toInt = (f_xr_place S).toInt ∨ (f_xr_length S).toInt ≤ (f_xr_place S).toInt ∨ (a_xr_text S (f_xr_place S).toInt.toNat).toInt = 32) ∧ (a_xr_text x) = a_xr_text S) ∧ CIv x ∧ kcL S x ∧ kcU S x ∧ kcW S x ∧ va_P D classes (cW T ad x) H ∧ va_D A (cW T ad x) ∧ va_S A s.heap H locs ∧ lv_has ls 1 [(0, .ref (ad 60))]) (fun _ _ ls => F0 m 0 ls []) (fun k x H locs ls hI9 ih => ?_) 120 S _ _ _ ⟨(show 0 ≤ (f_xr_place S).toInt ∧ (f_xr_place S).toInt ≤ 300 ∧ 120 ≤ (f_xr_place S).toInt + ((120 : Nat) : Int) ∧ (f_xr_length S).toInt = (f_xr_length S).toInt ∧ ((f_xr_place S).toInt = (f_xr_place S).toInt ∨ (f_xr_length S).toInt ≤ (f_xr_place S).toInt ∨ (a_xr_text S (f_xr_place S).toInt.toNat).toInt = 32) ∧ (a_xr_text S) = a_xr_text S by exact ⟨by omega, by omega, by omega, by omega, by omega, by first | exact hte | rfl⟩), ⟨i_vst, i_vc0, i_vc1, i_vc2, i_vc3, i_vv0, i_vv1, i_vv2, i_vv3, i_vg, i_wct, i_wln, i_sd0, i_sd1, i_sd2, i_sd3, i_rln, i_rtx, i_rpl, i_rtk, i_cnv, i_pts, i_cik, i_und⟩, (show kcL S S from (kcL_r S)), (show kcU S S from (kcU_r S)), (show kcW S S from (kcW_r S)), hP, hD, hS, lv_sub hl [0] rfl⟩
  obtain ⟨S1, rfl⟩ : ∃ z, z = x := ⟨_, rfl⟩
  obtain ⟨hf1, hIx, klcL_S1, klcU_S1, klcW_S1, hP, hD, hS, hl⟩ := hI9
  obtain ⟨i_vst, i_vc0, i_vc1, i_vc2, i_vc3, i_vv0, i_vv1, i_vv2, i_vv3, i_vg, i_wct, i_wln, i_sd0, i_sd1, i_sd2, i_sd3, i_rln, i_rtx, i_rpl, i_rtk, i_cnv, i_pts, i_cik, i_und⟩ := (show CIv S1 from hIx)
  have klcL_S1 : kcL S S1 := klcL_S1
  have klcU_S1 : kcU S S1 := klcU_S1
  have klcW_S1 : kcW S S1 := klcW_S1
  have hf1 : 0 ≤ (f_xr_place S1).toInt ∧ (f_xr_place S1).toInt ≤ 300 ∧ 120 ≤ (f_xr_place S1).toInt + ((k : Nat) : Int) ∧ (f_xr_length S1).toInt = (f_xr_length S).toInt ∧ ((f_xr_place S1).toInt = (f_xr_place S).toInt ∨ (f_xr_length S).toInt ≤ (f_xr_place S).toInt ∨ (a_xr_text S (f_xr_place S).toInt.toNat).toInt = 32) ∧ (a_xr_text S1) = a_xr_text S := hf1
  have hP : va_P D classes (cW T ad S1) H := hP
  have hD : va_D A (cW T ad S1) := hD
  have hl : lv_has ls 1 [(0, .ref (ad 60))] := hl
  have hte : a_xr_text S1 = a_xr_text S := hf1.2.2.2.2.2
  refine lv_aload_n hx hb d_Reader_findToken_0 rfl (lv_at hl 0 rfl) ?_
  refine va_get (D := D) (ci := 5) (v := .int (f_xr_place S1)) (C := "PageScribe$Reader") (T := F_Reader) (N := 10) hx hb hts i_Reader hown hK hP 60 (ce_60 _ _ _) cl_5 4 (by decide) (hts _ k_1_171) (fun _ h9 => h9) rfl d_Reader_findToken_1 ?_
  refine lv_aload_n hx hb d_Reader_findToken_4 rfl (lv_at hl 0 rfl) ?_
  refine va_get (D := D) (ci := 5) (v := .int (f_xr_length S1)) (C := "PageScribe$Reader") (T := F_Reader) (N := 10) hx hb hts i_Reader hown hK hP 60 (ce_60 _ _ _) cl_5 3 (by decide) (hts _ k_1_169) (fun _ h9 => h9) rfl d_Reader_findToken_5 ?_
  refine lv_icmp_ge (tgt := 38) hx hb d_Reader_findToken_8 (by decide) (fun c8_1 => ?_) (fun c8_1 => ?_)
  · have fc8_1 : (f_xr_length S1).toInt ≤ (f_xr_place S1).toInt := zt_le (show (f_xr_length S1).toInt = _ from rfl) (show (f_xr_place S1).toInt = _ from rfl) c8_1
    refine j_joinH (α := Int32) (fun x H locs ls => ((x.toInt = 1 ∧ (f_xr_place S1).toInt < (f_xr_length S1).toInt) ∨ (x.toInt = 0 ∧ (f_xr_length S1).toInt ≤ (f_xr_place S1).toInt)) ∧ va_P D classes (cW T ad S1) H ∧ va_D A (cW T ad S1) ∧ va_S A s.heap H locs ∧ lv_has ls 1 [(0, .ref (ad 60))]) (fun x ls => F0 m 54 ls (.int x :: [])) (fun x H locs ls hI9 => ?_) (fun key1 => ?_)
    · obtain ⟨j1, rfl⟩ : ∃ z, z = x := ⟨_, rfl⟩
      obtain ⟨hj1, hP, hD, hS, hl⟩ := hI9
      have hj1 : (j1.toInt = 1 ∧ (f_xr_place S1).toInt < (f_xr_length S1).toInt) ∨ (j1.toInt = 0 ∧ (f_xr_length S1).toInt ≤ (f_xr_place S1).toInt) := hj1
      have hP : va_P D classes (cW T ad S1) H := hP
      have hD : va_D A (cW T ad S1) := hD
      have hl : lv_has ls 1 [(0, .ref (ad 60))] := hl
      exact j_zret F hr (zt_bo (by omega)) hlocks hK hS S1 ⟨⟨i_vst, i_vc0, i_vc1, i_vc2, i_vc3, i_vv0, i_vv1, i_vv2, i_vv3, i_vg, i_wct, i_wln, i_sd0, i_sd1, i_sd2, i_sd3, i_rln, i_rtx, i_rpl, i_rtk, i_cnv, i_pts, i_cik, i_und⟩, klcL_S1, klcU_S1, klcW_S1, (show (((j1.toInt = 1 ∧ (f_xr_place S1).toInt < (f_xr_length S1).toInt) ∨ j1.toInt = 0) ∧ (((f_xr_place S).toInt < (f_xr_length S).toInt ∧ ¬ ((a_xr_text S) (f_xr_place S).toInt.toNat).toInt = 32) → (f_xr_place S1).toInt = (f_xr_place S).toInt ∧ j1.toInt = 1)) ∧ (a_xr_text S1) = (a_xr_text S) by exact ⟨⟨by omega, fun q => by omega⟩, hte⟩)⟩ hP hD d_Reader_findToken_54
    · refine lv_aload_n hx hb d_Reader_findToken_38 rfl (lv_at hl 0 rfl) ?_
      refine va_get (D := D) (ci := 5) (v := .int (f_xr_place S1)) (C := "PageScribe$Reader") (T := F_Reader) (N := 10) hx hb hts i_Reader hown hK hP 60 (ce_60 _ _ _) cl_5 4 (by decide) (hts _ k_1_171) (fun _ h9 => h9) rfl d_Reader_findToken_39 ?_
      refine lv_aload_n hx hb d_Reader_findToken_42 rfl (lv_at hl 0 rfl) ?_
      refine va_get (D := D) (ci := 5) (v := .int (f_xr_length S1)) (C := "PageScribe$Reader") (T := F_Reader) (N := 10) hx hb hts i_Reader hown hK hP 60 (ce_60 _ _ _) cl_5 3 (by decide) (hts _ k_1_169) (fun _ h9 => h9) rfl d_Reader_findToken_43 ?_
      refine lv_icmp_ge (tgt := 53) hx hb d_Reader_findToken_46 (by decide) (fun c46_1 => ?_) (fun c46_1 => ?_)
      · have fc46_1 : (f_xr_length S1).toInt ≤ (f_xr_place S1).toInt := zt_le (show (f_xr_length S1).toInt = _ from rfl) (show (f_xr_place S1).toInt = _ from rfl) c46_1
        refine lv_iconst (v := 0) hx hb d_Reader_findToken_53 (by decide) ?_
        exact key1 (0 : Int32) _ _ _ ⟨(show ((0 : Int32).toInt = 1 ∧ (f_xr_place S1).toInt < (f_xr_length S1).toInt) ∨ ((0 : Int32).toInt = 0 ∧ (f_xr_length S1).toInt ≤ (f_xr_place S1).toInt) by have := tI_0; omega), hP, hD, hS, lv_sub hl [0] rfl⟩
      · have fc46_1 : (f_xr_place S1).toInt < (f_xr_length S1).toInt := Int.not_le.mp (zt_nle (show (f_xr_length S1).toInt = _ from rfl) (show (f_xr_place S1).toInt = _ from rfl) c46_1)
        refine lv_iconst (v := 1) hx hb d_Reader_findToken_49 (by decide) ?_
        refine lv_goto (tgt := 54) hx hb d_Reader_findToken_50 (by decide) ?_
        exact key1 (1 : Int32) _ _ _ ⟨(show ((1 : Int32).toInt = 1 ∧ (f_xr_place S1).toInt < (f_xr_length S1).toInt) ∨ ((1 : Int32).toInt = 0 ∧ (f_xr_length S1).toInt ≤ (f_xr_place S1).toInt) by have := tI_1; omega), hP, hD, hS, lv_sub hl [0] rfl⟩
  · have fc8_1 : (f_xr_place S1).toInt < (f_xr_length S1).toInt := Int.not_le.mp (zt_nle (show (f_xr_length S1).toInt = _ from rfl) (show (f_xr_place S1).toInt = _ from rfl) c8_1)
    refine lv_aload_n hx hb d_Reader_findToken_11 rfl (lv_at hl 0 rfl) ?_
    refine va_get (D := D) (ci := 5) (v := .ref (ad 61)) (C := "PageScribe$Reader") (T := F_Reader) (N := 10) hx hb hts i_Reader hown hK hP 60 (ce_60 _ _ _) cl_5 2 (by decide) (hts _ k_1_168) (fun _ h9 => h9) rfl d_Reader_findToken_12 ?_
    refine lv_aload_n hx hb d_Reader_findToken_15 rfl (lv_at hl 0 rfl) ?_
    refine va_get (D := D) (ci := 5) (v := .int (f_xr_place S1)) (C := "PageScribe$Reader") (T := F_Reader) (N := 10) hx hb hts i_Reader hown hK hP 60 (ce_60 _ _ _) cl_5 4 (by decide) (hts _ k_1_171) (fun _ h9 => h9) rfl d_Reader_findToken_16 ?_
    refine va_cald hx hb hK hP 61 2 (ce_61 _ _ _) rfl (zt_in (show (f_xr_place S1).toInt = _ from rfl) (by omega) (by omega)) d_Reader_findToken_19 ?_
    refine lv_topi (fun x1 ex1 => ?_)
    have gx1 : x1 = (a_xr_text S1) (f_xr_place S1).toInt.toNat := ex1.trans (congrArg _ (zt_ix (show (f_xr_place S1).toInt = _ from rfl)))
    have fx1 : x1.toInt = ((a_xr_text S1) (f_xr_place S1).toInt.toNat).toInt := by rw [gx1]
    have rx1 := zt_rng x1
    have hdt : (f_xr_place S1).toInt = (f_xr_place S).toInt → x1.toInt = (a_xr_text S (f_xr_place S).toInt.toNat).toInt := fun q => by rw [fx1, hte, q]
    refine lv_bipush (v := 32) hx hb d_Reader_findToken_20 (by decide) ?_
    refine lv_icmp_ne (tgt := 38) hx hb d_Reader_findToken_22 (by decide) (fun c22_1 => ?_) (fun c22_1 => ?_)
    · have fc22_1 : ¬ x1.toInt = 32 := zt_ne (show x1.toInt = _ from rfl) tI_32 c22_1
      refine j_joinH (α := Int32) (fun x H locs ls => ((x.toInt = 1 ∧ (f_xr_place S1).toInt < (f_xr_length S1).toInt) ∨ (x.toInt = 0 ∧ (f_xr_length S1).toInt ≤ (f_xr_place S1).toInt)) ∧ va_P D classes (cW T ad S1) H ∧ va_D A (cW T ad S1) ∧ va_S A s.heap H locs ∧ lv_has ls 1 [(0, .ref (ad 60))]) (fun x ls => F0 m 54 ls (.int x :: [])) (fun x H locs ls hI9 => ?_) (fun key2 => ?_)
      · obtain ⟨j2, rfl⟩ : ∃ z, z = x := ⟨_, rfl⟩
        obtain ⟨hj2, hP, hD, hS, hl⟩ := hI9
        have hj2 : (j2.toInt = 1 ∧ (f_xr_place S1).toInt < (f_xr_length S1).toInt) ∨ (j2.toInt = 0 ∧ (f_xr_length S1).toInt ≤ (f_xr_place S1).toInt) := hj2
        have hP : va_P D classes (cW T ad S1) H := hP
        have hD : va_D A (cW T ad S1) := hD
        have hl : lv_has ls 1 [(0, .ref (ad 60))] := hl
        exact j_zret F hr (zt_bo (by omega)) hlocks hK hS S1 ⟨⟨i_vst, i_vc0, i_vc1, i_vc2, i_vc3, i_vv0, i_vv1, i_vv2, i_vv3, i_vg, i_wct, i_wln, i_sd0, i_sd1, i_sd2, i_sd3, i_rln, i_rtx, i_rpl, i_rtk, i_cnv, i_pts, i_cik, i_und⟩, klcL_S1, klcU_S1, klcW_S1, (show (((j2.toInt = 1 ∧ (f_xr_place S1).toInt < (f_xr_length S1).toInt) ∨ j2.toInt = 0) ∧ (((f_xr_place S).toInt < (f_xr_length S).toInt ∧ ¬ ((a_xr_text S) (f_xr_place S).toInt.toNat).toInt = 32) → (f_xr_place S1).toInt = (f_xr_place S).toInt ∧ j2.toInt = 1)) ∧ (a_xr_text S1) = (a_xr_text S) by exact ⟨⟨by omega, fun q => by omega⟩, hte⟩)⟩ hP hD d_Reader_findToken_54
      · refine lv_aload_n hx hb d_Reader_findToken_38 rfl (lv_at hl 0 rfl) ?_
        refine va_get (D := D) (ci := 5) (v := .int (f_xr_place S1)) (C := "PageScribe$Reader") (T := F_Reader) (N := 10) hx hb hts i_Reader hown hK hP 60 (ce_60 _ _ _) cl_5 4 (by decide) (hts _ k_1_171) (fun _ h9 => h9) rfl d_Reader_findToken_39 ?_
        refine lv_aload_n hx hb d_Reader_findToken_42 rfl (lv_at hl 0 rfl) ?_
        refine va_get (D := D) (ci := 5) (v := .int (f_xr_length S1)) (C := "PageScribe$Reader") (T := F_Reader) (N := 10) hx hb hts i_Reader hown hK hP 60 (ce_60 _ _ _) cl_5 3 (by decide) (hts _ k_1_169) (fun _ h9 => h9) rfl d_Reader_findToken_43 ?_
        refine lv_icmp_ge (tgt := 53) hx hb d_Reader_findToken_46 (by decide) (fun c46_2 => ?_) (fun c46_2 => ?_)
        · have fc46_2 : (f_xr_length S1).toInt ≤ (f_xr_place S1).toInt := zt_le (show (f_xr_length S1).toInt = _ from rfl) (show (f_xr_place S1).toInt = _ from rfl) c46_2
          refine lv_iconst (v := 0) hx hb d_Reader_findToken_53 (by decide) ?_
          exact key2 (0 : Int32) _ _ _ ⟨(show ((0 : Int32).toInt = 1 ∧ (f_xr_place S1).toInt < (f_xr_length S1).toInt) ∨ ((0 : Int32).toInt = 0 ∧ (f_xr_length S1).toInt ≤ (f_xr_place S1).toInt) by have := tI_0; omega), hP, hD, hS, lv_sub hl [0] rfl⟩
        · have fc46_2 : (f_xr_place S1).toInt < (f_xr_length S1).toInt := Int.not_le.mp (zt_nle (show (f_xr_length S1).toInt = _ from rfl) (show (f_xr_place S1).toInt = _ from rfl) c46_2)
          refine lv_iconst (v := 1) hx hb d_Reader_findToken_49 (by decide) ?_
          refine lv_goto (tgt := 54) hx hb d_Reader_findToken_50 (by decide) ?_
          exact key2 (1 : Int32) _ _ _ ⟨(show ((1 : Int32).toInt = 1 ∧ (f_xr_place S1).toInt < (f_xr_length S1).toInt) ∨ ((1 : Int32).toInt = 0 ∧ (f_xr_length S1).toInt ≤ (f_xr_place S1).toInt) by have := tI_1; omega), hP, hD, hS, lv_sub hl [0] rfl⟩
    · have fc22_1 : x1.toInt = 32 := zt_eq (show x1.toInt = _ from rfl) tI_32 c22_1
      refine lv_aload_n hx hb d_Reader_findToken_25 rfl (lv_at hl 0 rfl) ?_
      refine lv_dup hx hb d_Reader_findToken_26 rfl ?_
      refine va_get (D := D) (ci := 5) (v := .int (f_xr_place S1)) (C := "PageScribe$Reader") (T := F_Reader) (N := 10) hx hb hts i_Reader hown hK hP 60 (ce_60 _ _ _) cl_5 4 (by decide) (hts _ k_1_171) (fun _ h9 => h9) rfl d_Reader_findToken_27 ?_
      refine lv_iconst (v := 1) hx hb d_Reader_findToken_30 (by decide) ?_
      refine lv_iadd hx hb d_Reader_findToken_31 ?_
      refine lv_topi (fun x2 ex2 => ?_)
      have fx2 : x2.toInt = ((f_xr_place S1).toInt + 1) := by rw [ex2]; exact (zt_add (show (f_xr_place S1).toInt = _ from rfl) tI_1 (by omega) (by omega)).trans (by omega)
      refine va_put (D := D) (ci := 5) (v := .int x2) (ty := .int) (C := "PageScribe$Reader") (T := F_Reader) (N := 10) hx hb hts i_Reader t_Reader t_Reader_ok n_Reader hown hK hP hD hS 60 (ce_60 _ _ _) cl_5 4 (by decide) (hts _ k_1_171) (fun _ h9 => h9) rfl (by decide +kernel) rfl rfl (Nat.le_of_ble_eq_true rfl) d_Reader_findToken_32 (fun H locs hP hD hS => ?_)
      rw [cp_xr_place] at hP hD
      have hP : va_P D classes (cW T ad ((S1.1, S1.2.1, S1.2.2.1, S1.2.2.2.1, S1.2.2.2.2.1, S1.2.2.2.2.2.1, ((a_xr_text S1), (f_xr_length S1), x2, (f_xr_tokenKind S1), (f_xr_tokenNumber S1), (f_xr_tokenReal S1), (a_xr_begins S1), (a_xg_k S1), (a_xg_n S1), (a_xg_r S1), (f_xg_z S1)), S1.2.2.2.2.2.2.2.1, S1.2.2.2.2.2.2.2.2) : CS)) H := hP
      have hD : va_D A (cW T ad ((S1.1, S1.2.1, S1.2.2.1, S1.2.2.2.1, S1.2.2.2.2.1, S1.2.2.2.2.2.1, ((a_xr_text S1), (f_xr_length S1), x2, (f_xr_tokenKind S1), (f_xr_tokenNumber S1), (f_xr_tokenReal S1), (a_xr_begins S1), (a_xg_k S1), (a_xg_n S1), (a_xg_r S1), (f_xg_z S1)), S1.2.2.2.2.2.2.2.1, S1.2.2.2.2.2.2.2.2) : CS)) := hD
      refine lv_goto (tgt := 0) hx hb d_Reader_findToken_35 (by decide) ?_
      exact ih (k - 1) ((S1.1, S1.2.1, S1.2.2.1, S1.2.2.2.1, S1.2.2.2.2.1, S1.2.2.2.2.2.1, ((a_xr_text S1), (f_xr_length S1), x2, (f_xr_tokenKind S1), (f_xr_tokenNumber S1), (f_xr_tokenReal S1), (a_xr_begins S1), (a_xg_k S1), (a_xg_n S1), (a_xg_r S1), (f_xg_z S1)), S1.2.2.2.2.2.2.2.1, S1.2.2.2.2.2.2.2.2) : CS) _ _ _ (by omega) ⟨(show 0 ≤ x2.toInt ∧ x2.toInt ≤ 300 ∧ 120 ≤ x2.toInt + (((k - 1) : Nat) : Int) ∧ (f_xr_length S1).toInt = (f_xr_length S).toInt ∧ (x2.toInt = (f_xr_place S).toInt ∨ (f_xr_length S).toInt ≤ (f_xr_place S).toInt ∨ (a_xr_text S (f_xr_place S).toInt.toNat).toInt = 32) ∧ (a_xr_text S1) = a_xr_text S by exact ⟨by omega, by omega, by omega, by omega, by omega, by first | exact hte | rfl⟩), ⟨i_vst, i_vc0, i_vc1, i_vc2, i_vc3, i_vv0, i_vv1, i_vv2, i_vv3, i_vg, i_wct, i_wln, i_sd0, i_sd1, i_sd2, i_sd3, i_rln, i_rtx, (show 0 ≤ x2.toInt ∧ x2.toInt ≤ 300 by omega), i_rtk, i_cnv, i_pts, i_cik, i_und⟩, (show kcL S ((S1.1, S1.2.1, S1.2.2.1, S1.2.2.2.1, S1.2.2.2.2.1, S1.2.2.2.2.2.1, ((a_xr_text S1), (f_xr_length S1), x2, (f_xr_tokenKind S1), (f_xr_tokenNumber S1), (f_xr_tokenReal S1), (a_xr_begins S1), (a_xg_k S1), (a_xg_n S1), (a_xg_r S1), (f_xg_z S1)), S1.2.2.2.2.2.2.2.1, S1.2.2.2.2.2.2.2.2) : CS) from klcL_S1), (show kcU S ((S1.1, S1.2.1, S1.2.2.1, S1.2.2.2.1, S1.2.2.2.2.1, S1.2.2.2.2.2.1, ((a_xr_text S1), (f_xr_length S1), x2, (f_xr_tokenKind S1), (f_xr_tokenNumber S1), (f_xr_tokenReal S1), (a_xr_begins S1), (a_xg_k S1), (a_xg_n S1), (a_xg_r S1), (f_xg_z S1)), S1.2.2.2.2.2.2.2.1, S1.2.2.2.2.2.2.2.2) : CS) from klcU_S1), (show kcW S ((S1.1, S1.2.1, S1.2.2.1, S1.2.2.2.1, S1.2.2.2.2.1, S1.2.2.2.2.2.1, ((a_xr_text S1), (f_xr_length S1), x2, (f_xr_tokenKind S1), (f_xr_tokenNumber S1), (f_xr_tokenReal S1), (a_xr_begins S1), (a_xg_k S1), (a_xg_n S1), (a_xg_r S1), (f_xg_z S1)), S1.2.2.2.2.2.2.2.1, S1.2.2.2.2.2.2.2.2) : CS) from klcW_S1), hP, hD, hS, lv_sub hl [0] rfl⟩
theorem d_Reader_giveToken_0 : decode prog_7_method_9_code 0 = .ok (.aload_n 0, 1) := by decide +kernel
theorem d_Reader_giveToken_1 : decode prog_7_method_9_code 1 = .ok (.iload_n 1, 1) := by decide +kernel
theorem d_Reader_giveToken_2 : decode prog_7_method_9_code 2 = .ok (.putfield 22, 3) := by decide +kernel
theorem k_1_172 : Cond.fieldLink "PageScribe$Reader" 22 "PageScribe$Reader" "tokenKind" "I" ∈ gw := gw_of (tb_1 (List.mem_of_getElem? (i := 172) (by decide +kernel))) (by decide +kernel)
theorem d_Reader_giveToken_5 : decode prog_7_method_9_code 5 = .ok (.aload_n 0, 1) := by decide +kernel
theorem d_Reader_giveToken_6 : decode prog_7_method_9_code 6 = .ok (.iload_n 2, 1) := by decide +kernel
theorem d_Reader_giveToken_7 : decode prog_7_method_9_code 7 = .ok (.putfield 25, 3) := by decide +kernel
theorem k_1_174 : Cond.fieldLink "PageScribe$Reader" 25 "PageScribe$Reader" "tokenNumber" "I" ∈ gw := gw_of (tb_1 (List.mem_of_getElem? (i := 174) (by decide +kernel))) (by decide +kernel)
theorem d_Reader_giveToken_10 : decode prog_7_method_9_code 10 = .ok (.aload_n 0, 1) := by decide +kernel
theorem d_Reader_giveToken_11 : decode prog_7_method_9_code 11 = .ok (.dload_n 3, 1) := by decide +kernel
theorem d_Reader_giveToken_12 : decode prog_7_method_9_code 12 = .ok (.putfield 28, 3) := by decide +kernel
theorem k_1_176 : Cond.fieldLink "PageScribe$Reader" 28 "PageScribe$Reader" "tokenReal" "D" ∈ gw := gw_of (tb_1 (List.mem_of_getElem? (i := 176) (by decide +kernel))) (by decide +kernel)
theorem d_Reader_giveToken_15 : decode prog_7_method_9_code 15 = .ok (.return_, 1) := by decide +kernel
set_option maxHeartbeats 4000000 in
set_option maxRecDepth 100000 in
theorem c_Reader_giveToken (l : Launch) (D : va_G) (T : Nat → ClassId) (ad : Nat → Nat) (S : CS) (p0 : Int32) (p1 : Int32) (d0 : UInt64) (sz : Nat)  (hI : CIv S) (h1 : dB d0) : Met l ⟨"PageScribe$Reader", "giveToken", "(IID)V"⟩ (wy ⟨"PageScribe$Reader", "giveToken", "(IID)V"⟩ prog_7_method_9_code 5 none) ({ frames := 0, cells := 0, slots := 0, locals := 0 }) (va_Pc [.ref (ad 60), .int p0, .int p1, .double d0] (Pw D T (cW T ad S) sz E0)) (va_Qv (fun (u : CS) => CIv u ∧ kcL S u ∧ kcU S u ∧ kcW S u ∧ ((f_xr_place u).toInt = (f_xr_place S).toInt)) (fun u t => Bw D T (va_A (cW T ad S) sz) (cW T ad u) t) (va_A (cW T ad S) sz)) 0 0 (va_A (cW T ad S) sz) := by
  refine j_met (y := ⟨"PageScribe$Reader", "giveToken", "(IID)V"⟩) (b := prog_7_method_9_code) (n := 5) (ret := none) (av := [.ref (ad 60), .int p0, .int p1, .double d0]) (Qc := fun A => va_Qv (fun (u : CS) => CIv u ∧ kcL S u ∧ kcU S u ∧ kcW S u ∧ ((f_xr_place u).toInt = (f_xr_place S).toInt)) (fun u t => Bw D T A (cW T ad u) t) A) (by decide +kernel) (Nat.le_of_ble_eq_true rfl) (fun p e s m args below meth c A ls F hr hlocks hnm hK hP hD hS hA hN hE hl => ?_)
  obtain ⟨hx, hb, hml, hown, hts⟩ := id F
  have hl : lv_has ls 5 [(0, .ref (ad 60)), (1, .int p0), (2, .int p1), (3, .double d0)] := hl
  obtain ⟨i_vst, i_vc0, i_vc1, i_vc2, i_vc3, i_vv0, i_vv1, i_vv2, i_vv3, i_vg, i_wct, i_wln, i_sd0, i_sd1, i_sd2, i_sd3, i_rln, i_rtx, i_rpl, i_rtk, i_cnv, i_pts, i_cik, i_und⟩ := id hI
  have rp0 := zt_rng p0
  have rp1 := zt_rng p1
  refine lv_aload_n hx hb d_Reader_giveToken_0 rfl (lv_at hl 0 rfl) ?_
  refine lv_iload_n hx hb d_Reader_giveToken_1 rfl (lv_at hl 1 rfl) ?_
  refine va_put (D := D) (ci := 5) (v := .int p0) (ty := .int) (C := "PageScribe$Reader") (T := F_Reader) (N := 10) hx hb hts i_Reader t_Reader t_Reader_ok n_Reader hown hK hP hD hS 60 (ce_60 _ _ _) cl_5 5 (by decide) (hts _ k_1_172) (fun _ h9 => h9) rfl (by decide +kernel) rfl rfl (Nat.le_of_ble_eq_true rfl) d_Reader_giveToken_2 (fun H locs hP hD hS => ?_)
  rw [cp_xr_tokenKind] at hP hD
  have hP : va_P D classes (cW T ad ((S.1, S.2.1, S.2.2.1, S.2.2.2.1, S.2.2.2.2.1, S.2.2.2.2.2.1, ((a_xr_text S), (f_xr_length S), (f_xr_place S), p0, (f_xr_tokenNumber S), (f_xr_tokenReal S), (a_xr_begins S), (a_xg_k S), (a_xg_n S), (a_xg_r S), (f_xg_z S)), S.2.2.2.2.2.2.2.1, S.2.2.2.2.2.2.2.2) : CS)) H := hP
  have hD : va_D A (cW T ad ((S.1, S.2.1, S.2.2.1, S.2.2.2.1, S.2.2.2.2.1, S.2.2.2.2.2.1, ((a_xr_text S), (f_xr_length S), (f_xr_place S), p0, (f_xr_tokenNumber S), (f_xr_tokenReal S), (a_xr_begins S), (a_xg_k S), (a_xg_n S), (a_xg_r S), (f_xg_z S)), S.2.2.2.2.2.2.2.1, S.2.2.2.2.2.2.2.2) : CS)) := hD
  refine lv_aload_n hx hb d_Reader_giveToken_5 rfl (lv_at hl 0 rfl) ?_
  refine lv_iload_n hx hb d_Reader_giveToken_6 rfl (lv_at hl 2 rfl) ?_
  refine va_put (D := D) (ci := 5) (v := .int p1) (ty := .int) (C := "PageScribe$Reader") (T := F_Reader) (N := 10) hx hb hts i_Reader t_Reader t_Reader_ok n_Reader hown hK hP hD hS 60 (ce_60 _ _ _) cl_5 6 (by decide) (hts _ k_1_174) (fun _ h9 => h9) rfl (by decide +kernel) rfl rfl (Nat.le_of_ble_eq_true rfl) d_Reader_giveToken_7 (fun H locs hP hD hS => ?_)
  rw [cp_xr_tokenNumber] at hP hD
  have hP : va_P D classes (cW T ad ((S.1, S.2.1, S.2.2.1, S.2.2.2.1, S.2.2.2.2.1, S.2.2.2.2.2.1, ((a_xr_text S), (f_xr_length S), (f_xr_place S), p0, p1, (f_xr_tokenReal S), (a_xr_begins S), (a_xg_k S), (a_xg_n S), (a_xg_r S), (f_xg_z S)), S.2.2.2.2.2.2.2.1, S.2.2.2.2.2.2.2.2) : CS)) H := hP
  have hD : va_D A (cW T ad ((S.1, S.2.1, S.2.2.1, S.2.2.2.1, S.2.2.2.2.1, S.2.2.2.2.2.1, ((a_xr_text S), (f_xr_length S), (f_xr_place S), p0, p1, (f_xr_tokenReal S), (a_xr_begins S), (a_xg_k S), (a_xg_n S), (a_xg_r S), (f_xg_z S)), S.2.2.2.2.2.2.2.1, S.2.2.2.2.2.2.2.2) : CS)) := hD
  refine lv_aload_n hx hb d_Reader_giveToken_10 rfl (lv_at hl 0 rfl) ?_
  refine lv_dload_n hx hb d_Reader_giveToken_11 rfl (lv_at hl 3 rfl) ?_
  refine va_put (D := D) (ci := 5) (v := .double d0) (ty := .double) (C := "PageScribe$Reader") (T := F_Reader) (N := 10) hx hb hts i_Reader t_Reader t_Reader_ok n_Reader hown hK hP hD hS 60 (ce_60 _ _ _) cl_5 7 (by decide) (hts _ k_1_176) (fun _ h9 => h9) rfl (by decide +kernel) rfl rfl (Nat.le_of_ble_eq_true rfl) d_Reader_giveToken_12 (fun H locs hP hD hS => ?_)
  rw [cp_xr_tokenReal] at hP hD
  have hP : va_P D classes (cW T ad ((S.1, S.2.1, S.2.2.1, S.2.2.2.1, S.2.2.2.2.1, S.2.2.2.2.2.1, ((a_xr_text S), (f_xr_length S), (f_xr_place S), p0, p1, d0, (a_xr_begins S), (a_xg_k S), (a_xg_n S), (a_xg_r S), (f_xg_z S)), S.2.2.2.2.2.2.2.1, S.2.2.2.2.2.2.2.2) : CS)) H := hP
  have hD : va_D A (cW T ad ((S.1, S.2.1, S.2.2.1, S.2.2.2.1, S.2.2.2.2.1, S.2.2.2.2.2.1, ((a_xr_text S), (f_xr_length S), (f_xr_place S), p0, p1, d0, (a_xr_begins S), (a_xg_k S), (a_xg_n S), (a_xg_r S), (f_xg_z S)), S.2.2.2.2.2.2.2.1, S.2.2.2.2.2.2.2.2) : CS)) := hD
  exact j_vret F hr hlocks hK hS ((S.1, S.2.1, S.2.2.1, S.2.2.2.1, S.2.2.2.2.1, S.2.2.2.2.2.1, ((a_xr_text S), (f_xr_length S), (f_xr_place S), p0, p1, d0, (a_xr_begins S), (a_xg_k S), (a_xg_n S), (a_xg_r S), (f_xg_z S)), S.2.2.2.2.2.2.2.1, S.2.2.2.2.2.2.2.2) : CS) ⟨⟨i_vst, i_vc0, i_vc1, i_vc2, i_vc3, i_vv0, i_vv1, i_vv2, i_vv3, i_vg, i_wct, i_wln, i_sd0, i_sd1, i_sd2, i_sd3, i_rln, i_rtx, i_rpl, (show dB d0 by omega), i_cnv, i_pts, i_cik, i_und⟩, (kcL_r S), (kcU_r S), (kcW_r S), (show (f_xr_place S).toInt = (f_xr_place S).toInt by rfl)⟩ hP hD d_Reader_giveToken_15
theorem d_Reader_digitsFrom_0 : decode prog_7_method_15_code 0 = .ok (.iload_n 1, 1) := by decide +kernel
theorem d_Reader_digitsFrom_1 : decode prog_7_method_15_code 1 = .ok (.istore_n 2, 1) := by decide +kernel
theorem d_Reader_digitsFrom_2 : decode prog_7_method_15_code 2 = .ok (.iload_n 2, 1) := by decide +kernel
theorem d_Reader_digitsFrom_3 : decode prog_7_method_15_code 3 = .ok (.aload_n 0, 1) := by decide +kernel
theorem d_Reader_digitsFrom_4 : decode prog_7_method_15_code 4 = .ok (.getfield 15, 3) := by decide +kernel
theorem d_Reader_digitsFrom_7 : decode prog_7_method_15_code 7 = .ok (.if_icmp .ge 20, 3) := by decide +kernel
theorem d_Reader_digitsFrom_27 : decode prog_7_method_15_code 27 = .ok (.iload_n 2, 1) := by decide +kernel
theorem d_Reader_digitsFrom_28 : decode prog_7_method_15_code 28 = .ok (.iload_n 1, 1) := by decide +kernel
theorem d_Reader_digitsFrom_29 : decode prog_7_method_15_code 29 = .ok (.isub, 1) := by decide +kernel
theorem d_Reader_digitsFrom_30 : decode prog_7_method_15_code 30 = .ok (.ireturn, 1) := by decide +kernel
theorem d_Reader_digitsFrom_10 : decode prog_7_method_15_code 10 = .ok (.aload_n 0, 1) := by decide +kernel
theorem d_Reader_digitsFrom_11 : decode prog_7_method_15_code 11 = .ok (.iload_n 2, 1) := by decide +kernel
theorem d_Reader_digitsFrom_12 : decode prog_7_method_15_code 12 = .ok (.invokevirtual 53, 3) := by decide +kernel
theorem k_3_73 : Cond.code ⟨"PageScribe$Reader", "charAt", "(I)C"⟩ prog_7_method_5_code 2 (some .char) ∈ gw := gw_of (tb_3 (List.mem_of_getElem? (i := 73) (by decide +kernel))) (by decide +kernel)
theorem k_1_7 : Cond.initialized "PageScribe$Reader" ∈ gw := gw_of (tb_1 (List.mem_of_getElem? (i := 7) (by decide +kernel))) (by decide +kernel)
theorem k_3_70 : Cond.methodLink "PageScribe$Reader" 53 ⟨"PageScribe$Reader", "charAt", "(I)C"⟩ ∈ gw := gw_of (tb_3 (List.mem_of_getElem? (i := 70) (by decide +kernel))) (by decide +kernel)
theorem k_3_72 : Cond.instanceMethod ⟨"PageScribe$Reader", "charAt", "(I)C"⟩ ∈ gw := gw_of (tb_3 (List.mem_of_getElem? (i := 72) (by decide +kernel))) (by decide +kernel)
theorem k_0_1 : Cond.selects "PageScribe$Reader" ⟨"PageScribe$Reader", "charAt", "(I)C"⟩ ⟨"PageScribe$Reader", "charAt", "(I)C"⟩ ∈ gw := gw_of (tb_0 (List.mem_of_getElem? (i := 1) (by decide +kernel))) (by decide +kernel)
theorem d_Reader_digitsFrom_15 : decode prog_7_method_15_code 15 = .ok (.invokestatic 89, 3) := by decide +kernel
theorem k_3_119 : Cond.code ⟨"PageScribe$Reader", "isDigit", "(C)Z"⟩ prog_7_method_14_code 1 (some .boolean) ∈ gw := gw_of (tb_3 (List.mem_of_getElem? (i := 119) (by decide +kernel))) (by decide +kernel)
theorem k_3_117 : Cond.methodLink "PageScribe$Reader" 89 ⟨"PageScribe$Reader", "isDigit", "(C)Z"⟩ ∈ gw := gw_of (tb_3 (List.mem_of_getElem? (i := 117) (by decide +kernel))) (by decide +kernel)
theorem k_3_118 : Cond.static ⟨"PageScribe$Reader", "isDigit", "(C)Z"⟩ ∈ gw := gw_of (tb_3 (List.mem_of_getElem? (i := 118) (by decide +kernel))) (by decide +kernel)
theorem d_Reader_digitsFrom_18 : decode prog_7_method_15_code 18 = .ok (.ifCond .eq 9, 3) := by decide +kernel
theorem d_Reader_digitsFrom_21 : decode prog_7_method_15_code 21 = .ok (.iinc 2 1, 3) := by decide +kernel
theorem d_Reader_digitsFrom_24 : decode prog_7_method_15_code 24 = .ok (.goto (-22), 3) := by decide +kernel
set_option maxHeartbeats 4000000 in
set_option maxRecDepth 100000 in
theorem c_Reader_digitsFrom (l : Launch) (D : va_G) (T : Nat → ClassId) (ad : Nat → Nat) (S : CS) (p0 : Int32) (sz : Nat)  (hI : CIv S) (h1 : 0 ≤ p0.toInt ∧ p0.toInt ≤ 420) : Met l ⟨"PageScribe$Reader", "digitsFrom", "(I)I"⟩ (wy ⟨"PageScribe$Reader", "digitsFrom", "(I)I"⟩ prog_7_method_15_code 3 (some .int)) ({ frames := 1, cells := 0, slots := 0, locals := 70 }) (va_Pc [.ref (ad 60), .int p0] (Pw D T (cW T ad S) sz E0)) (va_Qi (fun (r : Int32) (u : Unit) => 0 ≤ r.toInt ∧ (r.toInt = 0 ∨ p0.toInt + r.toInt ≤ (f_xr_length S).toInt)) (fun u t => Bw D T (va_A (cW T ad S) sz) (cW T ad S) t) (va_A (cW T ad S) sz)) 0 0 (va_A (cW T ad S) sz) := by
  refine j_met (y := ⟨"PageScribe$Reader", "digitsFrom", "(I)I"⟩) (b := prog_7_method_15_code) (n := 3) (ret := (some .int)) (av := [.ref (ad 60), .int p0]) (Qc := fun A => va_Qi (fun (r : Int32) (u : Unit) => 0 ≤ r.toInt ∧ (r.toInt = 0 ∨ p0.toInt + r.toInt ≤ (f_xr_length S).toInt)) (fun u t => Bw D T A (cW T ad S) t) A) (by decide +kernel) (Nat.le_of_ble_eq_true rfl) (fun p e s m args below meth c A ls F hr hlocks hnm hK hP hD hS hA hN hE hl => ?_)
  obtain ⟨hx, hb, hml, hown, hts⟩ := id F
  have hl : lv_has ls 3 [(0, .ref (ad 60)), (1, .int p0)] := hl
  obtain ⟨i_vst, i_vc0, i_vc1, i_vc2, i_vc3, i_vv0, i_vv1, i_vv2, i_vv3, i_vg, i_wct, i_wln, i_sd0, i_sd1, i_sd2, i_sd3, i_rln, i_rtx, i_rpl, i_rtk, i_cnv, i_pts, i_cik, i_und⟩ := id hI
  have rp0 := zt_rng p0
  refine lv_iload_n hx hb d_Reader_digitsFrom_0 rfl (lv_at hl 1 rfl) ?_
  refine lv_istore_n (lv' := [(2, .int p0), (0, .ref (ad 60)), (1, .int p0)]) hx hb d_Reader_digitsFrom_1 rfl hl (by decide) rfl (fun ls hl => ?_)
  refine j_loop (α := Int32) (fun k x H locs ls => (p0.toInt ≤ x.toInt ∧ (x.toInt = p0.toInt ∨ x.toInt ≤ (f_xr_length S).toInt) ∧ 420 ≤ x.toInt + ((k : Nat) : Int)) ∧ va_P D classes (cW T ad S) H ∧ va_D A (cW T ad S) ∧ va_S A s.heap H locs ∧ lv_has ls 3 [(2, .int x), (0, .ref (ad 60)), (1, .int p0)]) (fun _ _ ls => F0 m 2 ls []) (fun k x H locs ls hI9 ih => ?_) 420 p0 _ _ _ ⟨(show p0.toInt ≤ p0.toInt ∧ (p0.toInt = p0.toInt ∨ p0.toInt ≤ (f_xr_length S).toInt) ∧ 420 ≤ p0.toInt + ((420 : Nat) : Int) by omega), hP, hD, hS, lv_sub hl [0, 1, 2] rfl⟩
  obtain ⟨i, rfl⟩ : ∃ z, z = x := ⟨_, rfl⟩
  obtain ⟨hf1, hP, hD, hS, hl⟩ := hI9
  have hf1 : p0.toInt ≤ i.toInt ∧ (i.toInt = p0.toInt ∨ i.toInt ≤ (f_xr_length S).toInt) ∧ 420 ≤ i.toInt + ((k : Nat) : Int) := hf1
  have hP : va_P D classes (cW T ad S) H := hP
  have hD : va_D A (cW T ad S) := hD
  have hl : lv_has ls 3 [(2, .int i), (0, .ref (ad 60)), (1, .int p0)] := hl
  refine lv_iload_n hx hb d_Reader_digitsFrom_2 rfl (lv_at hl 0 rfl) ?_
  refine lv_aload_n hx hb d_Reader_digitsFrom_3 rfl (lv_at hl 1 rfl) ?_
  refine va_get (D := D) (ci := 5) (v := .int (f_xr_length S)) (C := "PageScribe$Reader") (T := F_Reader) (N := 10) hx hb hts i_Reader hown hK hP 60 (ce_60 _ _ _) cl_5 3 (by decide) (hts _ k_1_169) (fun _ h9 => h9) rfl d_Reader_digitsFrom_4 ?_
  refine lv_icmp_ge (tgt := 27) hx hb d_Reader_digitsFrom_7 (by decide) (fun c7_1 => ?_) (fun c7_1 => ?_)
  · have fc7_1 : (f_xr_length S).toInt ≤ i.toInt := zt_le (show (f_xr_length S).toInt = _ from rfl) (show i.toInt = _ from rfl) c7_1
    refine lv_iload_n hx hb d_Reader_digitsFrom_27 rfl (lv_at hl 0 rfl) ?_
    refine lv_iload_n hx hb d_Reader_digitsFrom_28 rfl (lv_at hl 2 rfl) ?_
    refine lv_isub hx hb d_Reader_digitsFrom_29 ?_
    refine lv_topi (fun x1 ex1 => ?_)
    have fx1 : x1.toInt = (i.toInt - p0.toInt) := by rw [ex1]; exact (zt_sub (show i.toInt = _ from rfl) (show p0.toInt = _ from rfl) (by omega) (by omega)).trans (by omega)
    exact j_iret F hr hlocks hK hS () (show 0 ≤ x1.toInt ∧ (x1.toInt = 0 ∨ p0.toInt + x1.toInt ≤ (f_xr_length S).toInt) by omega) hP hD d_Reader_digitsFrom_30
  · have fc7_1 : i.toInt < (f_xr_length S).toInt := Int.not_le.mp (zt_nle (show (f_xr_length S).toInt = _ from rfl) (show i.toInt = _ from rfl) c7_1)
    refine lv_aload_n hx hb d_Reader_digitsFrom_10 rfl (lv_at hl 1 rfl) ?_
    refine lv_iload_n hx hb d_Reader_digitsFrom_11 rfl (lv_at hl 0 rfl) ?_
    refine jc_ci (w := (fun _ => S)) hK hP hD hS hA (va_runV (As := [.int i]) (rest := []) F (c_Reader_charAt l D T ad S i  H.size ⟨i_vst, i_vc0, i_vc1, i_vc2, i_vc3, i_vv0, i_vv1, i_vv2, i_vv3, i_vg, i_wct, i_wln, i_sd0, i_sd1, i_sd2, i_sd3, i_rln, i_rtx, i_rpl, i_rtk, i_cnv, i_pts, i_cik, i_und⟩) (j_cV (k := 1) (C := "PageScribe$Reader") hts k_3_73 k_1_7 k_3_70 k_3_72 k_0_1 (by decide +kernel) ⟨Nat.le_of_ble_eq_true rfl, Nat.le_of_ble_eq_true rfl⟩) (j_preV (q0 := 60) (ci := 5) hK hP hD csc csc_all csc_nd cl_5 (ce_60 _ _ _) (fun _ _ _ _ h => h) (fun _ _ _ => trivial)) rfl rfl hl.1 rfl (lv_room (Nat.le_of_ble_eq_true rfl)) d_Reader_digitsFrom_12 ⟨Nat.le_of_ble_eq_true rfl, Nat.le_of_ble_eq_true rfl⟩) (fun rv1 u1 H locs hw1 hP hD hS => ?_)
    have hP : va_P D classes (cW T ad S) H := hP
    have hD : va_D A (cW T ad S) := hD
    have qhw1 : 0 ≤ rv1.toInt ∧ rv1.toInt ≤ 127 ∧ (rv1.toInt = 0 ∨ (0 ≤ i.toInt ∧ i.toInt < (f_xr_length S).toInt ∧ rv1.toInt = ((a_xr_text S) i.toInt.toNat).toInt)) := hw1
    have rrv1 := zt_rng rv1
    refine j_ci (wc := []) (wr := (cW T ad S)) hK hP hD hS hA [] csc rfl csc_all csc_nd (fun _ _ => List.not_mem_nil) (va_runS (As := [.int rv1]) (rest := []) F (c_Reader_isDigit l D T rv1  H.size) (j_cS (k := 1) hts k_3_119 k_1_7 k_3_117 k_3_118 (by decide +kernel) ⟨Nat.le_of_ble_eq_true rfl, Nat.le_of_ble_eq_true rfl⟩) (j_preS hK hP hD [] rfl (by decide) (fun _ _ _ _ h => h) (fun _ _ _ => trivial)) rfl rfl hl.1 rfl (lv_room (Nat.le_of_ble_eq_true rfl)) d_Reader_digitsFrom_15 ⟨Nat.le_of_ble_eq_true rfl, Nat.le_of_ble_eq_true rfl⟩) (fun rv2 u2 H locs hw2 hP hD hS => ?_)
    have hP : va_P D classes (cW T ad S) H := hP
    have hD : va_D A (cW T ad S) := hD
    have qhw2 : rv2.toInt = 0 ∨ rv2.toInt = 1 := hw2
    have rrv2 := zt_rng rv2
    refine lv_if_eq (tgt := 27) hx hb d_Reader_digitsFrom_18 (by decide) (fun c18_1 => ?_) (fun c18_1 => ?_)
    · have fc18_1 : rv2.toInt = 0 := zt_eq (show rv2.toInt = _ from rfl) tI_0 c18_1
      refine lv_iload_n hx hb d_Reader_digitsFrom_27 rfl (lv_at hl 0 rfl) ?_
      refine lv_iload_n hx hb d_Reader_digitsFrom_28 rfl (lv_at hl 2 rfl) ?_
      refine lv_isub hx hb d_Reader_digitsFrom_29 ?_
      refine lv_topi (fun x2 ex2 => ?_)
      have fx2 : x2.toInt = (i.toInt - p0.toInt) := by rw [ex2]; exact (zt_sub (show i.toInt = _ from rfl) (show p0.toInt = _ from rfl) (by omega) (by omega)).trans (by omega)
      exact j_iret F hr hlocks hK hS () (show 0 ≤ x2.toInt ∧ (x2.toInt = 0 ∨ p0.toInt + x2.toInt ≤ (f_xr_length S).toInt) by omega) hP hD d_Reader_digitsFrom_30
    · first | have fc18_1 : rv2.toInt < 0 := (by have := zt_ne (show rv2.toInt = _ from rfl) tI_0 c18_1; omega) | have fc18_1 : 0 < rv2.toInt := (by have := zt_ne (show rv2.toInt = _ from rfl) tI_0 c18_1; omega) | skip
      refine lv_iinc (v := (i + 1)) (lv' := [(2, .int (i + 1)), (0, .ref (ad 60)), (1, .int p0)]) hx hb d_Reader_digitsFrom_21 hl (k := 0) rfl (by first | rfl | decide) (by decide) rfl (fun ls hl => ?_)
      obtain ⟨x3, ex3⟩ : ∃ z, z = (i + 1) := ⟨_, rfl⟩
      rw [← ex3] at hl
      have fx3 : x3.toInt = (i.toInt + 1) := by rw [ex3]; exact (zt_add (show i.toInt = _ from rfl) tI_1 (by omega) (by omega)).trans (by omega)
      have hl : lv_has ls 3 [(2, .int x3), (0, .ref (ad 60)), (1, .int p0)] := hl
      refine lv_goto (tgt := 2) hx hb d_Reader_digitsFrom_24 (by decide) ?_
      exact ih (k - 1) x3 _ _ _ (by omega) ⟨(show p0.toInt ≤ x3.toInt ∧ (x3.toInt = p0.toInt ∨ x3.toInt ≤ (f_xr_length S).toInt) ∧ 420 ≤ x3.toInt + (((k - 1) : Nat) : Int) by omega), hP, hD, hS, lv_sub hl [0, 1, 2] rfl⟩
theorem d_Reader_lettersFrom_0 : decode prog_7_method_16_code 0 = .ok (.iload_n 1, 1) := by decide +kernel
theorem d_Reader_lettersFrom_1 : decode prog_7_method_16_code 1 = .ok (.istore_n 2, 1) := by decide +kernel
theorem d_Reader_lettersFrom_2 : decode prog_7_method_16_code 2 = .ok (.iload_n 2, 1) := by decide +kernel
theorem d_Reader_lettersFrom_3 : decode prog_7_method_16_code 3 = .ok (.aload_n 0, 1) := by decide +kernel
theorem d_Reader_lettersFrom_4 : decode prog_7_method_16_code 4 = .ok (.getfield 15, 3) := by decide +kernel
theorem d_Reader_lettersFrom_7 : decode prog_7_method_16_code 7 = .ok (.if_icmp .ge 29, 3) := by decide +kernel
theorem d_Reader_lettersFrom_36 : decode prog_7_method_16_code 36 = .ok (.iload_n 2, 1) := by decide +kernel
theorem d_Reader_lettersFrom_37 : decode prog_7_method_16_code 37 = .ok (.iload_n 1, 1) := by decide +kernel
theorem d_Reader_lettersFrom_38 : decode prog_7_method_16_code 38 = .ok (.isub, 1) := by decide +kernel
theorem d_Reader_lettersFrom_39 : decode prog_7_method_16_code 39 = .ok (.ireturn, 1) := by decide +kernel
theorem d_Reader_lettersFrom_10 : decode prog_7_method_16_code 10 = .ok (.aload_n 0, 1) := by decide +kernel
theorem d_Reader_lettersFrom_11 : decode prog_7_method_16_code 11 = .ok (.iload_n 2, 1) := by decide +kernel
theorem d_Reader_lettersFrom_12 : decode prog_7_method_16_code 12 = .ok (.invokevirtual 53, 3) := by decide +kernel
theorem d_Reader_lettersFrom_15 : decode prog_7_method_16_code 15 = .ok (.bipush 97, 2) := by decide +kernel
theorem d_Reader_lettersFrom_17 : decode prog_7_method_16_code 17 = .ok (.if_icmp .lt 19, 3) := by decide +kernel
theorem d_Reader_lettersFrom_20 : decode prog_7_method_16_code 20 = .ok (.aload_n 0, 1) := by decide +kernel
theorem d_Reader_lettersFrom_21 : decode prog_7_method_16_code 21 = .ok (.iload_n 2, 1) := by decide +kernel
theorem d_Reader_lettersFrom_22 : decode prog_7_method_16_code 22 = .ok (.invokevirtual 53, 3) := by decide +kernel
theorem d_Reader_lettersFrom_25 : decode prog_7_method_16_code 25 = .ok (.bipush 122, 2) := by decide +kernel
theorem d_Reader_lettersFrom_27 : decode prog_7_method_16_code 27 = .ok (.if_icmp .gt 9, 3) := by decide +kernel
theorem d_Reader_lettersFrom_30 : decode prog_7_method_16_code 30 = .ok (.iinc 2 1, 3) := by decide +kernel
theorem d_Reader_lettersFrom_33 : decode prog_7_method_16_code 33 = .ok (.goto (-31), 3) := by decide +kernel
set_option maxHeartbeats 4000000 in
set_option maxRecDepth 100000 in
theorem c_Reader_lettersFrom (l : Launch) (D : va_G) (T : Nat → ClassId) (ad : Nat → Nat) (S : CS) (p0 : Int32) (sz : Nat)  (hI : CIv S) (h1 : 0 ≤ p0.toInt ∧ p0.toInt ≤ 420) : Met l ⟨"PageScribe$Reader", "lettersFrom", "(I)I"⟩ (wy ⟨"PageScribe$Reader", "lettersFrom", "(I)I"⟩ prog_7_method_16_code 3 (some .int)) ({ frames := 1, cells := 0, slots := 0, locals := 70 }) (va_Pc [.ref (ad 60), .int p0] (Pw D T (cW T ad S) sz E0)) (va_Qi (fun (r : Int32) (u : Unit) => 0 ≤ r.toInt ∧ (r.toInt = 0 ∨ p0.toInt + r.toInt ≤ (f_xr_length S).toInt)) (fun u t => Bw D T (va_A (cW T ad S) sz) (cW T ad S) t) (va_A (cW T ad S) sz)) 0 0 (va_A (cW T ad S) sz) := by
  refine j_met (y := ⟨"PageScribe$Reader", "lettersFrom", "(I)I"⟩) (b := prog_7_method_16_code) (n := 3) (ret := (some .int)) (av := [.ref (ad 60), .int p0]) (Qc := fun A => va_Qi (fun (r : Int32) (u : Unit) => 0 ≤ r.toInt ∧ (r.toInt = 0 ∨ p0.toInt + r.toInt ≤ (f_xr_length S).toInt)) (fun u t => Bw D T A (cW T ad S) t) A) (by decide +kernel) (Nat.le_of_ble_eq_true rfl) (fun p e s m args below meth c A ls F hr hlocks hnm hK hP hD hS hA hN hE hl => ?_)
  obtain ⟨hx, hb, hml, hown, hts⟩ := id F
  have hl : lv_has ls 3 [(0, .ref (ad 60)), (1, .int p0)] := hl
  obtain ⟨i_vst, i_vc0, i_vc1, i_vc2, i_vc3, i_vv0, i_vv1, i_vv2, i_vv3, i_vg, i_wct, i_wln, i_sd0, i_sd1, i_sd2, i_sd3, i_rln, i_rtx, i_rpl, i_rtk, i_cnv, i_pts, i_cik, i_und⟩ := id hI
  have rp0 := zt_rng p0
  refine lv_iload_n hx hb d_Reader_lettersFrom_0 rfl (lv_at hl 1 rfl) ?_
  refine lv_istore_n (lv' := [(2, .int p0), (0, .ref (ad 60)), (1, .int p0)]) hx hb d_Reader_lettersFrom_1 rfl hl (by decide) rfl (fun ls hl => ?_)
  refine j_loop (α := Int32) (fun k x H locs ls => (p0.toInt ≤ x.toInt ∧ (x.toInt = p0.toInt ∨ x.toInt ≤ (f_xr_length S).toInt) ∧ 420 ≤ x.toInt + ((k : Nat) : Int)) ∧ va_P D classes (cW T ad S) H ∧ va_D A (cW T ad S) ∧ va_S A s.heap H locs ∧ lv_has ls 3 [(2, .int x), (0, .ref (ad 60)), (1, .int p0)]) (fun _ _ ls => F0 m 2 ls []) (fun k x H locs ls hI9 ih => ?_) 420 p0 _ _ _ ⟨(show p0.toInt ≤ p0.toInt ∧ (p0.toInt = p0.toInt ∨ p0.toInt ≤ (f_xr_length S).toInt) ∧ 420 ≤ p0.toInt + ((420 : Nat) : Int) by omega), hP, hD, hS, lv_sub hl [0, 1, 2] rfl⟩
  obtain ⟨i, rfl⟩ : ∃ z, z = x := ⟨_, rfl⟩
  obtain ⟨hf1, hP, hD, hS, hl⟩ := hI9
  have hf1 : p0.toInt ≤ i.toInt ∧ (i.toInt = p0.toInt ∨ i.toInt ≤ (f_xr_length S).toInt) ∧ 420 ≤ i.toInt + ((k : Nat) : Int) := hf1
  have hP : va_P D classes (cW T ad S) H := hP
  have hD : va_D A (cW T ad S) := hD
  have hl : lv_has ls 3 [(2, .int i), (0, .ref (ad 60)), (1, .int p0)] := hl
  refine lv_iload_n hx hb d_Reader_lettersFrom_2 rfl (lv_at hl 0 rfl) ?_
  refine lv_aload_n hx hb d_Reader_lettersFrom_3 rfl (lv_at hl 1 rfl) ?_
  refine va_get (D := D) (ci := 5) (v := .int (f_xr_length S)) (C := "PageScribe$Reader") (T := F_Reader) (N := 10) hx hb hts i_Reader hown hK hP 60 (ce_60 _ _ _) cl_5 3 (by decide) (hts _ k_1_169) (fun _ h9 => h9) rfl d_Reader_lettersFrom_4 ?_
  refine lv_icmp_ge (tgt := 36) hx hb d_Reader_lettersFrom_7 (by decide) (fun c7_1 => ?_) (fun c7_1 => ?_)
  · have fc7_1 : (f_xr_length S).toInt ≤ i.toInt := zt_le (show (f_xr_length S).toInt = _ from rfl) (show i.toInt = _ from rfl) c7_1
    refine lv_iload_n hx hb d_Reader_lettersFrom_36 rfl (lv_at hl 0 rfl) ?_
    refine lv_iload_n hx hb d_Reader_lettersFrom_37 rfl (lv_at hl 2 rfl) ?_
    refine lv_isub hx hb d_Reader_lettersFrom_38 ?_
    refine lv_topi (fun x1 ex1 => ?_)
    have fx1 : x1.toInt = (i.toInt - p0.toInt) := by rw [ex1]; exact (zt_sub (show i.toInt = _ from rfl) (show p0.toInt = _ from rfl) (by omega) (by omega)).trans (by omega)
    exact j_iret F hr hlocks hK hS () (show 0 ≤ x1.toInt ∧ (x1.toInt = 0 ∨ p0.toInt + x1.toInt ≤ (f_xr_length S).toInt) by omega) hP hD d_Reader_lettersFrom_39
  · have fc7_1 : i.toInt < (f_xr_length S).toInt := Int.not_le.mp (zt_nle (show (f_xr_length S).toInt = _ from rfl) (show i.toInt = _ from rfl) c7_1)
    refine lv_aload_n hx hb d_Reader_lettersFrom_10 rfl (lv_at hl 1 rfl) ?_
    refine lv_iload_n hx hb d_Reader_lettersFrom_11 rfl (lv_at hl 0 rfl) ?_
    refine jc_ci (w := (fun _ => S)) hK hP hD hS hA (va_runV (As := [.int i]) (rest := []) F (c_Reader_charAt l D T ad S i  H.size ⟨i_vst, i_vc0, i_vc1, i_vc2, i_vc3, i_vv0, i_vv1, i_vv2, i_vv3, i_vg, i_wct, i_wln, i_sd0, i_sd1, i_sd2, i_sd3, i_rln, i_rtx, i_rpl, i_rtk, i_cnv, i_pts, i_cik, i_und⟩) (j_cV (k := 1) (C := "PageScribe$Reader") hts k_3_73 k_1_7 k_3_70 k_3_72 k_0_1 (by decide +kernel) ⟨Nat.le_of_ble_eq_true rfl, Nat.le_of_ble_eq_true rfl⟩) (j_preV (q0 := 60) (ci := 5) hK hP hD csc csc_all csc_nd cl_5 (ce_60 _ _ _) (fun _ _ _ _ h => h) (fun _ _ _ => trivial)) rfl rfl hl.1 rfl (lv_room (Nat.le_of_ble_eq_true rfl)) d_Reader_lettersFrom_12 ⟨Nat.le_of_ble_eq_true rfl, Nat.le_of_ble_eq_true rfl⟩) (fun rv1 u1 H locs hw1 hP hD hS => ?_)
    have hP : va_P D classes (cW T ad S) H := hP
    have hD : va_D A (cW T ad S) := hD
    have qhw1 : 0 ≤ rv1.toInt ∧ rv1.toInt ≤ 127 ∧ (rv1.toInt = 0 ∨ (0 ≤ i.toInt ∧ i.toInt < (f_xr_length S).toInt ∧ rv1.toInt = ((a_xr_text S) i.toInt.toNat).toInt)) := hw1
    have rrv1 := zt_rng rv1
    refine lv_bipush (v := 97) hx hb d_Reader_lettersFrom_15 (by decide) ?_
    refine lv_icmp_lt (tgt := 36) hx hb d_Reader_lettersFrom_17 (by decide) (fun c17_1 => ?_) (fun c17_1 => ?_)
    · have fc17_1 : rv1.toInt < 97 := zt_lt (show rv1.toInt = _ from rfl) tI_97 c17_1
      refine lv_iload_n hx hb d_Reader_lettersFrom_36 rfl (lv_at hl 0 rfl) ?_
      refine lv_iload_n hx hb d_Reader_lettersFrom_37 rfl (lv_at hl 2 rfl) ?_
      refine lv_isub hx hb d_Reader_lettersFrom_38 ?_
      refine lv_topi (fun x2 ex2 => ?_)
      have fx2 : x2.toInt = (i.toInt - p0.toInt) := by rw [ex2]; exact (zt_sub (show i.toInt = _ from rfl) (show p0.toInt = _ from rfl) (by omega) (by omega)).trans (by omega)
      exact j_iret F hr hlocks hK hS () (show 0 ≤ x2.toInt ∧ (x2.toInt = 0 ∨ p0.toInt + x2.toInt ≤ (f_xr_length S).toInt) by omega) hP hD d_Reader_lettersFrom_39
    · have fc17_1 : 97 ≤ rv1.toInt := Int.not_lt.mp (zt_nlt (show rv1.toInt = _ from rfl) tI_97 c17_1)
      refine lv_aload_n hx hb d_Reader_lettersFrom_20 rfl (lv_at hl 1 rfl) ?_
      refine lv_iload_n hx hb d_Reader_lettersFrom_21 rfl (lv_at hl 0 rfl) ?_
      refine jc_ci (w := (fun _ => S)) hK hP hD hS hA (va_runV (As := [.int i]) (rest := []) F (c_Reader_charAt l D T ad S i  H.size ⟨i_vst, i_vc0, i_vc1, i_vc2, i_vc3, i_vv0, i_vv1, i_vv2, i_vv3, i_vg, i_wct, i_wln, i_sd0, i_sd1, i_sd2, i_sd3, i_rln, i_rtx, i_rpl, i_rtk, i_cnv, i_pts, i_cik, i_und⟩) (j_cV (k := 1) (C := "PageScribe$Reader") hts k_3_73 k_1_7 k_3_70 k_3_72 k_0_1 (by decide +kernel) ⟨Nat.le_of_ble_eq_true rfl, Nat.le_of_ble_eq_true rfl⟩) (j_preV (q0 := 60) (ci := 5) hK hP hD csc csc_all csc_nd cl_5 (ce_60 _ _ _) (fun _ _ _ _ h => h) (fun _ _ _ => trivial)) rfl rfl hl.1 rfl (lv_room (Nat.le_of_ble_eq_true rfl)) d_Reader_lettersFrom_22 ⟨Nat.le_of_ble_eq_true rfl, Nat.le_of_ble_eq_true rfl⟩) (fun rv2 u2 H locs hw2 hP hD hS => ?_)
      have hP : va_P D classes (cW T ad S) H := hP
      have hD : va_D A (cW T ad S) := hD
      have qhw2 : 0 ≤ rv2.toInt ∧ rv2.toInt ≤ 127 ∧ (rv2.toInt = 0 ∨ (0 ≤ i.toInt ∧ i.toInt < (f_xr_length S).toInt ∧ rv2.toInt = ((a_xr_text S) i.toInt.toNat).toInt)) := hw2
      have rrv2 := zt_rng rv2
      refine lv_bipush (v := 122) hx hb d_Reader_lettersFrom_25 (by decide) ?_
      refine lv_icmp_gt (tgt := 36) hx hb d_Reader_lettersFrom_27 (by decide) (fun c27_1 => ?_) (fun c27_1 => ?_)
      · have fc27_1 : 122 < rv2.toInt := zt_lt tI_122 (show rv2.toInt = _ from rfl) c27_1
        refine lv_iload_n hx hb d_Reader_lettersFrom_36 rfl (lv_at hl 0 rfl) ?_
        refine lv_iload_n hx hb d_Reader_lettersFrom_37 rfl (lv_at hl 2 rfl) ?_
        refine lv_isub hx hb d_Reader_lettersFrom_38 ?_
        refine lv_topi (fun x3 ex3 => ?_)
        have fx3 : x3.toInt = (i.toInt - p0.toInt) := by rw [ex3]; exact (zt_sub (show i.toInt = _ from rfl) (show p0.toInt = _ from rfl) (by omega) (by omega)).trans (by omega)
        exact j_iret F hr hlocks hK hS () (show 0 ≤ x3.toInt ∧ (x3.toInt = 0 ∨ p0.toInt + x3.toInt ≤ (f_xr_length S).toInt) by omega) hP hD d_Reader_lettersFrom_39
      · have fc27_1 : rv2.toInt ≤ 122 := Int.not_lt.mp (zt_nlt tI_122 (show rv2.toInt = _ from rfl) c27_1)
        refine lv_iinc (v := (i + 1)) (lv' := [(2, .int (i + 1)), (0, .ref (ad 60)), (1, .int p0)]) hx hb d_Reader_lettersFrom_30 hl (k := 0) rfl (by first | rfl | decide) (by decide) rfl (fun ls hl => ?_)
        obtain ⟨x4, ex4⟩ : ∃ z, z = (i + 1) := ⟨_, rfl⟩
        rw [← ex4] at hl
        have fx4 : x4.toInt = (i.toInt + 1) := by rw [ex4]; exact (zt_add (show i.toInt = _ from rfl) tI_1 (by omega) (by omega)).trans (by omega)
        have hl : lv_has ls 3 [(2, .int x4), (0, .ref (ad 60)), (1, .int p0)] := hl
        refine lv_goto (tgt := 2) hx hb d_Reader_lettersFrom_33 (by decide) ?_
        exact ih (k - 1) x4 _ _ _ (by omega) ⟨(show p0.toInt ≤ x4.toInt ∧ (x4.toInt = p0.toInt ∨ x4.toInt ≤ (f_xr_length S).toInt) ∧ 420 ≤ x4.toInt + (((k - 1) : Nat) : Int) by omega), hP, hD, hS, lv_sub hl [0, 1, 2] rfl⟩
theorem d_Reader_valueOf_0 : decode prog_7_method_17_code 0 = .ok (.iconst 0, 1) := by decide +kernel
theorem d_Reader_valueOf_1 : decode prog_7_method_17_code 1 = .ok (.istore_n 3, 1) := by decide +kernel
theorem d_Reader_valueOf_2 : decode prog_7_method_17_code 2 = .ok (.iload_n 1, 1) := by decide +kernel
theorem d_Reader_valueOf_3 : decode prog_7_method_17_code 3 = .ok (.istore 4, 2) := by decide +kernel
theorem d_Reader_valueOf_5 : decode prog_7_method_17_code 5 = .ok (.iload 4, 2) := by decide +kernel
theorem d_Reader_valueOf_7 : decode prog_7_method_17_code 7 = .ok (.iload_n 1, 1) := by decide +kernel
theorem d_Reader_valueOf_8 : decode prog_7_method_17_code 8 = .ok (.iload_n 2, 1) := by decide +kernel
theorem d_Reader_valueOf_9 : decode prog_7_method_17_code 9 = .ok (.iadd, 1) := by decide +kernel
theorem d_Reader_valueOf_10 : decode prog_7_method_17_code 10 = .ok (.if_icmp .ge 24, 3) := by decide +kernel
theorem d_Reader_valueOf_34 : decode prog_7_method_17_code 34 = .ok (.iload_n 3, 1) := by decide +kernel
theorem d_Reader_valueOf_35 : decode prog_7_method_17_code 35 = .ok (.ireturn, 1) := by decide +kernel
theorem d_Reader_valueOf_13 : decode prog_7_method_17_code 13 = .ok (.iload_n 3, 1) := by decide +kernel
theorem d_Reader_valueOf_14 : decode prog_7_method_17_code 14 = .ok (.bipush 10, 2) := by decide +kernel
theorem d_Reader_valueOf_16 : decode prog_7_method_17_code 16 = .ok (.imul, 1) := by decide +kernel
theorem d_Reader_valueOf_17 : decode prog_7_method_17_code 17 = .ok (.aload_n 0, 1) := by decide +kernel
theorem d_Reader_valueOf_18 : decode prog_7_method_17_code 18 = .ok (.iload 4, 2) := by decide +kernel
theorem d_Reader_valueOf_20 : decode prog_7_method_17_code 20 = .ok (.invokevirtual 53, 3) := by decide +kernel
theorem d_Reader_valueOf_23 : decode prog_7_method_17_code 23 = .ok (.bipush 48, 2) := by decide +kernel
theorem d_Reader_valueOf_25 : decode prog_7_method_17_code 25 = .ok (.isub, 1) := by decide +kernel
theorem d_Reader_valueOf_26 : decode prog_7_method_17_code 26 = .ok (.iadd, 1) := by decide +kernel
theorem d_Reader_valueOf_27 : decode prog_7_method_17_code 27 = .ok (.istore_n 3, 1) := by decide +kernel
theorem d_Reader_valueOf_28 : decode prog_7_method_17_code 28 = .ok (.iinc 4 1, 3) := by decide +kernel
theorem d_Reader_valueOf_31 : decode prog_7_method_17_code 31 = .ok (.goto (-26), 3) := by decide +kernel
set_option maxHeartbeats 4000000 in
set_option maxRecDepth 100000 in
theorem c_Reader_valueOf (l : Launch) (D : va_G) (T : Nat → ClassId) (ad : Nat → Nat) (S : CS) (p0 : Int32) (p1 : Int32) (sz : Nat)  (hI : CIv S) (h1 : 0 ≤ p0.toInt ∧ 0 ≤ p1.toInt ∧ p0.toInt + p1.toInt ≤ 1000) : Met l ⟨"PageScribe$Reader", "valueOf", "(II)I"⟩ (wy ⟨"PageScribe$Reader", "valueOf", "(II)I"⟩ prog_7_method_17_code 5 (some .int)) ({ frames := 1, cells := 0, slots := 0, locals := 70 }) (va_Pc [.ref (ad 60), .int p0, .int p1] (Pw D T (cW T ad S) sz E0)) (va_Qi (fun (r : Int32) (u : Unit) => True) (fun u t => Bw D T (va_A (cW T ad S) sz) (cW T ad S) t) (va_A (cW T ad S) sz)) 0 0 (va_A (cW T ad S) sz) := by
  refine j_met (y := ⟨"PageScribe$Reader", "valueOf", "(II)I"⟩) (b := prog_7_method_17_code) (n := 5) (ret := (some .int)) (av := [.ref (ad 60), .int p0, .int p1]) (Qc := fun A => va_Qi (fun (r : Int32) (u : Unit) => True) (fun u t => Bw D T A (cW T ad S) t) A) (by decide +kernel) (Nat.le_of_ble_eq_true rfl) (fun p e s m args below meth c A ls F hr hlocks hnm hK hP hD hS hA hN hE hl => ?_)
  obtain ⟨hx, hb, hml, hown, hts⟩ := id F
  have hl : lv_has ls 5 [(0, .ref (ad 60)), (1, .int p0), (2, .int p1)] := hl
  obtain ⟨i_vst, i_vc0, i_vc1, i_vc2, i_vc3, i_vv0, i_vv1, i_vv2, i_vv3, i_vg, i_wct, i_wln, i_sd0, i_sd1, i_sd2, i_sd3, i_rln, i_rtx, i_rpl, i_rtk, i_cnv, i_pts, i_cik, i_und⟩ := id hI
  have rp0 := zt_rng p0
  have rp1 := zt_rng p1
  refine lv_iconst (v := 0) hx hb d_Reader_valueOf_0 (by decide) ?_
  refine lv_istore_n (lv' := [(3, .int 0), (0, .ref (ad 60)), (1, .int p0), (2, .int p1)]) hx hb d_Reader_valueOf_1 rfl hl (by decide) rfl (fun ls hl => ?_)
  refine lv_iload_n hx hb d_Reader_valueOf_2 rfl (lv_at hl 2 rfl) ?_
  refine lv_istore (lv' := [(4, .int p0), (3, .int 0), (0, .ref (ad 60)), (1, .int p0), (2, .int p1)]) hx hb d_Reader_valueOf_3 hl (by decide) rfl (fun ls hl => ?_)
  refine j_loop (α := Int32 × Int32) (fun k x H locs ls => (p0.toInt ≤ x.2.toInt ∧ x.2.toInt ≤ p0.toInt + p1.toInt ∧ p0.toInt + p1.toInt ≤ x.2.toInt + ((k : Nat) : Int)) ∧ va_P D classes (cW T ad S) H ∧ va_D A (cW T ad S) ∧ va_S A s.heap H locs ∧ lv_has ls 5 [(4, .int x.2), (3, .int x.1), (0, .ref (ad 60)), (1, .int p0), (2, .int p1)]) (fun _ _ ls => F0 m 5 ls []) (fun k x H locs ls hI9 ih => ?_) 1000 ((0 : Int32), p0) _ _ _ ⟨(show p0.toInt ≤ p0.toInt ∧ p0.toInt ≤ p0.toInt + p1.toInt ∧ p0.toInt + p1.toInt ≤ p0.toInt + ((1000 : Nat) : Int) by have := tI_0; omega), hP, hD, hS, lv_sub hl [0, 1, 2, 3, 4] rfl⟩
  obtain ⟨v, i⟩ := x
  obtain ⟨hf1, hP, hD, hS, hl⟩ := hI9
  have hf1 : p0.toInt ≤ i.toInt ∧ i.toInt ≤ p0.toInt + p1.toInt ∧ p0.toInt + p1.toInt ≤ i.toInt + ((k : Nat) : Int) := hf1
  have hP : va_P D classes (cW T ad S) H := hP
  have hD : va_D A (cW T ad S) := hD
  have hl : lv_has ls 5 [(4, .int i), (3, .int v), (0, .ref (ad 60)), (1, .int p0), (2, .int p1)] := hl
  refine lv_iload hx hb d_Reader_valueOf_5 (lv_at hl 0 rfl) ?_
  refine lv_iload_n hx hb d_Reader_valueOf_7 rfl (lv_at hl 3 rfl) ?_
  refine lv_iload_n hx hb d_Reader_valueOf_8 rfl (lv_at hl 4 rfl) ?_
  refine lv_iadd hx hb d_Reader_valueOf_9 ?_
  refine lv_topi (fun x1 ex1 => ?_)
  have fx1 : x1.toInt = (p0.toInt + p1.toInt) := by rw [ex1]; exact (zt_add (show p0.toInt = _ from rfl) (show p1.toInt = _ from rfl) (by omega) (by omega)).trans (by omega)
  refine lv_icmp_ge (tgt := 34) hx hb d_Reader_valueOf_10 (by decide) (fun c10_1 => ?_) (fun c10_1 => ?_)
  · have fc10_1 : (p0.toInt + p1.toInt) ≤ i.toInt := zt_le fx1 (show i.toInt = _ from rfl) c10_1
    refine lv_iload_n hx hb d_Reader_valueOf_34 rfl (lv_at hl 1 rfl) ?_
    exact j_iret F hr hlocks hK hS () trivial hP hD d_Reader_valueOf_35
  · have fc10_1 : i.toInt < (p0.toInt + p1.toInt) := Int.not_le.mp (zt_nle fx1 (show i.toInt = _ from rfl) c10_1)
    refine lv_iload_n hx hb d_Reader_valueOf_13 rfl (lv_at hl 1 rfl) ?_
    refine lv_bipush (v := 10) hx hb d_Reader_valueOf_14 (by decide) ?_
    refine lv_imul hx hb d_Reader_valueOf_16 ?_
    refine lv_topi (fun x2 ex2 => ?_)
    have rx2 := zt_rng x2
    refine lv_aload_n hx hb d_Reader_valueOf_17 rfl (lv_at hl 2 rfl) ?_
    refine lv_iload hx hb d_Reader_valueOf_18 (lv_at hl 0 rfl) ?_
    refine jc_ci (w := (fun _ => S)) hK hP hD hS hA (va_runV (As := [.int i]) (rest := [.int x2]) F (c_Reader_charAt l D T ad S i  H.size ⟨i_vst, i_vc0, i_vc1, i_vc2, i_vc3, i_vv0, i_vv1, i_vv2, i_vv3, i_vg, i_wct, i_wln, i_sd0, i_sd1, i_sd2, i_sd3, i_rln, i_rtx, i_rpl, i_rtk, i_cnv, i_pts, i_cik, i_und⟩) (j_cV (k := 1) (C := "PageScribe$Reader") hts k_3_73 k_1_7 k_3_70 k_3_72 k_0_1 (by decide +kernel) ⟨Nat.le_of_ble_eq_true rfl, Nat.le_of_ble_eq_true rfl⟩) (j_preV (q0 := 60) (ci := 5) hK hP hD csc csc_all csc_nd cl_5 (ce_60 _ _ _) (fun _ _ _ _ h => h) (fun _ _ _ => trivial)) rfl rfl hl.1 rfl (lv_room (Nat.le_of_ble_eq_true rfl)) d_Reader_valueOf_20 ⟨Nat.le_of_ble_eq_true rfl, Nat.le_of_ble_eq_true rfl⟩) (fun rv1 u1 H locs hw1 hP hD hS => ?_)
    have hP : va_P D classes (cW T ad S) H := hP
    have hD : va_D A (cW T ad S) := hD
    have qhw1 : 0 ≤ rv1.toInt ∧ rv1.toInt ≤ 127 ∧ (rv1.toInt = 0 ∨ (0 ≤ i.toInt ∧ i.toInt < (f_xr_length S).toInt ∧ rv1.toInt = ((a_xr_text S) i.toInt.toNat).toInt)) := hw1
    have rrv1 := zt_rng rv1
    refine lv_bipush (v := 48) hx hb d_Reader_valueOf_23 (by decide) ?_
    refine lv_isub hx hb d_Reader_valueOf_25 ?_
    refine lv_topi (fun x3 ex3 => ?_)
    have rx3 := zt_rng x3
    refine lv_iadd hx hb d_Reader_valueOf_26 ?_
    refine lv_topi (fun x4 ex4 => ?_)
    have rx4 := zt_rng x4
    refine lv_istore_n (lv' := [(3, .int x4), (4, .int i), (0, .ref (ad 60)), (1, .int p0), (2, .int p1)]) hx hb d_Reader_valueOf_27 rfl hl (by decide) rfl (fun ls hl => ?_)
    refine lv_iinc (v := (i + 1)) (lv' := [(4, .int (i + 1)), (3, .int x4), (0, .ref (ad 60)), (1, .int p0), (2, .int p1)]) hx hb d_Reader_valueOf_28 hl (k := 1) rfl (by first | rfl | decide) (by decide) rfl (fun ls hl => ?_)
    obtain ⟨x5, ex5⟩ : ∃ z, z = (i + 1) := ⟨_, rfl⟩
    rw [← ex5] at hl
    have fx5 : x5.toInt = (i.toInt + 1) := by rw [ex5]; exact (zt_add (show i.toInt = _ from rfl) tI_1 (by omega) (by omega)).trans (by omega)
    have hl : lv_has ls 5 [(4, .int x5), (3, .int x4), (0, .ref (ad 60)), (1, .int p0), (2, .int p1)] := hl
    refine lv_goto (tgt := 5) hx hb d_Reader_valueOf_31 (by decide) ?_
    exact ih (k - 1) (x4, x5) _ _ _ (by omega) ⟨(show p0.toInt ≤ x5.toInt ∧ x5.toInt ≤ p0.toInt + p1.toInt ∧ p0.toInt + p1.toInt ≤ x5.toInt + (((k - 1) : Nat) : Int) by omega), hP, hD, hS, lv_sub hl [0, 1, 2, 3, 4] rfl⟩
theorem d_Reader_scaleOf_0 : decode prog_7_method_13_code 0 = .ok (.iload_n 0, 1) := by decide +kernel
theorem d_Reader_scaleOf_1 : decode prog_7_method_13_code 1 = .ok (.tableswitch 39 1 3 #[27, 31, 35], 27) := by decide +kernel
theorem d_Reader_scaleOf_28 : decode prog_7_method_13_code 28 = .ok (.ldc2_w 123, 3) := by decide +kernel
theorem k_3_135 : Cond.constantDouble "PageScribe$Reader" 123 (4621819117588971520 : UInt64) ∈ gw := gw_of (tb_3 (List.mem_of_getElem? (i := 135) (by decide +kernel))) (by decide +kernel)
theorem d_Reader_scaleOf_31 : decode prog_7_method_13_code 31 = .ok (.dreturn, 1) := by decide +kernel
theorem d_Reader_scaleOf_32 : decode prog_7_method_13_code 32 = .ok (.ldc2_w 125, 3) := by decide +kernel
theorem k_3_136 : Cond.constantDouble "PageScribe$Reader" 125 (4636737291354636288 : UInt64) ∈ gw := gw_of (tb_3 (List.mem_of_getElem? (i := 136) (by decide +kernel))) (by decide +kernel)
theorem d_Reader_scaleOf_35 : decode prog_7_method_13_code 35 = .ok (.dreturn, 1) := by decide +kernel
theorem d_Reader_scaleOf_36 : decode prog_7_method_13_code 36 = .ok (.ldc2_w 127, 3) := by decide +kernel
theorem k_3_137 : Cond.constantDouble "PageScribe$Reader" 127 (4652007308841189376 : UInt64) ∈ gw := gw_of (tb_3 (List.mem_of_getElem? (i := 137) (by decide +kernel))) (by decide +kernel)
theorem d_Reader_scaleOf_39 : decode prog_7_method_13_code 39 = .ok (.dreturn, 1) := by decide +kernel
theorem d_Reader_scaleOf_40 : decode prog_7_method_13_code 40 = .ok (.ldc2_w 129, 3) := by decide +kernel
theorem k_3_138 : Cond.constantDouble "PageScribe$Reader" 129 (4666723172467343360 : UInt64) ∈ gw := gw_of (tb_3 (List.mem_of_getElem? (i := 138) (by decide +kernel))) (by decide +kernel)
theorem d_Reader_scaleOf_43 : decode prog_7_method_13_code 43 = .ok (.dreturn, 1) := by decide +kernel
set_option maxHeartbeats 4000000 in
set_option maxRecDepth 100000 in
theorem c_Reader_scaleOf (l : Launch) (D : va_G) (T : Nat → ClassId) (p0 : Int32) (sz : Nat)  : Met l ⟨"PageScribe$Reader", "scaleOf", "(I)D"⟩ (wy ⟨"PageScribe$Reader", "scaleOf", "(I)D"⟩ prog_7_method_13_code 1 (some .double)) ({ frames := 0, cells := 0, slots := 0, locals := 0 }) (va_Pc [.int p0] (Pw D T [] sz E0)) (va_Qd (fun (r : UInt64) (u : Unit) => 4621819117588971520 ≤ dk r ∧ dk r ≤ 4666723172467343360) (fun u t => Bw D T (va_A [] sz) [] t) (va_A [] sz)) 0 0 (va_A [] sz) := by
  refine j_met (y := ⟨"PageScribe$Reader", "scaleOf", "(I)D"⟩) (b := prog_7_method_13_code) (n := 1) (ret := (some .double)) (av := [.int p0]) (Qc := fun A => va_Qd (fun (r : UInt64) (u : Unit) => 4621819117588971520 ≤ dk r ∧ dk r ≤ 4666723172467343360) (fun u t => Bw D T A [] t) A) (by decide +kernel) (Nat.le_of_ble_eq_true rfl) (fun p e s m args below meth c A ls F hr hlocks hnm hK hP hD hS hA hN hE hl => ?_)
  obtain ⟨hx, hb, hml, hown, hts⟩ := id F
  have hl : lv_has ls 1 [(0, .int p0)] := hl
  have rp0 := zt_rng p0
  refine lv_iload_n hx hb d_Reader_scaleOf_0 rfl (lv_at hl 0 rfl) ?_
  by_cases h_1_1 : p0.toInt = 1
  · refine lv_tableIn (off := 27) (tgt := 28) hx hb d_Reader_scaleOf_1 (by omega) (by omega) (by rw [show p0.toInt = 1 from h_1_1]; decide +kernel) (by decide) ?_
    refine lv_ldc2d (v := 4621819117588971520) hx hb hown (hts _ k_3_135) d_Reader_scaleOf_28 ?_
    have := tD_4621819117588971520
    exact j_dret F hr hlocks hK hS () (show 4621819117588971520 ≤ dk 4621819117588971520 ∧ dk 4621819117588971520 ≤ 4666723172467343360 by omega) hP hD d_Reader_scaleOf_31
  by_cases h_2_1 : p0.toInt = 2
  · refine lv_tableIn (off := 31) (tgt := 32) hx hb d_Reader_scaleOf_1 (by omega) (by omega) (by rw [show p0.toInt = 2 from h_2_1]; decide +kernel) (by decide) ?_
    refine lv_ldc2d (v := 4636737291354636288) hx hb hown (hts _ k_3_136) d_Reader_scaleOf_32 ?_
    have := tD_4636737291354636288
    exact j_dret F hr hlocks hK hS () (show 4621819117588971520 ≤ dk 4636737291354636288 ∧ dk 4636737291354636288 ≤ 4666723172467343360 by omega) hP hD d_Reader_scaleOf_35
  by_cases h_3_1 : p0.toInt = 3
  · refine lv_tableIn (off := 35) (tgt := 36) hx hb d_Reader_scaleOf_1 (by omega) (by omega) (by rw [show p0.toInt = 3 from h_3_1]; decide +kernel) (by decide) ?_
    refine lv_ldc2d (v := 4652007308841189376) hx hb hown (hts _ k_3_137) d_Reader_scaleOf_36 ?_
    have := tD_4652007308841189376
    exact j_dret F hr hlocks hK hS () (show 4621819117588971520 ≤ dk 4652007308841189376 ∧ dk 4652007308841189376 ≤ 4666723172467343360 by omega) hP hD d_Reader_scaleOf_39
  refine lv_tableOut (tgt := 40) hx hb d_Reader_scaleOf_1 (by omega) (by decide) ?_
  refine lv_ldc2d (v := 4666723172467343360) hx hb hown (hts _ k_3_138) d_Reader_scaleOf_40 ?_
  have := tD_4666723172467343360
  exact j_dret F hr hlocks hK hS () (show 4621819117588971520 ≤ dk 4666723172467343360 ∧ dk 4666723172467343360 ≤ 4666723172467343360 by omega) hP hD d_Reader_scaleOf_43
theorem d_Reader_readNumber_18 : decode prog_7_method_12_code 18 = .ok (.istore_n 1, 1) := by decide +kernel
theorem d_Reader_readNumber_36 : decode prog_7_method_12_code 36 = .ok (.istore_n 2, 1) := by decide +kernel
theorem d_Reader_readNumber_37 : decode prog_7_method_12_code 37 = .ok (.aload_n 0, 1) := by decide +kernel
theorem d_Reader_readNumber_38 : decode prog_7_method_12_code 38 = .ok (.iload_n 2, 1) := by decide +kernel
theorem d_Reader_readNumber_39 : decode prog_7_method_12_code 39 = .ok (.invokevirtual 112, 3) := by decide +kernel
theorem k_3_127 : Cond.code ⟨"PageScribe$Reader", "digitsFrom", "(I)I"⟩ prog_7_method_15_code 3 (some .int) ∈ gw := gw_of (tb_3 (List.mem_of_getElem? (i := 127) (by decide +kernel))) (by decide +kernel)
theorem k_3_124 : Cond.methodLink "PageScribe$Reader" 112 ⟨"PageScribe$Reader", "digitsFrom", "(I)I"⟩ ∈ gw := gw_of (tb_3 (List.mem_of_getElem? (i := 124) (by decide +kernel))) (by decide +kernel)
theorem k_3_126 : Cond.instanceMethod ⟨"PageScribe$Reader", "digitsFrom", "(I)I"⟩ ∈ gw := gw_of (tb_3 (List.mem_of_getElem? (i := 126) (by decide +kernel))) (by decide +kernel)
theorem k_0_7 : Cond.selects "PageScribe$Reader" ⟨"PageScribe$Reader", "digitsFrom", "(I)I"⟩ ⟨"PageScribe$Reader", "digitsFrom", "(I)I"⟩ ∈ gw := gw_of (tb_0 (List.mem_of_getElem? (i := 7) (by decide +kernel))) (by decide +kernel)
theorem d_Reader_readNumber_42 : decode prog_7_method_12_code 42 = .ok (.istore_n 3, 1) := by decide +kernel
theorem d_Reader_readNumber_43 : decode prog_7_method_12_code 43 = .ok (.iload_n 3, 1) := by decide +kernel
theorem d_Reader_readNumber_44 : decode prog_7_method_12_code 44 = .ok (.ifCond .eq 9, 3) := by decide +kernel
theorem d_Reader_readNumber_53 : decode prog_7_method_12_code 53 = .ok (.bipush 15, 2) := by decide +kernel
theorem d_Reader_readNumber_55 : decode prog_7_method_12_code 55 = .ok (.ireturn, 1) := by decide +kernel
theorem d_Reader_readNumber_47 : decode prog_7_method_12_code 47 = .ok (.iload_n 3, 1) := by decide +kernel
theorem d_Reader_readNumber_48 : decode prog_7_method_12_code 48 = .ok (.bipush 9, 2) := by decide +kernel
theorem d_Reader_readNumber_50 : decode prog_7_method_12_code 50 = .ok (.if_icmp .le 6, 3) := by decide +kernel
theorem d_Reader_readNumber_56 : decode prog_7_method_12_code 56 = .ok (.aload_n 0, 1) := by decide +kernel
theorem d_Reader_readNumber_57 : decode prog_7_method_12_code 57 = .ok (.iload_n 2, 1) := by decide +kernel
theorem d_Reader_readNumber_58 : decode prog_7_method_12_code 58 = .ok (.iload_n 3, 1) := by decide +kernel
theorem d_Reader_readNumber_59 : decode prog_7_method_12_code 59 = .ok (.invokevirtual 115, 3) := by decide +kernel
theorem k_3_131 : Cond.code ⟨"PageScribe$Reader", "valueOf", "(II)I"⟩ prog_7_method_17_code 5 (some .int) ∈ gw := gw_of (tb_3 (List.mem_of_getElem? (i := 131) (by decide +kernel))) (by decide +kernel)
theorem k_3_128 : Cond.methodLink "PageScribe$Reader" 115 ⟨"PageScribe$Reader", "valueOf", "(II)I"⟩ ∈ gw := gw_of (tb_3 (List.mem_of_getElem? (i := 128) (by decide +kernel))) (by decide +kernel)
theorem k_3_130 : Cond.instanceMethod ⟨"PageScribe$Reader", "valueOf", "(II)I"⟩ ∈ gw := gw_of (tb_3 (List.mem_of_getElem? (i := 130) (by decide +kernel))) (by decide +kernel)
theorem k_0_8 : Cond.selects "PageScribe$Reader" ⟨"PageScribe$Reader", "valueOf", "(II)I"⟩ ⟨"PageScribe$Reader", "valueOf", "(II)I"⟩ ∈ gw := gw_of (tb_0 (List.mem_of_getElem? (i := 8) (by decide +kernel))) (by decide +kernel)
theorem d_Reader_readNumber_62 : decode prog_7_method_12_code 62 = .ok (.istore 4, 2) := by decide +kernel
theorem d_Reader_readNumber_64 : decode prog_7_method_12_code 64 = .ok (.iload_n 2, 1) := by decide +kernel
theorem d_Reader_readNumber_65 : decode prog_7_method_12_code 65 = .ok (.iload_n 3, 1) := by decide +kernel
theorem d_Reader_readNumber_66 : decode prog_7_method_12_code 66 = .ok (.iadd, 1) := by decide +kernel
theorem d_Reader_readNumber_67 : decode prog_7_method_12_code 67 = .ok (.istore 5, 2) := by decide +kernel
theorem d_Reader_readNumber_92 : decode prog_7_method_12_code 92 = .ok (.istore 6, 2) := by decide +kernel
theorem d_Reader_readNumber_94 : decode prog_7_method_12_code 94 = .ok (.iload 6, 2) := by decide +kernel
theorem d_Reader_readNumber_96 : decode prog_7_method_12_code 96 = .ok (.iconst 4, 1) := by decide +kernel
theorem d_Reader_readNumber_97 : decode prog_7_method_12_code 97 = .ok (.if_icmp .le 6, 3) := by decide +kernel
theorem d_Reader_readNumber_103 : decode prog_7_method_12_code 103 = .ok (.iload 6, 2) := by decide +kernel
theorem d_Reader_readNumber_105 : decode prog_7_method_12_code 105 = .ok (.ifCond .ne 29, 3) := by decide +kernel
theorem d_Reader_readNumber_134 : decode prog_7_method_12_code 134 = .ok (.aload_n 0, 1) := by decide +kernel
theorem d_Reader_readNumber_135 : decode prog_7_method_12_code 135 = .ok (.iload 5, 2) := by decide +kernel
theorem d_Reader_readNumber_137 : decode prog_7_method_12_code 137 = .ok (.iconst 1, 1) := by decide +kernel
theorem d_Reader_readNumber_138 : decode prog_7_method_12_code 138 = .ok (.iadd, 1) := by decide +kernel
theorem d_Reader_readNumber_139 : decode prog_7_method_12_code 139 = .ok (.iload 6, 2) := by decide +kernel
theorem d_Reader_readNumber_141 : decode prog_7_method_12_code 141 = .ok (.iadd, 1) := by decide +kernel
theorem d_Reader_readNumber_142 : decode prog_7_method_12_code 142 = .ok (.putfield 19, 3) := by decide +kernel
theorem d_Reader_readNumber_145 : decode prog_7_method_12_code 145 = .ok (.iload 4, 2) := by decide +kernel
theorem d_Reader_readNumber_147 : decode prog_7_method_12_code 147 = .ok (.i2d, 1) := by decide +kernel
theorem d_Reader_readNumber_148 : decode prog_7_method_12_code 148 = .ok (.aload_n 0, 1) := by decide +kernel
theorem d_Reader_readNumber_149 : decode prog_7_method_12_code 149 = .ok (.iload 5, 2) := by decide +kernel
theorem d_Reader_readNumber_151 : decode prog_7_method_12_code 151 = .ok (.iconst 1, 1) := by decide +kernel
theorem d_Reader_readNumber_152 : decode prog_7_method_12_code 152 = .ok (.iadd, 1) := by decide +kernel
theorem d_Reader_readNumber_153 : decode prog_7_method_12_code 153 = .ok (.iload 6, 2) := by decide +kernel
theorem d_Reader_readNumber_155 : decode prog_7_method_12_code 155 = .ok (.invokevirtual 115, 3) := by decide +kernel
theorem d_Reader_readNumber_158 : decode prog_7_method_12_code 158 = .ok (.i2d, 1) := by decide +kernel
theorem d_Reader_readNumber_159 : decode prog_7_method_12_code 159 = .ok (.iload 6, 2) := by decide +kernel
theorem d_Reader_readNumber_161 : decode prog_7_method_12_code 161 = .ok (.invokestatic 119, 3) := by decide +kernel
theorem k_3_134 : Cond.code ⟨"PageScribe$Reader", "scaleOf", "(I)D"⟩ prog_7_method_13_code 1 (some .double) ∈ gw := gw_of (tb_3 (List.mem_of_getElem? (i := 134) (by decide +kernel))) (by decide +kernel)
theorem k_3_132 : Cond.methodLink "PageScribe$Reader" 119 ⟨"PageScribe$Reader", "scaleOf", "(I)D"⟩ ∈ gw := gw_of (tb_3 (List.mem_of_getElem? (i := 132) (by decide +kernel))) (by decide +kernel)
theorem k_3_133 : Cond.static ⟨"PageScribe$Reader", "scaleOf", "(I)D"⟩ ∈ gw := gw_of (tb_3 (List.mem_of_getElem? (i := 133) (by decide +kernel))) (by decide +kernel)
theorem d_Reader_readNumber_164 : decode prog_7_method_12_code 164 = .ok (.ddiv, 1) := by decide +kernel
theorem d_Reader_readNumber_165 : decode prog_7_method_12_code 165 = .ok (.dadd, 1) := by decide +kernel
theorem d_Reader_readNumber_166 : decode prog_7_method_12_code 166 = .ok (.dstore 7, 2) := by decide +kernel
theorem d_Reader_readNumber_168 : decode prog_7_method_12_code 168 = .ok (.aload_n 0, 1) := by decide +kernel
theorem d_Reader_readNumber_169 : decode prog_7_method_12_code 169 = .ok (.iconst 1, 1) := by decide +kernel
theorem d_Reader_readNumber_170 : decode prog_7_method_12_code 170 = .ok (.iconst 0, 1) := by decide +kernel
theorem d_Reader_readNumber_184 : decode prog_7_method_12_code 184 = .ok (.invokevirtual 85, 3) := by decide +kernel
theorem k_3_112 : Cond.code ⟨"PageScribe$Reader", "giveToken", "(IID)V"⟩ prog_7_method_9_code 5 none ∈ gw := gw_of (tb_3 (List.mem_of_getElem? (i := 112) (by decide +kernel))) (by decide +kernel)
theorem k_3_109 : Cond.methodLink "PageScribe$Reader" 85 ⟨"PageScribe$Reader", "giveToken", "(IID)V"⟩ ∈ gw := gw_of (tb_3 (List.mem_of_getElem? (i := 109) (by decide +kernel))) (by decide +kernel)
theorem k_3_111 : Cond.instanceMethod ⟨"PageScribe$Reader", "giveToken", "(IID)V"⟩ ∈ gw := gw_of (tb_3 (List.mem_of_getElem? (i := 111) (by decide +kernel))) (by decide +kernel)
theorem k_0_4 : Cond.selects "PageScribe$Reader" ⟨"PageScribe$Reader", "giveToken", "(IID)V"⟩ ⟨"PageScribe$Reader", "giveToken", "(IID)V"⟩ ∈ gw := gw_of (tb_0 (List.mem_of_getElem? (i := 4) (by decide +kernel))) (by decide +kernel)
theorem d_Reader_readNumber_187 : decode prog_7_method_12_code 187 = .ok (.iconst 0, 1) := by decide +kernel
theorem d_Reader_readNumber_188 : decode prog_7_method_12_code 188 = .ok (.ireturn, 1) := by decide +kernel
theorem d_Reader_readNumber_171 : decode prog_7_method_12_code 171 = .ok (.iload_n 1, 1) := by decide +kernel
theorem d_Reader_readNumber_172 : decode prog_7_method_12_code 172 = .ok (.ifCond .eq 10, 3) := by decide +kernel
theorem d_Reader_readNumber_182 : decode prog_7_method_12_code 182 = .ok (.dload 7, 2) := by decide +kernel
theorem d_Reader_readNumber_175 : decode prog_7_method_12_code 175 = .ok (.dconst 0, 1) := by decide +kernel
theorem d_Reader_readNumber_176 : decode prog_7_method_12_code 176 = .ok (.dload 7, 2) := by decide +kernel
theorem d_Reader_readNumber_178 : decode prog_7_method_12_code 178 = .ok (.dsub, 1) := by decide +kernel
theorem d_Reader_readNumber_179 : decode prog_7_method_12_code 179 = .ok (.goto 5, 3) := by decide +kernel
theorem d_Reader_readNumber_108 : decode prog_7_method_12_code 108 = .ok (.aload_n 0, 1) := by decide +kernel
theorem d_Reader_readNumber_109 : decode prog_7_method_12_code 109 = .ok (.iload 5, 2) := by decide +kernel
theorem d_Reader_readNumber_111 : decode prog_7_method_12_code 111 = .ok (.putfield 19, 3) := by decide +kernel
theorem d_Reader_readNumber_114 : decode prog_7_method_12_code 114 = .ok (.aload_n 0, 1) := by decide +kernel
theorem d_Reader_readNumber_115 : decode prog_7_method_12_code 115 = .ok (.iconst 0, 1) := by decide +kernel
theorem d_Reader_readNumber_128 : decode prog_7_method_12_code 128 = .ok (.dconst 0, 1) := by decide +kernel
theorem d_Reader_readNumber_129 : decode prog_7_method_12_code 129 = .ok (.invokevirtual 85, 3) := by decide +kernel
theorem d_Reader_readNumber_132 : decode prog_7_method_12_code 132 = .ok (.iconst 0, 1) := by decide +kernel
theorem d_Reader_readNumber_133 : decode prog_7_method_12_code 133 = .ok (.ireturn, 1) := by decide +kernel
theorem d_Reader_readNumber_116 : decode prog_7_method_12_code 116 = .ok (.iload_n 1, 1) := by decide +kernel
theorem d_Reader_readNumber_117 : decode prog_7_method_12_code 117 = .ok (.ifCond .eq 9, 3) := by decide +kernel
theorem d_Reader_readNumber_126 : decode prog_7_method_12_code 126 = .ok (.iload 4, 2) := by decide +kernel
theorem d_Reader_readNumber_120 : decode prog_7_method_12_code 120 = .ok (.iload 4, 2) := by decide +kernel
theorem d_Reader_readNumber_122 : decode prog_7_method_12_code 122 = .ok (.ineg, 1) := by decide +kernel
theorem d_Reader_readNumber_123 : decode prog_7_method_12_code 123 = .ok (.goto 5, 3) := by decide +kernel
theorem d_Reader_readNumber_100 : decode prog_7_method_12_code 100 = .ok (.bipush 15, 2) := by decide +kernel
theorem d_Reader_readNumber_102 : decode prog_7_method_12_code 102 = .ok (.ireturn, 1) := by decide +kernel
theorem d_Reader_readNumber_69 : decode prog_7_method_12_code 69 = .ok (.aload_n 0, 1) := by decide +kernel
theorem d_Reader_readNumber_70 : decode prog_7_method_12_code 70 = .ok (.iload 5, 2) := by decide +kernel
theorem d_Reader_readNumber_72 : decode prog_7_method_12_code 72 = .ok (.invokevirtual 53, 3) := by decide +kernel
theorem d_Reader_readNumber_75 : decode prog_7_method_12_code 75 = .ok (.bipush 46, 2) := by decide +kernel
theorem d_Reader_readNumber_77 : decode prog_7_method_12_code 77 = .ok (.if_icmp .ne 14, 3) := by decide +kernel
theorem d_Reader_readNumber_91 : decode prog_7_method_12_code 91 = .ok (.iconst 0, 1) := by decide +kernel
theorem d_Reader_readNumber_80 : decode prog_7_method_12_code 80 = .ok (.aload_n 0, 1) := by decide +kernel
theorem d_Reader_readNumber_81 : decode prog_7_method_12_code 81 = .ok (.iload 5, 2) := by decide +kernel
theorem d_Reader_readNumber_83 : decode prog_7_method_12_code 83 = .ok (.iconst 1, 1) := by decide +kernel
theorem d_Reader_readNumber_84 : decode prog_7_method_12_code 84 = .ok (.iadd, 1) := by decide +kernel
theorem d_Reader_readNumber_85 : decode prog_7_method_12_code 85 = .ok (.invokevirtual 112, 3) := by decide +kernel
theorem d_Reader_readNumber_88 : decode prog_7_method_12_code 88 = .ok (.goto 4, 3) := by decide +kernel
theorem d_Reader_readNumber_19 : decode prog_7_method_12_code 19 = .ok (.iload_n 1, 1) := by decide +kernel
theorem d_Reader_readNumber_20 : decode prog_7_method_12_code 20 = .ok (.ifCond .eq 12, 3) := by decide +kernel
theorem d_Reader_readNumber_32 : decode prog_7_method_12_code 32 = .ok (.aload_n 0, 1) := by decide +kernel
theorem d_Reader_readNumber_33 : decode prog_7_method_12_code 33 = .ok (.getfield 19, 3) := by decide +kernel
theorem d_Reader_readNumber_23 : decode prog_7_method_12_code 23 = .ok (.aload_n 0, 1) := by decide +kernel
theorem d_Reader_readNumber_24 : decode prog_7_method_12_code 24 = .ok (.getfield 19, 3) := by decide +kernel
theorem d_Reader_readNumber_27 : decode prog_7_method_12_code 27 = .ok (.iconst 1, 1) := by decide +kernel
theorem d_Reader_readNumber_28 : decode prog_7_method_12_code 28 = .ok (.iadd, 1) := by decide +kernel
theorem d_Reader_readNumber_29 : decode prog_7_method_12_code 29 = .ok (.goto 7, 3) := by decide +kernel
theorem d_Reader_readNumber_0 : decode prog_7_method_12_code 0 = .ok (.aload_n 0, 1) := by decide +kernel
theorem d_Reader_readNumber_1 : decode prog_7_method_12_code 1 = .ok (.aload_n 0, 1) := by decide +kernel
theorem d_Reader_readNumber_2 : decode prog_7_method_12_code 2 = .ok (.getfield 19, 3) := by decide +kernel
theorem d_Reader_readNumber_5 : decode prog_7_method_12_code 5 = .ok (.invokevirtual 53, 3) := by decide +kernel
theorem d_Reader_readNumber_8 : decode prog_7_method_12_code 8 = .ok (.bipush 45, 2) := by decide +kernel
theorem d_Reader_readNumber_10 : decode prog_7_method_12_code 10 = .ok (.if_icmp .ne 7, 3) := by decide +kernel
theorem d_Reader_readNumber_17 : decode prog_7_method_12_code 17 = .ok (.iconst 0, 1) := by decide +kernel
theorem d_Reader_readNumber_13 : decode prog_7_method_12_code 13 = .ok (.iconst 1, 1) := by decide +kernel
theorem d_Reader_readNumber_14 : decode prog_7_method_12_code 14 = .ok (.goto 4, 3) := by decide +kernel
set_option maxHeartbeats 4000000 in
set_option maxRecDepth 100000 in
theorem c_Reader_readNumber (l : Launch) (D : va_G) (T : Nat → ClassId) (ad : Nat → Nat) (S : CS)  (sz : Nat)  (hI : CIv S) (h1 : 0 ≤ (f_xr_place S).toInt ∧ (f_xr_place S).toInt < (f_xr_length S).toInt) : Met l ⟨"PageScribe$Reader", "readNumber", "()I"⟩ (wy ⟨"PageScribe$Reader", "readNumber", "()I"⟩ prog_7_method_12_code 9 (some .int)) ({ frames := 2, cells := 0, slots := 0, locals := 140 }) (va_Pc [.ref (ad 60)] (Pw D T (cW T ad S) sz E0)) (va_Qi (fun (r : Int32) (u : CS) => CIv u ∧ kcL S u ∧ kcU S u ∧ kcW S u) (fun u t => Bw D T (va_A (cW T ad S) sz) (cW T ad u) t) (va_A (cW T ad S) sz)) 0 0 (va_A (cW T ad S) sz) := by
  refine j_met (y := ⟨"PageScribe$Reader", "readNumber", "()I"⟩) (b := prog_7_method_12_code) (n := 9) (ret := (some .int)) (av := [.ref (ad 60)]) (Qc := fun A => va_Qi (fun (r : Int32) (u : CS) => CIv u ∧ kcL S u ∧ kcU S u ∧ kcW S u) (fun u t => Bw D T A (cW T ad u) t) A) (by decide +kernel) (Nat.le_of_ble_eq_true rfl) (fun p e s m args below meth c A ls F hr hlocks hnm hK hP hD hS hA hN hE hl => ?_)
  obtain ⟨hx, hb, hml, hown, hts⟩ := id F
  have hl : lv_has ls 9 [(0, .ref (ad 60))] := hl
  obtain ⟨i_vst, i_vc0, i_vc1, i_vc2, i_vc3, i_vv0, i_vv1, i_vv2, i_vv3, i_vg, i_wct, i_wln, i_sd0, i_sd1, i_sd2, i_sd3, i_rln, i_rtx, i_rpl, i_rtk, i_cnv, i_pts, i_cik, i_und⟩ := id hI
  refine j_joinH (α := Int32) (fun x H locs ls => (True) ∧ va_P D classes (cW T ad S) H ∧ va_D A (cW T ad S) ∧ va_S A s.heap H locs ∧ lv_has ls 9 [(0, .ref (ad 60))]) (fun x ls => F0 m 18 ls (.int x :: [])) (fun x H locs ls hI9 => ?_) (fun key1 => ?_)
  · obtain ⟨j1, rfl⟩ : ∃ z, z = x := ⟨_, rfl⟩
    obtain ⟨hj1, hP, hD, hS, hl⟩ := hI9
    have hP : va_P D classes (cW T ad S) H := hP
    have hD : va_D A (cW T ad S) := hD
    have hl : lv_has ls 9 [(0, .ref (ad 60))] := hl
    refine lv_istore_n (lv' := [(1, .int j1), (0, .ref (ad 60))]) hx hb d_Reader_readNumber_18 rfl hl (by decide) rfl (fun ls hl => ?_)
    refine j_joinH (α := Int32) (fun x H locs ls => ((f_xr_place S).toInt ≤ x.toInt ∧ x.toInt ≤ (f_xr_place S).toInt + 1) ∧ va_P D classes (cW T ad S) H ∧ va_D A (cW T ad S) ∧ va_S A s.heap H locs ∧ lv_has ls 9 [(1, .int j1), (0, .ref (ad 60))]) (fun x ls => F0 m 36 ls (.int x :: [])) (fun x H locs ls hI9 => ?_) (fun key2 => ?_)
    · obtain ⟨j2, rfl⟩ : ∃ z, z = x := ⟨_, rfl⟩
      obtain ⟨hj2, hP, hD, hS, hl⟩ := hI9
      have hj2 : (f_xr_place S).toInt ≤ j2.toInt ∧ j2.toInt ≤ (f_xr_place S).toInt + 1 := hj2
      have hP : va_P D classes (cW T ad S) H := hP
      have hD : va_D A (cW T ad S) := hD
      have hl : lv_has ls 9 [(1, .int j1), (0, .ref (ad 60))] := hl
      refine lv_istore_n (lv' := [(2, .int j2), (1, .int j1), (0, .ref (ad 60))]) hx hb d_Reader_readNumber_36 rfl hl (by decide) rfl (fun ls hl => ?_)
      refine lv_aload_n hx hb d_Reader_readNumber_37 rfl (lv_at hl 2 rfl) ?_
      refine lv_iload_n hx hb d_Reader_readNumber_38 rfl (lv_at hl 0 rfl) ?_
      refine jc_ci (w := (fun _ => S)) hK hP hD hS hA (va_runV (As := [.int j2]) (rest := []) F (c_Reader_digitsFrom l D T ad S j2  H.size ⟨i_vst, i_vc0, i_vc1, i_vc2, i_vc3, i_vv0, i_vv1, i_vv2, i_vv3, i_vg, i_wct, i_wln, i_sd0, i_sd1, i_sd2, i_sd3, i_rln, i_rtx, i_rpl, i_rtk, i_cnv, i_pts, i_cik, i_und⟩ (show 0 ≤ j2.toInt ∧ j2.toInt ≤ 420 by omega)) (j_cV (k := 1) (C := "PageScribe$Reader") hts k_3_127 k_1_7 k_3_124 k_3_126 k_0_7 (by decide +kernel) ⟨Nat.le_of_ble_eq_true rfl, Nat.le_of_ble_eq_true rfl⟩) (j_preV (q0 := 60) (ci := 5) hK hP hD csc csc_all csc_nd cl_5 (ce_60 _ _ _) (fun _ _ _ _ h => h) (fun _ _ _ => trivial)) rfl rfl hl.1 rfl (lv_room (Nat.le_of_ble_eq_true rfl)) d_Reader_readNumber_39 ⟨Nat.le_of_ble_eq_true rfl, Nat.le_of_ble_eq_true rfl⟩) (fun rv1 u1 H locs hw1 hP hD hS => ?_)
      have hP : va_P D classes (cW T ad S) H := hP
      have hD : va_D A (cW T ad S) := hD
      have qhw1 : 0 ≤ rv1.toInt ∧ (rv1.toInt = 0 ∨ j2.toInt + rv1.toInt ≤ (f_xr_length S).toInt) := hw1
      have rrv1 := zt_rng rv1
      refine lv_istore_n (lv' := [(3, .int rv1), (2, .int j2), (1, .int j1), (0, .ref (ad 60))]) hx hb d_Reader_readNumber_42 rfl hl (by decide) rfl (fun ls hl => ?_)
      refine lv_iload_n hx hb d_Reader_readNumber_43 rfl (lv_at hl 0 rfl) ?_
      refine lv_if_eq (tgt := 53) hx hb d_Reader_readNumber_44 (by decide) (fun c44_1 => ?_) (fun c44_1 => ?_)
      · have fc44_1 : rv1.toInt = 0 := zt_eq (show rv1.toInt = _ from rfl) tI_0 c44_1
        refine lv_bipush (v := 15) hx hb d_Reader_readNumber_53 (by decide) ?_
        exact j_iret F hr hlocks hK hS S ⟨⟨i_vst, i_vc0, i_vc1, i_vc2, i_vc3, i_vv0, i_vv1, i_vv2, i_vv3, i_vg, i_wct, i_wln, i_sd0, i_sd1, i_sd2, i_sd3, i_rln, i_rtx, i_rpl, i_rtk, i_cnv, i_pts, i_cik, i_und⟩, (kcL_r S), (kcU_r S), (kcW_r S)⟩ hP hD d_Reader_readNumber_55
      · first | have fc44_1 : rv1.toInt < 0 := (by have := zt_ne (show rv1.toInt = _ from rfl) tI_0 c44_1; omega) | have fc44_1 : 0 < rv1.toInt := (by have := zt_ne (show rv1.toInt = _ from rfl) tI_0 c44_1; omega) | skip
        refine lv_iload_n hx hb d_Reader_readNumber_47 rfl (lv_at hl 0 rfl) ?_
        refine lv_bipush (v := 9) hx hb d_Reader_readNumber_48 (by decide) ?_
        refine lv_icmp_le (tgt := 56) hx hb d_Reader_readNumber_50 (by decide) (fun c50_1 => ?_) (fun c50_1 => ?_)
        · have fc50_1 : rv1.toInt ≤ 9 := zt_le (show rv1.toInt = _ from rfl) tI_9 c50_1
          refine lv_aload_n hx hb d_Reader_readNumber_56 rfl (lv_at hl 3 rfl) ?_
          refine lv_iload_n hx hb d_Reader_readNumber_57 rfl (lv_at hl 1 rfl) ?_
          refine lv_iload_n hx hb d_Reader_readNumber_58 rfl (lv_at hl 0 rfl) ?_
          refine jc_ci (w := (fun _ => S)) hK hP hD hS hA (va_runV (As := [.int j2, .int rv1]) (rest := []) F (c_Reader_valueOf l D T ad S j2 rv1  H.size ⟨i_vst, i_vc0, i_vc1, i_vc2, i_vc3, i_vv0, i_vv1, i_vv2, i_vv3, i_vg, i_wct, i_wln, i_sd0, i_sd1, i_sd2, i_sd3, i_rln, i_rtx, i_rpl, i_rtk, i_cnv, i_pts, i_cik, i_und⟩ (show 0 ≤ j2.toInt ∧ 0 ≤ rv1.toInt ∧ j2.toInt + rv1.toInt ≤ 1000 by omega)) (j_cV (k := 2) (C := "PageScribe$Reader") hts k_3_131 k_1_7 k_3_128 k_3_130 k_0_8 (by decide +kernel) ⟨Nat.le_of_ble_eq_true rfl, Nat.le_of_ble_eq_true rfl⟩) (j_preV (q0 := 60) (ci := 5) hK hP hD csc csc_all csc_nd cl_5 (ce_60 _ _ _) (fun _ _ _ _ h => h) (fun _ _ _ => trivial)) rfl rfl hl.1 rfl (lv_room (Nat.le_of_ble_eq_true rfl)) d_Reader_readNumber_59 ⟨Nat.le_of_ble_eq_true rfl, Nat.le_of_ble_eq_true rfl⟩) (fun rv2 u2 H locs hw2 hP hD hS => ?_)
          have hP : va_P D classes (cW T ad S) H := hP
          have hD : va_D A (cW T ad S) := hD
          have rrv2 := zt_rng rv2
          refine lv_istore (lv' := [(4, .int rv2), (3, .int rv1), (2, .int j2), (1, .int j1), (0, .ref (ad 60))]) hx hb d_Reader_readNumber_62 hl (by decide) rfl (fun ls hl => ?_)
          refine lv_iload_n hx hb d_Reader_readNumber_64 rfl (lv_at hl 2 rfl) ?_
          refine lv_iload_n hx hb d_Reader_readNumber_65 rfl (lv_at hl 1 rfl) ?_
          refine lv_iadd hx hb d_Reader_readNumber_66 ?_
          refine lv_topi (fun x1 ex1 => ?_)
          have fx1 : x1.toInt = (j2.toInt + rv1.toInt) := by rw [ex1]; exact (zt_add (show j2.toInt = _ from rfl) (show rv1.toInt = _ from rfl) (by omega) (by omega)).trans (by omega)
          refine lv_istore (lv' := [(5, .int x1), (4, .int rv2), (3, .int rv1), (2, .int j2), (1, .int j1), (0, .ref (ad 60))]) hx hb d_Reader_readNumber_67 hl (by decide) rfl (fun ls hl => ?_)
          refine j_joinH (α := Int32) (fun x H locs ls => (0 ≤ x.toInt ∧ x.toInt ≤ 420) ∧ va_P D classes (cW T ad S) H ∧ va_D A (cW T ad S) ∧ va_S A s.heap H locs ∧ lv_has ls 9 [(5, .int x1), (4, .int rv2), (3, .int rv1), (2, .int j2), (1, .int j1), (0, .ref (ad 60))]) (fun x ls => F0 m 92 ls (.int x :: [])) (fun x H locs ls hI9 => ?_) (fun key3 => ?_)
          · obtain ⟨j3, rfl⟩ : ∃ z, z = x := ⟨_, rfl⟩
            obtain ⟨hj3, hP, hD, hS, hl⟩ := hI9
            have hj3 : 0 ≤ j3.toInt ∧ j3.toInt ≤ 420 := hj3
            have hP : va_P D classes (cW T ad S) H := hP
            have hD : va_D A (cW T ad S) := hD
            have hl : lv_has ls 9 [(5, .int x1), (4, .int rv2), (3, .int rv1), (2, .int j2), (1, .int j1), (0, .ref (ad 60))] := hl
            refine lv_istore (lv' := [(6, .int j3), (5, .int x1), (4, .int rv2), (3, .int rv1), (2, .int j2), (1, .int j1), (0, .ref (ad 60))]) hx hb d_Reader_readNumber_92 hl (by decide) rfl (fun ls hl => ?_)
            refine lv_iload hx hb d_Reader_readNumber_94 (lv_at hl 0 rfl) ?_
            refine lv_iconst (v := 4) hx hb d_Reader_readNumber_96 (by decide) ?_
            refine lv_icmp_le (tgt := 103) hx hb d_Reader_readNumber_97 (by decide) (fun c97_1 => ?_) (fun c97_1 => ?_)
            · have fc97_1 : j3.toInt ≤ 4 := zt_le (show j3.toInt = _ from rfl) tI_4 c97_1
              refine lv_iload hx hb d_Reader_readNumber_103 (lv_at hl 0 rfl) ?_
              refine lv_if_ne (tgt := 134) hx hb d_Reader_readNumber_105 (by decide) (fun c105_1 => ?_) (fun c105_1 => ?_)
              · first | have fc105_1 : j3.toInt < 0 := (by have := zt_ne (show j3.toInt = _ from rfl) tI_0 c105_1; omega) | have fc105_1 : 0 < j3.toInt := (by have := zt_ne (show j3.toInt = _ from rfl) tI_0 c105_1; omega) | skip
                refine lv_aload_n hx hb d_Reader_readNumber_134 rfl (lv_at hl 6 rfl) ?_
                refine lv_iload hx hb d_Reader_readNumber_135 (lv_at hl 1 rfl) ?_
                refine lv_iconst (v := 1) hx hb d_Reader_readNumber_137 (by decide) ?_
                refine lv_iadd hx hb d_Reader_readNumber_138 ?_
                refine lv_topi (fun x2 ex2 => ?_)
                have fx2 : x2.toInt = (j2.toInt + rv1.toInt + 1) := by rw [ex2]; exact (zt_add fx1 tI_1 (by omega) (by omega)).trans (by omega)
                refine lv_iload hx hb d_Reader_readNumber_139 (lv_at hl 0 rfl) ?_
                refine lv_iadd hx hb d_Reader_readNumber_141 ?_
                refine lv_topi (fun x3 ex3 => ?_)
                have fx3 : x3.toInt = (j2.toInt + j3.toInt + rv1.toInt + 1) := by rw [ex3]; exact (zt_add fx2 (show j3.toInt = _ from rfl) (by omega) (by omega)).trans (by omega)
                refine va_put (D := D) (ci := 5) (v := .int x3) (ty := .int) (C := "PageScribe$Reader") (T := F_Reader) (N := 10) hx hb hts i_Reader t_Reader t_Reader_ok n_Reader hown hK hP hD hS 60 (ce_60 _ _ _) cl_5 4 (by decide) (hts _ k_1_171) (fun _ h9 => h9) rfl (by decide +kernel) rfl rfl (Nat.le_of_ble_eq_true rfl) d_Reader_readNumber_142 (fun H locs hP hD hS => ?_)
                rw [cp_xr_place] at hP hD
                have hP : va_P D classes (cW T ad ((S.1, S.2.1, S.2.2.1, S.2.2.2.1, S.2.2.2.2.1, S.2.2.2.2.2.1, ((a_xr_text S), (f_xr_length S), x3, (f_xr_tokenKind S), (f_xr_tokenNumber S), (f_xr_tokenReal S), (a_xr_begins S), (a_xg_k S), (a_xg_n S), (a_xg_r S), (f_xg_z S)), S.2.2.2.2.2.2.2.1, S.2.2.2.2.2.2.2.2) : CS)) H := hP
                have hD : va_D A (cW T ad ((S.1, S.2.1, S.2.2.1, S.2.2.2.1, S.2.2.2.2.1, S.2.2.2.2.2.1, ((a_xr_text S), (f_xr_length S), x3, (f_xr_tokenKind S), (f_xr_tokenNumber S), (f_xr_tokenReal S), (a_xr_begins S), (a_xg_k S), (a_xg_n S), (a_xg_r S), (f_xg_z S)), S.2.2.2.2.2.2.2.1, S.2.2.2.2.2.2.2.2) : CS)) := hD
                refine lv_iload hx hb d_Reader_readNumber_145 (lv_at hl 2 rfl) ?_
                refine lv_i2d hx hb d_Reader_readNumber_147 ?_
                refine lv_topd (fun x4 ex4 => ?_)
                have fx4 : dB x4 := by rw [ex4]; exact zd_i2d _
                have mx4 : dM 1056 x4 := by rw [ex4]; exact FP.Core.i2d_mag _
                refine lv_aload_n hx hb d_Reader_readNumber_148 rfl (lv_at hl 6 rfl) ?_
                refine lv_iload hx hb d_Reader_readNumber_149 (lv_at hl 1 rfl) ?_
                refine lv_iconst (v := 1) hx hb d_Reader_readNumber_151 (by decide) ?_
                refine lv_iadd hx hb d_Reader_readNumber_152 ?_
                refine j_eqi (y := x2) ex2.symm ?_
                refine lv_iload hx hb d_Reader_readNumber_153 (lv_at hl 0 rfl) ?_
                refine jc_ci (w := (fun _ => ((S.1, S.2.1, S.2.2.1, S.2.2.2.1, S.2.2.2.2.1, S.2.2.2.2.2.1, ((a_xr_text S), (f_xr_length S), x3, (f_xr_tokenKind S), (f_xr_tokenNumber S), (f_xr_tokenReal S), (a_xr_begins S), (a_xg_k S), (a_xg_n S), (a_xg_r S), (f_xg_z S)), S.2.2.2.2.2.2.2.1, S.2.2.2.2.2.2.2.2) : CS))) hK hP hD hS hA (va_runV (As := [.int x2, .int j3]) (rest := [.double x4]) F (c_Reader_valueOf l D T ad ((S.1, S.2.1, S.2.2.1, S.2.2.2.1, S.2.2.2.2.1, S.2.2.2.2.2.1, ((a_xr_text S), (f_xr_length S), x3, (f_xr_tokenKind S), (f_xr_tokenNumber S), (f_xr_tokenReal S), (a_xr_begins S), (a_xg_k S), (a_xg_n S), (a_xg_r S), (f_xg_z S)), S.2.2.2.2.2.2.2.1, S.2.2.2.2.2.2.2.2) : CS) x2 j3  H.size ⟨i_vst, i_vc0, i_vc1, i_vc2, i_vc3, i_vv0, i_vv1, i_vv2, i_vv3, i_vg, i_wct, i_wln, i_sd0, i_sd1, i_sd2, i_sd3, i_rln, i_rtx, (show 0 ≤ x3.toInt ∧ x3.toInt ≤ 300 by omega), i_rtk, i_cnv, i_pts, i_cik, i_und⟩ (show 0 ≤ x2.toInt ∧ 0 ≤ j3.toInt ∧ x2.toInt + j3.toInt ≤ 1000 by first | omega | (simp only [fx2, fx3]; omega))) (j_cV (k := 2) (C := "PageScribe$Reader") hts k_3_131 k_1_7 k_3_128 k_3_130 k_0_8 (by decide +kernel) ⟨Nat.le_of_ble_eq_true rfl, Nat.le_of_ble_eq_true rfl⟩) (j_preV (q0 := 60) (ci := 5) hK hP hD csc csc_all csc_nd cl_5 (ce_60 _ _ _) (fun _ _ _ _ h => h) (fun _ _ _ => trivial)) rfl rfl hl.1 rfl (lv_room (Nat.le_of_ble_eq_true rfl)) d_Reader_readNumber_155 ⟨Nat.le_of_ble_eq_true rfl, Nat.le_of_ble_eq_true rfl⟩) (fun rv3 u3 H locs hw3 hP hD hS => ?_)
                have hP : va_P D classes (cW T ad ((S.1, S.2.1, S.2.2.1, S.2.2.2.1, S.2.2.2.2.1, S.2.2.2.2.2.1, ((a_xr_text S), (f_xr_length S), x3, (f_xr_tokenKind S), (f_xr_tokenNumber S), (f_xr_tokenReal S), (a_xr_begins S), (a_xg_k S), (a_xg_n S), (a_xg_r S), (f_xg_z S)), S.2.2.2.2.2.2.2.1, S.2.2.2.2.2.2.2.2) : CS)) H := hP
                have hD : va_D A (cW T ad ((S.1, S.2.1, S.2.2.1, S.2.2.2.1, S.2.2.2.2.1, S.2.2.2.2.2.1, ((a_xr_text S), (f_xr_length S), x3, (f_xr_tokenKind S), (f_xr_tokenNumber S), (f_xr_tokenReal S), (a_xr_begins S), (a_xg_k S), (a_xg_n S), (a_xg_r S), (f_xg_z S)), S.2.2.2.2.2.2.2.1, S.2.2.2.2.2.2.2.2) : CS)) := hD
                have rrv3 := zt_rng rv3
                refine lv_i2d hx hb d_Reader_readNumber_158 ?_
                refine lv_topd (fun x5 ex5 => ?_)
                have fx5 : dB x5 := by rw [ex5]; exact zd_i2d _
                have mx5 : dM 1056 x5 := by rw [ex5]; exact FP.Core.i2d_mag _
                refine lv_iload hx hb d_Reader_readNumber_159 (lv_at hl 0 rfl) ?_
                refine j_cd (wc := []) (wr := (cW T ad ((S.1, S.2.1, S.2.2.1, S.2.2.2.1, S.2.2.2.2.1, S.2.2.2.2.2.1, ((a_xr_text S), (f_xr_length S), x3, (f_xr_tokenKind S), (f_xr_tokenNumber S), (f_xr_tokenReal S), (a_xr_begins S), (a_xg_k S), (a_xg_n S), (a_xg_r S), (f_xg_z S)), S.2.2.2.2.2.2.2.1, S.2.2.2.2.2.2.2.2) : CS))) hK hP hD hS hA [] csc rfl csc_all csc_nd (fun _ _ => List.not_mem_nil) (va_runS (As := [.int j3]) (rest := [.double x5, .double x4]) F (c_Reader_scaleOf l D T j3  H.size) (j_cS (k := 1) hts k_3_134 k_1_7 k_3_132 k_3_133 (by decide +kernel) ⟨Nat.le_of_ble_eq_true rfl, Nat.le_of_ble_eq_true rfl⟩) (j_preS hK hP hD [] rfl (by decide) (fun _ _ _ _ h => h) (fun _ _ _ => trivial)) rfl rfl hl.1 rfl (lv_room (Nat.le_of_ble_eq_true rfl)) d_Reader_readNumber_161 ⟨Nat.le_of_ble_eq_true rfl, Nat.le_of_ble_eq_true rfl⟩) (fun rv4 u4 H locs hw4 hP hD hS => ?_)
                have hP : va_P D classes (cW T ad ((S.1, S.2.1, S.2.2.1, S.2.2.2.1, S.2.2.2.2.1, S.2.2.2.2.2.1, ((a_xr_text S), (f_xr_length S), x3, (f_xr_tokenKind S), (f_xr_tokenNumber S), (f_xr_tokenReal S), (a_xr_begins S), (a_xg_k S), (a_xg_n S), (a_xg_r S), (f_xg_z S)), S.2.2.2.2.2.2.2.1, S.2.2.2.2.2.2.2.2) : CS)) H := hP
                have hD : va_D A (cW T ad ((S.1, S.2.1, S.2.2.1, S.2.2.2.1, S.2.2.2.2.1, S.2.2.2.2.2.1, ((a_xr_text S), (f_xr_length S), x3, (f_xr_tokenKind S), (f_xr_tokenNumber S), (f_xr_tokenReal S), (a_xr_begins S), (a_xg_k S), (a_xg_n S), (a_xg_r S), (f_xg_z S)), S.2.2.2.2.2.2.2.1, S.2.2.2.2.2.2.2.2) : CS)) := hD
                have qhw4 : 4621819117588971520 ≤ dk rv4 ∧ dk rv4 ≤ 4666723172467343360 := by simpa only [fx3] using hw4
                have m164 : dM 1054 (FP.ddiv x5 rv4) := dM_div (K := 1056) (L := 1026) mx5 (dM_lo (by omega)) (by decide) (by decide)
                refine lv_ddiv hx hb d_Reader_readNumber_164 (vf_N (dF_N (dM_F m164 (by decide)))) ?_
                refine lv_topd (fun x6 ex6 => ?_)
                rw [show FP.ddiv x5 rv4 = x6 from ex6.symm] at m164
                have m165_0 : dM 1058 (FP.dadd x4 x6) := dM_add (K := 1056) (dM_le mx4 (by decide)) (dM_le m164 (by decide)) (by decide)
                refine lv_dadd hx hb d_Reader_readNumber_165 (vf_N (dF_N (dM_F m165_0 (by decide)))) ?_
                refine lv_topd (fun x7 ex7 => ?_)
                rw [show FP.dadd x4 x6 = x7 from ex7.symm] at m165_0
                have dx7 : dF x7 := dM_F m165_0 (by decide)
                have bx7 : dB x7 := dM_dB m165_0 (by decide)
                refine lv_dstore (lv' := [(7, .double x7), (6, .int j3), (5, .int x1), (4, .int rv2), (3, .int rv1), (2, .int j2), (1, .int j1), (0, .ref (ad 60))]) hx hb d_Reader_readNumber_166 hl (by decide) rfl (fun ls hl => ?_)
                refine lv_aload_n hx hb d_Reader_readNumber_168 rfl (lv_at hl 7 rfl) ?_
                refine lv_iconst (v := 1) hx hb d_Reader_readNumber_169 (by decide) ?_
                refine lv_iconst (v := 0) hx hb d_Reader_readNumber_170 (by decide) ?_
                refine j_joinH (α := UInt64) (fun x H locs ls => (dB x) ∧ va_P D classes (cW T ad ((S.1, S.2.1, S.2.2.1, S.2.2.2.1, S.2.2.2.2.1, S.2.2.2.2.2.1, ((a_xr_text S), (f_xr_length S), x3, (f_xr_tokenKind S), (f_xr_tokenNumber S), (f_xr_tokenReal S), (a_xr_begins S), (a_xg_k S), (a_xg_n S), (a_xg_r S), (f_xg_z S)), S.2.2.2.2.2.2.2.1, S.2.2.2.2.2.2.2.2) : CS)) H ∧ va_D A (cW T ad ((S.1, S.2.1, S.2.2.1, S.2.2.2.1, S.2.2.2.2.1, S.2.2.2.2.2.1, ((a_xr_text S), (f_xr_length S), x3, (f_xr_tokenKind S), (f_xr_tokenNumber S), (f_xr_tokenReal S), (a_xr_begins S), (a_xg_k S), (a_xg_n S), (a_xg_r S), (f_xg_z S)), S.2.2.2.2.2.2.2.1, S.2.2.2.2.2.2.2.2) : CS)) ∧ va_S A s.heap H locs ∧ lv_has ls 9 [(7, .double x7), (6, .int j3), (5, .int x1), (4, .int rv2), (3, .int rv1), (2, .int j2), (1, .int j1), (0, .ref (ad 60))]) (fun x ls => F0 m 184 ls (.double x :: [.int 0, .int 1, .ref (ad 60)])) (fun x H locs ls hI9 => ?_) (fun key4 => ?_)
                · obtain ⟨j4, rfl⟩ : ∃ z, z = x := ⟨_, rfl⟩
                  obtain ⟨hj4, hP, hD, hS, hl⟩ := hI9
                  have hj4 : dB j4 := hj4
                  have hP : va_P D classes (cW T ad ((S.1, S.2.1, S.2.2.1, S.2.2.2.1, S.2.2.2.2.1, S.2.2.2.2.2.1, ((a_xr_text S), (f_xr_length S), x3, (f_xr_tokenKind S), (f_xr_tokenNumber S), (f_xr_tokenReal S), (a_xr_begins S), (a_xg_k S), (a_xg_n S), (a_xg_r S), (f_xg_z S)), S.2.2.2.2.2.2.2.1, S.2.2.2.2.2.2.2.2) : CS)) H := hP
                  have hD : va_D A (cW T ad ((S.1, S.2.1, S.2.2.1, S.2.2.2.1, S.2.2.2.2.1, S.2.2.2.2.2.1, ((a_xr_text S), (f_xr_length S), x3, (f_xr_tokenKind S), (f_xr_tokenNumber S), (f_xr_tokenReal S), (a_xr_begins S), (a_xg_k S), (a_xg_n S), (a_xg_r S), (f_xg_z S)), S.2.2.2.2.2.2.2.1, S.2.2.2.2.2.2.2.2) : CS)) := hD
                  have hl : lv_has ls 9 [(7, .double x7), (6, .int j3), (5, .int x1), (4, .int rv2), (3, .int rv1), (2, .int j2), (1, .int j1), (0, .ref (ad 60))] := hl
                  refine jc_cv (w := (fun u => u)) hK hP hD hS hA (va_runV (As := [.int 1, .int 0, .double j4]) (rest := []) F (c_Reader_giveToken l D T ad ((S.1, S.2.1, S.2.2.1, S.2.2.2.1, S.2.2.2.2.1, S.2.2.2.2.2.1, ((a_xr_text S), (f_xr_length S), x3, (f_xr_tokenKind S), (f_xr_tokenNumber S), (f_xr_tokenReal S), (a_xr_begins S), (a_xg_k S), (a_xg_n S), (a_xg_r S), (f_xg_z S)), S.2.2.2.2.2.2.2.1, S.2.2.2.2.2.2.2.2) : CS) (1 : Int32) (0 : Int32) j4  H.size ⟨i_vst, i_vc0, i_vc1, i_vc2, i_vc3, i_vv0, i_vv1, i_vv2, i_vv3, i_vg, i_wct, i_wln, i_sd0, i_sd1, i_sd2, i_sd3, i_rln, i_rtx, (show 0 ≤ x3.toInt ∧ x3.toInt ≤ 300 by omega), i_rtk, i_cnv, i_pts, i_cik, i_und⟩ (show dB j4 by have := tI_1; have := tI_0; first | omega | (simp only [fx3]; omega))) (j_cV (k := 3) (C := "PageScribe$Reader") hts k_3_112 k_1_7 k_3_109 k_3_111 k_0_4 (by decide +kernel) ⟨Nat.le_of_ble_eq_true rfl, Nat.le_of_ble_eq_true rfl⟩) (j_preV (q0 := 60) (ci := 5) hK hP hD csc csc_all csc_nd cl_5 (ce_60 _ _ _) (fun _ _ _ _ h => h) (fun _ _ _ => trivial)) rfl rfl hl.1 rfl (lv_room (Nat.le_of_ble_eq_true rfl)) d_Reader_readNumber_184 ⟨Nat.le_of_ble_eq_true rfl, Nat.le_of_ble_eq_true rfl⟩) (fun S1 H locs hw5 hP hD hS => ?_)
                  have hP : va_P D classes (cW T ad S1) H := hP
                  have hD : va_D A (cW T ad S1) := hD
                  obtain ⟨⟨i_vst, i_vc0, i_vc1, i_vc2, i_vc3, i_vv0, i_vv1, i_vv2, i_vv3, i_vg, i_wct, i_wln, i_sd0, i_sd1, i_sd2, i_sd3, i_rln, i_rtx, i_rpl, i_rtk, i_cnv, i_pts, i_cik, i_und⟩, kpcL_S1, kpcU_S1, kpcW_S1, qqhw5⟩ := hw5
                  have kScL_S1 : kcL S S1 := kcL_t (show kcL S ((S.1, S.2.1, S.2.2.1, S.2.2.2.1, S.2.2.2.2.1, S.2.2.2.2.2.1, ((a_xr_text S), (f_xr_length S), x3, (f_xr_tokenKind S), (f_xr_tokenNumber S), (f_xr_tokenReal S), (a_xr_begins S), (a_xg_k S), (a_xg_n S), (a_xg_r S), (f_xg_z S)), S.2.2.2.2.2.2.2.1, S.2.2.2.2.2.2.2.2) : CS) from (kcL_r S)) kpcL_S1
                  have kScU_S1 : kcU S S1 := kcU_t (show kcU S ((S.1, S.2.1, S.2.2.1, S.2.2.2.1, S.2.2.2.2.1, S.2.2.2.2.2.1, ((a_xr_text S), (f_xr_length S), x3, (f_xr_tokenKind S), (f_xr_tokenNumber S), (f_xr_tokenReal S), (a_xr_begins S), (a_xg_k S), (a_xg_n S), (a_xg_r S), (f_xg_z S)), S.2.2.2.2.2.2.2.1, S.2.2.2.2.2.2.2.2) : CS) from (kcU_r S)) kpcU_S1
                  have kScW_S1 : kcW S S1 := kcW_t (show kcW S ((S.1, S.2.1, S.2.2.1, S.2.2.2.1, S.2.2.2.2.1, S.2.2.2.2.2.1, ((a_xr_text S), (f_xr_length S), x3, (f_xr_tokenKind S), (f_xr_tokenNumber S), (f_xr_tokenReal S), (a_xr_begins S), (a_xg_k S), (a_xg_n S), (a_xg_r S), (f_xg_z S)), S.2.2.2.2.2.2.2.1, S.2.2.2.2.2.2.2.2) : CS) from (kcW_r S)) kpcW_S1
                  have nxr_length_S1 : (f_xr_length S1).toInt = (f_xr_length S).toInt := congrArg Int32.toInt kpcL_S1
                  have nxe_underWay_S1 : (f_xe_underWay S1).toInt = (f_xe_underWay S).toInt := congrArg Int32.toInt kpcU_S1
                  have nxp_columns_S1 : (f_xp_columns S1).toInt = (f_xp_columns S).toInt := congrArg Int32.toInt kpcW_S1.1
                  have nxp_rows_S1 : (f_xp_rows S1).toInt = (f_xp_rows S).toInt := congrArg Int32.toInt kpcW_S1.2
                  have qhw5 : (f_xr_place S1).toInt = (j2.toInt + j3.toInt + rv1.toInt + 1) := by simpa only [fx3, tI_0, tI_1] using qqhw5
                  refine lv_iconst (v := 0) hx hb d_Reader_readNumber_187 (by decide) ?_
                  exact j_iret F hr hlocks hK hS S1 ⟨⟨i_vst, i_vc0, i_vc1, i_vc2, i_vc3, i_vv0, i_vv1, i_vv2, i_vv3, i_vg, i_wct, i_wln, i_sd0, i_sd1, i_sd2, i_sd3, i_rln, i_rtx, i_rpl, i_rtk, i_cnv, i_pts, i_cik, i_und⟩, kScL_S1, kScU_S1, kScW_S1⟩ hP hD d_Reader_readNumber_188
                · refine lv_iload_n hx hb d_Reader_readNumber_171 rfl (lv_at hl 6 rfl) ?_
                  refine lv_if_eq (tgt := 182) hx hb d_Reader_readNumber_172 (by decide) (fun c172_1 => ?_) (fun c172_1 => ?_)
                  · have fc172_1 : j1.toInt = 0 := zt_eq (show j1.toInt = _ from rfl) tI_0 c172_1
                    refine lv_dload hx hb d_Reader_readNumber_182 (lv_at hl 0 rfl) ?_
                    exact key4 (x7) _ _ _ ⟨(show dB x7 by assumption), hP, hD, hS, lv_sub hl [0, 1, 2, 3, 4, 5, 6, 7] rfl⟩
                  · first | have fc172_1 : j1.toInt < 0 := (by have := zt_ne (show j1.toInt = _ from rfl) tI_0 c172_1; omega) | have fc172_1 : 0 < j1.toInt := (by have := zt_ne (show j1.toInt = _ from rfl) tI_0 c172_1; omega) | skip
                    refine lv_dconst0 hx hb d_Reader_readNumber_175 ?_
                    have := tD_0
                    refine lv_dload hx hb d_Reader_readNumber_176 (lv_at hl 0 rfl) ?_
                    have m178_1 : dM 1060 (FP.dsub 0 x7) := dM_sub (K := 1058) (dM_le (show dM 1 0 by unfold dM; decide +kernel) (by decide)) (dM_le m165_0 (by decide)) (by decide)
                    refine lv_dsub hx hb d_Reader_readNumber_178 (vf_N (dF_N (dM_F m178_1 (by decide)))) ?_
                    refine lv_topd (fun x8 ex8 => ?_)
                    rw [show FP.dsub 0 x7 = x8 from ex8.symm] at m178_1
                    have dx8 : dF x8 := dM_F m178_1 (by decide)
                    have bx8 : dB x8 := dM_dB m178_1 (by decide)
                    refine lv_goto (tgt := 184) hx hb d_Reader_readNumber_179 (by decide) ?_
                    exact key4 (x8) _ _ _ ⟨(show dB x8 by assumption), hP, hD, hS, lv_sub hl [0, 1, 2, 3, 4, 5, 6, 7] rfl⟩
              · have fc105_1 : j3.toInt = 0 := zt_eq (show j3.toInt = _ from rfl) tI_0 c105_1
                refine lv_aload_n hx hb d_Reader_readNumber_108 rfl (lv_at hl 6 rfl) ?_
                refine lv_iload hx hb d_Reader_readNumber_109 (lv_at hl 1 rfl) ?_
                refine va_put (D := D) (ci := 5) (v := .int x1) (ty := .int) (C := "PageScribe$Reader") (T := F_Reader) (N := 10) hx hb hts i_Reader t_Reader t_Reader_ok n_Reader hown hK hP hD hS 60 (ce_60 _ _ _) cl_5 4 (by decide) (hts _ k_1_171) (fun _ h9 => h9) rfl (by decide +kernel) rfl rfl (Nat.le_of_ble_eq_true rfl) d_Reader_readNumber_111 (fun H locs hP hD hS => ?_)
                rw [cp_xr_place] at hP hD
                have hP : va_P D classes (cW T ad ((S.1, S.2.1, S.2.2.1, S.2.2.2.1, S.2.2.2.2.1, S.2.2.2.2.2.1, ((a_xr_text S), (f_xr_length S), x1, (f_xr_tokenKind S), (f_xr_tokenNumber S), (f_xr_tokenReal S), (a_xr_begins S), (a_xg_k S), (a_xg_n S), (a_xg_r S), (f_xg_z S)), S.2.2.2.2.2.2.2.1, S.2.2.2.2.2.2.2.2) : CS)) H := hP
                have hD : va_D A (cW T ad ((S.1, S.2.1, S.2.2.1, S.2.2.2.1, S.2.2.2.2.1, S.2.2.2.2.2.1, ((a_xr_text S), (f_xr_length S), x1, (f_xr_tokenKind S), (f_xr_tokenNumber S), (f_xr_tokenReal S), (a_xr_begins S), (a_xg_k S), (a_xg_n S), (a_xg_r S), (f_xg_z S)), S.2.2.2.2.2.2.2.1, S.2.2.2.2.2.2.2.2) : CS)) := hD
                refine lv_aload_n hx hb d_Reader_readNumber_114 rfl (lv_at hl 6 rfl) ?_
                refine lv_iconst (v := 0) hx hb d_Reader_readNumber_115 (by decide) ?_
                refine j_joinH (α := Int32) (fun x H locs ls => (True) ∧ va_P D classes (cW T ad ((S.1, S.2.1, S.2.2.1, S.2.2.2.1, S.2.2.2.2.1, S.2.2.2.2.2.1, ((a_xr_text S), (f_xr_length S), x1, (f_xr_tokenKind S), (f_xr_tokenNumber S), (f_xr_tokenReal S), (a_xr_begins S), (a_xg_k S), (a_xg_n S), (a_xg_r S), (f_xg_z S)), S.2.2.2.2.2.2.2.1, S.2.2.2.2.2.2.2.2) : CS)) H ∧ va_D A (cW T ad ((S.1, S.2.1, S.2.2.1, S.2.2.2.1, S.2.2.2.2.1, S.2.2.2.2.2.1, ((a_xr_text S), (f_xr_length S), x1, (f_xr_tokenKind S), (f_xr_tokenNumber S), (f_xr_tokenReal S), (a_xr_begins S), (a_xg_k S), (a_xg_n S), (a_xg_r S), (f_xg_z S)), S.2.2.2.2.2.2.2.1, S.2.2.2.2.2.2.2.2) : CS)) ∧ va_S A s.heap H locs ∧ lv_has ls 9 [(6, .int j3), (5, .int x1), (4, .int rv2), (3, .int rv1), (2, .int j2), (1, .int j1), (0, .ref (ad 60))]) (fun x ls => F0 m 128 ls (.int x :: [.int 0, .ref (ad 60)])) (fun x H locs ls hI9 => ?_) (fun key5 => ?_)
                · obtain ⟨j5, rfl⟩ : ∃ z, z = x := ⟨_, rfl⟩
                  obtain ⟨hj5, hP, hD, hS, hl⟩ := hI9
                  have hP : va_P D classes (cW T ad ((S.1, S.2.1, S.2.2.1, S.2.2.2.1, S.2.2.2.2.1, S.2.2.2.2.2.1, ((a_xr_text S), (f_xr_length S), x1, (f_xr_tokenKind S), (f_xr_tokenNumber S), (f_xr_tokenReal S), (a_xr_begins S), (a_xg_k S), (a_xg_n S), (a_xg_r S), (f_xg_z S)), S.2.2.2.2.2.2.2.1, S.2.2.2.2.2.2.2.2) : CS)) H := hP
                  have hD : va_D A (cW T ad ((S.1, S.2.1, S.2.2.1, S.2.2.2.1, S.2.2.2.2.1, S.2.2.2.2.2.1, ((a_xr_text S), (f_xr_length S), x1, (f_xr_tokenKind S), (f_xr_tokenNumber S), (f_xr_tokenReal S), (a_xr_begins S), (a_xg_k S), (a_xg_n S), (a_xg_r S), (f_xg_z S)), S.2.2.2.2.2.2.2.1, S.2.2.2.2.2.2.2.2) : CS)) := hD
                  have hl : lv_has ls 9 [(6, .int j3), (5, .int x1), (4, .int rv2), (3, .int rv1), (2, .int j2), (1, .int j1), (0, .ref (ad 60))] := hl
                  refine lv_dconst0 hx hb d_Reader_readNumber_128 ?_
                  have := tD_0
                  refine jc_cv (w := (fun u => u)) hK hP hD hS hA (va_runV (As := [.int 0, .int j5, .double 0]) (rest := []) F (c_Reader_giveToken l D T ad ((S.1, S.2.1, S.2.2.1, S.2.2.2.1, S.2.2.2.2.1, S.2.2.2.2.2.1, ((a_xr_text S), (f_xr_length S), x1, (f_xr_tokenKind S), (f_xr_tokenNumber S), (f_xr_tokenReal S), (a_xr_begins S), (a_xg_k S), (a_xg_n S), (a_xg_r S), (f_xg_z S)), S.2.2.2.2.2.2.2.1, S.2.2.2.2.2.2.2.2) : CS) (0 : Int32) j5 0  H.size ⟨i_vst, i_vc0, i_vc1, i_vc2, i_vc3, i_vv0, i_vv1, i_vv2, i_vv3, i_vg, i_wct, i_wln, i_sd0, i_sd1, i_sd2, i_sd3, i_rln, i_rtx, (show 0 ≤ x1.toInt ∧ x1.toInt ≤ 300 by omega), i_rtk, i_cnv, i_pts, i_cik, i_und⟩ (show dB 0 by have := tI_0; first | omega | (simp only [fx1]; omega))) (j_cV (k := 3) (C := "PageScribe$Reader") hts k_3_112 k_1_7 k_3_109 k_3_111 k_0_4 (by decide +kernel) ⟨Nat.le_of_ble_eq_true rfl, Nat.le_of_ble_eq_true rfl⟩) (j_preV (q0 := 60) (ci := 5) hK hP hD csc csc_all csc_nd cl_5 (ce_60 _ _ _) (fun _ _ _ _ h => h) (fun _ _ _ => trivial)) rfl rfl hl.1 rfl (lv_room (Nat.le_of_ble_eq_true rfl)) d_Reader_readNumber_129 ⟨Nat.le_of_ble_eq_true rfl, Nat.le_of_ble_eq_true rfl⟩) (fun S2 H locs hw6 hP hD hS => ?_)
                  have hP : va_P D classes (cW T ad S2) H := hP
                  have hD : va_D A (cW T ad S2) := hD
                  obtain ⟨⟨i_vst, i_vc0, i_vc1, i_vc2, i_vc3, i_vv0, i_vv1, i_vv2, i_vv3, i_vg, i_wct, i_wln, i_sd0, i_sd1, i_sd2, i_sd3, i_rln, i_rtx, i_rpl, i_rtk, i_cnv, i_pts, i_cik, i_und⟩, kpcL_S2, kpcU_S2, kpcW_S2, qqhw6⟩ := hw6
                  have kScL_S2 : kcL S S2 := kcL_t (show kcL S ((S.1, S.2.1, S.2.2.1, S.2.2.2.1, S.2.2.2.2.1, S.2.2.2.2.2.1, ((a_xr_text S), (f_xr_length S), x1, (f_xr_tokenKind S), (f_xr_tokenNumber S), (f_xr_tokenReal S), (a_xr_begins S), (a_xg_k S), (a_xg_n S), (a_xg_r S), (f_xg_z S)), S.2.2.2.2.2.2.2.1, S.2.2.2.2.2.2.2.2) : CS) from (kcL_r S)) kpcL_S2
                  have kScU_S2 : kcU S S2 := kcU_t (show kcU S ((S.1, S.2.1, S.2.2.1, S.2.2.2.1, S.2.2.2.2.1, S.2.2.2.2.2.1, ((a_xr_text S), (f_xr_length S), x1, (f_xr_tokenKind S), (f_xr_tokenNumber S), (f_xr_tokenReal S), (a_xr_begins S), (a_xg_k S), (a_xg_n S), (a_xg_r S), (f_xg_z S)), S.2.2.2.2.2.2.2.1, S.2.2.2.2.2.2.2.2) : CS) from (kcU_r S)) kpcU_S2
                  have kScW_S2 : kcW S S2 := kcW_t (show kcW S ((S.1, S.2.1, S.2.2.1, S.2.2.2.1, S.2.2.2.2.1, S.2.2.2.2.2.1, ((a_xr_text S), (f_xr_length S), x1, (f_xr_tokenKind S), (f_xr_tokenNumber S), (f_xr_tokenReal S), (a_xr_begins S), (a_xg_k S), (a_xg_n S), (a_xg_r S), (f_xg_z S)), S.2.2.2.2.2.2.2.1, S.2.2.2.2.2.2.2.2) : CS) from (kcW_r S)) kpcW_S2
                  have nxr_length_S2 : (f_xr_length S2).toInt = (f_xr_length S).toInt := congrArg Int32.toInt kpcL_S2
                  have nxe_underWay_S2 : (f_xe_underWay S2).toInt = (f_xe_underWay S).toInt := congrArg Int32.toInt kpcU_S2
                  have nxp_columns_S2 : (f_xp_columns S2).toInt = (f_xp_columns S).toInt := congrArg Int32.toInt kpcW_S2.1
                  have nxp_rows_S2 : (f_xp_rows S2).toInt = (f_xp_rows S).toInt := congrArg Int32.toInt kpcW_S2.2
                  have qhw6 : (f_xr_place S2).toInt = (j2.toInt + rv1.toInt) := by simpa only [fx1, tI_0] using qqhw6
                  refine lv_iconst (v := 0) hx hb d_Reader_readNumber_132 (by decide) ?_
                  exact j_iret F hr hlocks hK hS S2 ⟨⟨i_vst, i_vc0, i_vc1, i_vc2, i_vc3, i_vv0, i_vv1, i_vv2, i_vv3, i_vg, i_wct, i_wln, i_sd0, i_sd1, i_sd2, i_sd3, i_rln, i_rtx, i_rpl, i_rtk, i_cnv, i_pts, i_cik, i_und⟩, kScL_S2, kScU_S2, kScW_S2⟩ hP hD d_Reader_readNumber_133
                · refine lv_iload_n hx hb d_Reader_readNumber_116 rfl (lv_at hl 5 rfl) ?_
                  refine lv_if_eq (tgt := 126) hx hb d_Reader_readNumber_117 (by decide) (fun c117_1 => ?_) (fun c117_1 => ?_)
                  · have fc117_1 : j1.toInt = 0 := zt_eq (show j1.toInt = _ from rfl) tI_0 c117_1
                    refine lv_iload hx hb d_Reader_readNumber_126 (lv_at hl 2 rfl) ?_
                    exact key5 (rv2) _ _ _ ⟨trivial, hP, hD, hS, lv_sub hl [0, 1, 2, 3, 4, 5, 6] rfl⟩
                  · first | have fc117_1 : j1.toInt < 0 := (by have := zt_ne (show j1.toInt = _ from rfl) tI_0 c117_1; omega) | have fc117_1 : 0 < j1.toInt := (by have := zt_ne (show j1.toInt = _ from rfl) tI_0 c117_1; omega) | skip
                    refine lv_iload hx hb d_Reader_readNumber_120 (lv_at hl 2 rfl) ?_
                    refine lv_ineg hx hb d_Reader_readNumber_122 ?_
                    refine lv_topi (fun x9 ex9 => ?_)
                    have rx9 := zt_rng x9
                    refine lv_goto (tgt := 128) hx hb d_Reader_readNumber_123 (by decide) ?_
                    exact key5 (x9) _ _ _ ⟨trivial, hP, hD, hS, lv_sub hl [0, 1, 2, 3, 4, 5, 6] rfl⟩
            · have fc97_1 : 4 < j3.toInt := Int.not_le.mp (zt_nle (show j3.toInt = _ from rfl) tI_4 c97_1)
              refine lv_bipush (v := 15) hx hb d_Reader_readNumber_100 (by decide) ?_
              exact j_iret F hr hlocks hK hS S ⟨⟨i_vst, i_vc0, i_vc1, i_vc2, i_vc3, i_vv0, i_vv1, i_vv2, i_vv3, i_vg, i_wct, i_wln, i_sd0, i_sd1, i_sd2, i_sd3, i_rln, i_rtx, i_rpl, i_rtk, i_cnv, i_pts, i_cik, i_und⟩, (kcL_r S), (kcU_r S), (kcW_r S)⟩ hP hD d_Reader_readNumber_102
          · refine lv_aload_n hx hb d_Reader_readNumber_69 rfl (lv_at hl 5 rfl) ?_
            refine lv_iload hx hb d_Reader_readNumber_70 (lv_at hl 0 rfl) ?_
            refine jc_ci (w := (fun _ => S)) hK hP hD hS hA (va_runV (As := [.int x1]) (rest := []) F (c_Reader_charAt l D T ad S x1  H.size ⟨i_vst, i_vc0, i_vc1, i_vc2, i_vc3, i_vv0, i_vv1, i_vv2, i_vv3, i_vg, i_wct, i_wln, i_sd0, i_sd1, i_sd2, i_sd3, i_rln, i_rtx, i_rpl, i_rtk, i_cnv, i_pts, i_cik, i_und⟩) (j_cV (k := 1) (C := "PageScribe$Reader") hts k_3_73 k_1_7 k_3_70 k_3_72 k_0_1 (by decide +kernel) ⟨Nat.le_of_ble_eq_true rfl, Nat.le_of_ble_eq_true rfl⟩) (j_preV (q0 := 60) (ci := 5) hK hP hD csc csc_all csc_nd cl_5 (ce_60 _ _ _) (fun _ _ _ _ h => h) (fun _ _ _ => trivial)) rfl rfl hl.1 rfl (lv_room (Nat.le_of_ble_eq_true rfl)) d_Reader_readNumber_72 ⟨Nat.le_of_ble_eq_true rfl, Nat.le_of_ble_eq_true rfl⟩) (fun rv7 u5 H locs hw7 hP hD hS => ?_)
            have hP : va_P D classes (cW T ad S) H := hP
            have hD : va_D A (cW T ad S) := hD
            have qhw7 : 0 ≤ rv7.toInt ∧ rv7.toInt ≤ 127 ∧ (rv7.toInt = 0 ∨ (0 ≤ (j2.toInt + rv1.toInt) ∧ (j2.toInt + rv1.toInt) < (f_xr_length S).toInt ∧ rv7.toInt = ((a_xr_text S) (j2.toInt + rv1.toInt).toNat).toInt)) := by simpa only [fx1] using hw7
            have rrv7 := zt_rng rv7
            refine lv_bipush (v := 46) hx hb d_Reader_readNumber_75 (by decide) ?_
            refine lv_icmp_ne (tgt := 91) hx hb d_Reader_readNumber_77 (by decide) (fun c77_1 => ?_) (fun c77_1 => ?_)
            · first | have fc77_1 : rv7.toInt < 46 := (by have := zt_ne (show rv7.toInt = _ from rfl) tI_46 c77_1; omega) | have fc77_1 : 46 < rv7.toInt := (by have := zt_ne (show rv7.toInt = _ from rfl) tI_46 c77_1; omega) | skip
              refine lv_iconst (v := 0) hx hb d_Reader_readNumber_91 (by decide) ?_
              exact key3 (0 : Int32) _ _ _ ⟨(show 0 ≤ (0 : Int32).toInt ∧ (0 : Int32).toInt ≤ 420 by have := tI_0; omega), hP, hD, hS, lv_sub hl [0, 1, 2, 3, 4, 5] rfl⟩
            · have fc77_1 : rv7.toInt = 46 := zt_eq (show rv7.toInt = _ from rfl) tI_46 c77_1
              refine lv_aload_n hx hb d_Reader_readNumber_80 rfl (lv_at hl 5 rfl) ?_
              refine lv_iload hx hb d_Reader_readNumber_81 (lv_at hl 0 rfl) ?_
              refine lv_iconst (v := 1) hx hb d_Reader_readNumber_83 (by decide) ?_
              refine lv_iadd hx hb d_Reader_readNumber_84 ?_
              refine lv_topi (fun x10 ex10 => ?_)
              have fx10 : x10.toInt = (j2.toInt + rv1.toInt + 1) := by rw [ex10]; exact (zt_add fx1 tI_1 (by omega) (by omega)).trans (by omega)
              refine jc_ci (w := (fun _ => S)) hK hP hD hS hA (va_runV (As := [.int x10]) (rest := []) F (c_Reader_digitsFrom l D T ad S x10  H.size ⟨i_vst, i_vc0, i_vc1, i_vc2, i_vc3, i_vv0, i_vv1, i_vv2, i_vv3, i_vg, i_wct, i_wln, i_sd0, i_sd1, i_sd2, i_sd3, i_rln, i_rtx, i_rpl, i_rtk, i_cnv, i_pts, i_cik, i_und⟩ (show 0 ≤ x10.toInt ∧ x10.toInt ≤ 420 by first | omega | (simp only [fx10]; omega))) (j_cV (k := 1) (C := "PageScribe$Reader") hts k_3_127 k_1_7 k_3_124 k_3_126 k_0_7 (by decide +kernel) ⟨Nat.le_of_ble_eq_true rfl, Nat.le_of_ble_eq_true rfl⟩) (j_preV (q0 := 60) (ci := 5) hK hP hD csc csc_all csc_nd cl_5 (ce_60 _ _ _) (fun _ _ _ _ h => h) (fun _ _ _ => trivial)) rfl rfl hl.1 rfl (lv_room (Nat.le_of_ble_eq_true rfl)) d_Reader_readNumber_85 ⟨Nat.le_of_ble_eq_true rfl, Nat.le_of_ble_eq_true rfl⟩) (fun rv8 u6 H locs hw8 hP hD hS => ?_)
              have hP : va_P D classes (cW T ad S) H := hP
              have hD : va_D A (cW T ad S) := hD
              have qhw8 : 0 ≤ rv8.toInt ∧ (rv8.toInt = 0 ∨ (j2.toInt + rv1.toInt + 1) + rv8.toInt ≤ (f_xr_length S).toInt) := by simpa only [fx10] using hw8
              have rrv8 := zt_rng rv8
              refine lv_goto (tgt := 92) hx hb d_Reader_readNumber_88 (by decide) ?_
              exact key3 (rv8) _ _ _ ⟨(show 0 ≤ rv8.toInt ∧ rv8.toInt ≤ 420 by omega), hP, hD, hS, lv_sub hl [0, 1, 2, 3, 4, 5] rfl⟩
        · have fc50_1 : 9 < rv1.toInt := Int.not_le.mp (zt_nle (show rv1.toInt = _ from rfl) tI_9 c50_1)
          refine lv_bipush (v := 15) hx hb d_Reader_readNumber_53 (by decide) ?_
          exact j_iret F hr hlocks hK hS S ⟨⟨i_vst, i_vc0, i_vc1, i_vc2, i_vc3, i_vv0, i_vv1, i_vv2, i_vv3, i_vg, i_wct, i_wln, i_sd0, i_sd1, i_sd2, i_sd3, i_rln, i_rtx, i_rpl, i_rtk, i_cnv, i_pts, i_cik, i_und⟩, (kcL_r S), (kcU_r S), (kcW_r S)⟩ hP hD d_Reader_readNumber_55
    · refine lv_iload_n hx hb d_Reader_readNumber_19 rfl (lv_at hl 0 rfl) ?_
      refine lv_if_eq (tgt := 32) hx hb d_Reader_readNumber_20 (by decide) (fun c20_1 => ?_) (fun c20_1 => ?_)
      · have fc20_1 : j1.toInt = 0 := zt_eq (show j1.toInt = _ from rfl) tI_0 c20_1
        refine lv_aload_n hx hb d_Reader_readNumber_32 rfl (lv_at hl 1 rfl) ?_
        refine va_get (D := D) (ci := 5) (v := .int (f_xr_place S)) (C := "PageScribe$Reader") (T := F_Reader) (N := 10) hx hb hts i_Reader hown hK hP 60 (ce_60 _ _ _) cl_5 4 (by decide) (hts _ k_1_171) (fun _ h9 => h9) rfl d_Reader_readNumber_33 ?_
        exact key2 (f_xr_place S) _ _ _ ⟨(show (f_xr_place S).toInt ≤ (f_xr_place S).toInt ∧ (f_xr_place S).toInt ≤ (f_xr_place S).toInt + 1 by omega), hP, hD, hS, lv_sub hl [0, 1] rfl⟩
      · first | have fc20_1 : j1.toInt < 0 := (by have := zt_ne (show j1.toInt = _ from rfl) tI_0 c20_1; omega) | have fc20_1 : 0 < j1.toInt := (by have := zt_ne (show j1.toInt = _ from rfl) tI_0 c20_1; omega) | skip
        refine lv_aload_n hx hb d_Reader_readNumber_23 rfl (lv_at hl 1 rfl) ?_
        refine va_get (D := D) (ci := 5) (v := .int (f_xr_place S)) (C := "PageScribe$Reader") (T := F_Reader) (N := 10) hx hb hts i_Reader hown hK hP 60 (ce_60 _ _ _) cl_5 4 (by decide) (hts _ k_1_171) (fun _ h9 => h9) rfl d_Reader_readNumber_24 ?_
        refine lv_iconst (v := 1) hx hb d_Reader_readNumber_27 (by decide) ?_
        refine lv_iadd hx hb d_Reader_readNumber_28 ?_
        refine lv_topi (fun x11 ex11 => ?_)
        have fx11 : x11.toInt = ((f_xr_place S).toInt + 1) := by rw [ex11]; exact (zt_add (show (f_xr_place S).toInt = _ from rfl) tI_1 (by omega) (by omega)).trans (by omega)
        refine lv_goto (tgt := 36) hx hb d_Reader_readNumber_29 (by decide) ?_
        exact key2 (x11) _ _ _ ⟨(show (f_xr_place S).toInt ≤ x11.toInt ∧ x11.toInt ≤ (f_xr_place S).toInt + 1 by omega), hP, hD, hS, lv_sub hl [0, 1] rfl⟩
  · refine lv_aload_n hx hb d_Reader_readNumber_0 rfl (lv_at hl 0 rfl) ?_
    refine lv_aload_n hx hb d_Reader_readNumber_1 rfl (lv_at hl 0 rfl) ?_
    refine va_get (D := D) (ci := 5) (v := .int (f_xr_place S)) (C := "PageScribe$Reader") (T := F_Reader) (N := 10) hx hb hts i_Reader hown hK hP 60 (ce_60 _ _ _) cl_5 4 (by decide) (hts _ k_1_171) (fun _ h9 => h9) rfl d_Reader_readNumber_2 ?_
    refine jc_ci (w := (fun _ => S)) hK hP hD hS hA (va_runV (As := [.int (f_xr_place S)]) (rest := []) F (c_Reader_charAt l D T ad S (f_xr_place S)  s.heap.size ⟨i_vst, i_vc0, i_vc1, i_vc2, i_vc3, i_vv0, i_vv1, i_vv2, i_vv3, i_vg, i_wct, i_wln, i_sd0, i_sd1, i_sd2, i_sd3, i_rln, i_rtx, i_rpl, i_rtk, i_cnv, i_pts, i_cik, i_und⟩) (j_cV (k := 1) (C := "PageScribe$Reader") hts k_3_73 k_1_7 k_3_70 k_3_72 k_0_1 (by decide +kernel) ⟨Nat.le_of_ble_eq_true rfl, Nat.le_of_ble_eq_true rfl⟩) (j_preV (q0 := 60) (ci := 5) hK hP hD csc csc_all csc_nd cl_5 (ce_60 _ _ _) (fun _ _ _ _ h => h) (fun _ _ _ => trivial)) rfl rfl hl.1 rfl (lv_room (Nat.le_of_ble_eq_true rfl)) d_Reader_readNumber_5 ⟨Nat.le_of_ble_eq_true rfl, Nat.le_of_ble_eq_true rfl⟩) (fun rv9 u7 H locs hw9 hP hD hS => ?_)
    have hP : va_P D classes (cW T ad S) H := hP
    have hD : va_D A (cW T ad S) := hD
    have qhw9 : 0 ≤ rv9.toInt ∧ rv9.toInt ≤ 127 ∧ (rv9.toInt = 0 ∨ (0 ≤ (f_xr_place S).toInt ∧ (f_xr_place S).toInt < (f_xr_length S).toInt ∧ rv9.toInt = ((a_xr_text S) (f_xr_place S).toInt.toNat).toInt)) := hw9
    have rrv9 := zt_rng rv9
    refine lv_bipush (v := 45) hx hb d_Reader_readNumber_8 (by decide) ?_
    refine lv_icmp_ne (tgt := 17) hx hb d_Reader_readNumber_10 (by decide) (fun c10_1 => ?_) (fun c10_1 => ?_)
    · first | have fc10_1 : rv9.toInt < 45 := (by have := zt_ne (show rv9.toInt = _ from rfl) tI_45 c10_1; omega) | have fc10_1 : 45 < rv9.toInt := (by have := zt_ne (show rv9.toInt = _ from rfl) tI_45 c10_1; omega) | skip
      refine lv_iconst (v := 0) hx hb d_Reader_readNumber_17 (by decide) ?_
      exact key1 (0 : Int32) _ _ _ ⟨trivial, hP, hD, hS, lv_sub hl [0] rfl⟩
    · have fc10_1 : rv9.toInt = 45 := zt_eq (show rv9.toInt = _ from rfl) tI_45 c10_1
      refine lv_iconst (v := 1) hx hb d_Reader_readNumber_13 (by decide) ?_
      refine lv_goto (tgt := 18) hx hb d_Reader_readNumber_14 (by decide) ?_
      exact key1 (1 : Int32) _ _ _ ⟨trivial, hP, hD, hS, lv_sub hl [0] rfl⟩
