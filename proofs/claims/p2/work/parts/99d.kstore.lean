theorem d_Row_init_0 : decode prog_8_method_1_code 0 = .ok (.aload_n 0, 1) := by decide +kernel
theorem d_Row_init_1 : decode prog_8_method_1_code 1 = .ok (.invokespecial 3, 3) := by decide +kernel
theorem k_1_45 : Cond.methodLink "PageScribe$Row" 3 ⟨"java/lang/Object", "<init>", "()V"⟩ ∈ gw := gw_of (tb_1 (List.mem_of_getElem? (i := 45) (by decide +kernel))) (by decide +kernel)
theorem k_1_35 : Cond.instanceMethod ⟨"java/lang/Object", "<init>", "()V"⟩ ∈ gw := gw_of (tb_1 (List.mem_of_getElem? (i := 35) (by decide +kernel))) (by decide +kernel)
theorem k_1_36 : Cond.code ⟨"java/lang/Object", "<init>", "()V"⟩ object_method_1_code 1 none ∈ gw := gw_of (tb_1 (List.mem_of_getElem? (i := 36) (by decide +kernel))) (by decide +kernel)
theorem d_Row_init_4 : decode prog_8_method_1_code 4 = .ok (.aload_n 0, 1) := by decide +kernel
theorem d_Row_init_5 : decode prog_8_method_1_code 5 = .ok (.iconst 0, 1) := by decide +kernel
theorem d_Row_init_6 : decode prog_8_method_1_code 6 = .ok (.putfield 9, 3) := by decide +kernel
theorem d_Row_init_9 : decode prog_8_method_1_code 9 = .ok (.aload_n 0, 1) := by decide +kernel
theorem d_Row_init_10 : decode prog_8_method_1_code 10 = .ok (.iload_n 1, 1) := by decide +kernel
theorem d_Row_init_11 : decode prog_8_method_1_code 11 = .ok (.newarray .int, 2) := by decide +kernel
theorem k_1_67 : Cond.arrayClass .int ∈ gw := gw_of (tb_1 (List.mem_of_getElem? (i := 67) (by decide +kernel))) (by decide +kernel)
theorem d_Row_init_13 : decode prog_8_method_1_code 13 = .ok (.putfield 15, 3) := by decide +kernel
theorem d_Row_init_16 : decode prog_8_method_1_code 16 = .ok (.aload_n 0, 1) := by decide +kernel
theorem d_Row_init_17 : decode prog_8_method_1_code 17 = .ok (.iload_n 1, 1) := by decide +kernel
theorem d_Row_init_18 : decode prog_8_method_1_code 18 = .ok (.newarray .int, 2) := by decide +kernel
theorem d_Row_init_20 : decode prog_8_method_1_code 20 = .ok (.putfield 19, 3) := by decide +kernel
theorem d_Row_init_23 : decode prog_8_method_1_code 23 = .ok (.aload_n 0, 1) := by decide +kernel
theorem d_Row_init_24 : decode prog_8_method_1_code 24 = .ok (.iload_n 1, 1) := by decide +kernel
theorem d_Row_init_25 : decode prog_8_method_1_code 25 = .ok (.newarray .double, 2) := by decide +kernel
theorem k_1_68 : Cond.arrayClass .double ∈ gw := gw_of (tb_1 (List.mem_of_getElem? (i := 68) (by decide +kernel))) (by decide +kernel)
theorem d_Row_init_27 : decode prog_8_method_1_code 27 = .ok (.putfield 22, 3) := by decide +kernel
theorem d_Row_init_30 : decode prog_8_method_1_code 30 = .ok (.return_, 1) := by decide +kernel
set_option maxHeartbeats 4000000 in
set_option maxRecDepth 100000 in
theorem i_Row_init_Stack40 (l : Launch) (D : va_G) (T : Nat → ClassId) (h0 : Nat) (sz : Nat) : Met l ⟨"PageScribe$Row", "<init>", "(I)V"⟩ (wy ⟨"PageScribe$Row", "<init>", "(I)V"⟩ prog_8_method_1_code 2 none) ({ frames := 1, cells := 3, slots := 120, locals := 70 }) (va_Pc [.ref h0, .int 40] (Pw D T [(h0, .inr (0, [.null, .null, .null, .int 0]))] sz E0)) (va_Qv (fun (u : Nat × Nat × Nat) => True) (fun u t => Bw D T (va_A [(h0, .inr (0, [.null, .null, .null, .int 0]))] sz) [(h0, .inr (0, [.ref u.1, .ref u.2.1, .ref u.2.2, .int 0])), (u.1, .inl (T 0, 40, .inl zI)), (u.2.1, .inl (T 0, 40, .inl zI)), (u.2.2, .inl (T 3, 40, .inr (.inr (.inr (.inl zD)))))] t) (va_A [(h0, .inr (0, [.null, .null, .null, .int 0]))] sz)) 3 120 (va_A [(h0, .inr (0, [.null, .null, .null, .int 0]))] sz) := by
  refine j_met (y := ⟨"PageScribe$Row", "<init>", "(I)V"⟩) (b := prog_8_method_1_code) (n := 2) (ret := none) (av := [.ref h0, .int 40]) (Qc := fun A => va_Qv (fun (u : Nat × Nat × Nat) => True) (fun u t => Bw D T A [(h0, .inr (0, [.ref u.1, .ref u.2.1, .ref u.2.2, .int 0])), (u.1, .inl (T 0, 40, .inl zI)), (u.2.1, .inl (T 0, 40, .inl zI)), (u.2.2, .inl (T 3, 40, .inr (.inr (.inr (.inl zD)))))] t) A) (by decide +kernel) (Nat.le_of_ble_eq_true rfl) (fun p e s m args below meth c A ls F hr hlocks hnm hK hP hD hS hA hN hE hl => ?_)
  obtain ⟨hx, hb, hml, hown, hts⟩ := id F
  have hin := hnm
  have hl : lv_has ls 2 [(0, .ref h0), (1, .int 40)] := hl
  refine lv_aload_n hx hb d_Row_init_0 rfl (lv_at hl 0 rfl) ?_
  refine j_obj F hl.1 k_1_45 k_1_35 k_1_36 d_Row_init_1 (Nat.le_of_ble_eq_true rfl) (Nat.le_of_ble_eq_true rfl) ?_
  refine lv_aload_n hx hb d_Row_init_4 rfl (lv_at hl 0 rfl) ?_
  refine lv_iconst (v := 0) hx hb d_Row_init_5 (by decide +kernel) ?_
  refine va_put (D := D) (ci := 0) (v := .int 0) (ty := .int) (C := "PageScribe$Stack") (T := F_Stack) (N := 4) hx hb hts i_Stack t_Stack t_Stack_ok n_Stack hown hK hP hD hS 0 rfl rfl 3 (by decide +kernel) (hts _ k_1_49) (fun _ h9 => h9) rfl (by decide +kernel) rfl rfl (Nat.le_of_ble_eq_true rfl) d_Row_init_6 (fun H locs hP hD hS => ?_)
  have hP : va_P D classes [(h0, .inr (0, [.null, .null, .null, .int 0]))] H := hP
  have hD : va_D A [(h0, .inr (0, [.null, .null, .null, .int 0]))] := hD
  refine lv_aload_n hx hb d_Row_init_9 rfl (lv_at hl 0 rfl) ?_
  refine lv_iload_n hx hb d_Row_init_10 rfl (lv_at hl 1 rfl) ?_
  refine j_newa (atype := .int) (ty := .int) F k_1_67 rfl hK hP hD hS hA 0 (T 0) rfl (40, .inl zI) (fun _ => rfl) (by decide +kernel) (by decide +kernel) (by decide +kernel) (Nat.le_of_ble_eq_true rfl) (Nat.le_of_ble_eq_true rfl) d_Row_init_11 (fun q1 H hP hD hS => ?_)
  have hP : va_P D classes [(h0, .inr (0, [.null, .null, .null, .int 0])), (q1, .inl (T 0, 40, .inl zI))] H := hP
  have hD : va_D A [(h0, .inr (0, [.null, .null, .null, .int 0])), (q1, .inl (T 0, 40, .inl zI))] := hD
  refine va_putF (D := D) (ci := 0) (v := .ref q1) (ty := .array .int) (C := "PageScribe$Stack") (T := F_Stack) (N := 4) hx hb hts i_Stack t_Stack t_Stack_ok n_Stack hown hK hP hD hS 0 rfl rfl 0 (by decide +kernel) (hts _ k_1_46) (fun _ h9 => h9) rfl hin rfl (by decide +kernel) rfl rfl (Nat.le_of_ble_eq_true rfl) d_Row_init_13 (fun H locs hP hD hS => ?_)
  have hP : va_P D classes [(h0, .inr (0, [.ref q1, .null, .null, .int 0])), (q1, .inl (T 0, 40, .inl zI))] H := hP
  have hD : va_D A [(h0, .inr (0, [.ref q1, .null, .null, .int 0])), (q1, .inl (T 0, 40, .inl zI))] := hD
  refine lv_aload_n hx hb d_Row_init_16 rfl (lv_at hl 0 rfl) ?_
  refine lv_iload_n hx hb d_Row_init_17 rfl (lv_at hl 1 rfl) ?_
  refine j_newa (atype := .int) (ty := .int) F k_1_67 rfl hK hP hD hS hA 0 (T 0) rfl (40, .inl zI) (fun _ => rfl) (by decide +kernel) (by decide +kernel) (by decide +kernel) (Nat.le_of_ble_eq_true rfl) (Nat.le_of_ble_eq_true rfl) d_Row_init_18 (fun q2 H hP hD hS => ?_)
  have hP : va_P D classes [(h0, .inr (0, [.ref q1, .null, .null, .int 0])), (q1, .inl (T 0, 40, .inl zI)), (q2, .inl (T 0, 40, .inl zI))] H := hP
  have hD : va_D A [(h0, .inr (0, [.ref q1, .null, .null, .int 0])), (q1, .inl (T 0, 40, .inl zI)), (q2, .inl (T 0, 40, .inl zI))] := hD
  refine va_putF (D := D) (ci := 0) (v := .ref q2) (ty := .array .int) (C := "PageScribe$Stack") (T := F_Stack) (N := 4) hx hb hts i_Stack t_Stack t_Stack_ok n_Stack hown hK hP hD hS 0 rfl rfl 1 (by decide +kernel) (hts _ k_1_47) (fun _ h9 => h9) rfl hin rfl (by decide +kernel) rfl rfl (Nat.le_of_ble_eq_true rfl) d_Row_init_20 (fun H locs hP hD hS => ?_)
  have hP : va_P D classes [(h0, .inr (0, [.ref q1, .ref q2, .null, .int 0])), (q1, .inl (T 0, 40, .inl zI)), (q2, .inl (T 0, 40, .inl zI))] H := hP
  have hD : va_D A [(h0, .inr (0, [.ref q1, .ref q2, .null, .int 0])), (q1, .inl (T 0, 40, .inl zI)), (q2, .inl (T 0, 40, .inl zI))] := hD
  refine lv_aload_n hx hb d_Row_init_23 rfl (lv_at hl 0 rfl) ?_
  refine lv_iload_n hx hb d_Row_init_24 rfl (lv_at hl 1 rfl) ?_
  refine j_newa (atype := .double) (ty := .double) F k_1_68 rfl hK hP hD hS hA 3 (T 3) rfl (40, .inr (.inr (.inr (.inl zD)))) (fun _ => rfl) (by decide +kernel) (by decide +kernel) (by decide +kernel) (Nat.le_of_ble_eq_true rfl) (Nat.le_of_ble_eq_true rfl) d_Row_init_25 (fun q3 H hP hD hS => ?_)
  have hP : va_P D classes [(h0, .inr (0, [.ref q1, .ref q2, .null, .int 0])), (q1, .inl (T 0, 40, .inl zI)), (q2, .inl (T 0, 40, .inl zI)), (q3, .inl (T 3, 40, .inr (.inr (.inr (.inl zD)))))] H := hP
  have hD : va_D A [(h0, .inr (0, [.ref q1, .ref q2, .null, .int 0])), (q1, .inl (T 0, 40, .inl zI)), (q2, .inl (T 0, 40, .inl zI)), (q3, .inl (T 3, 40, .inr (.inr (.inr (.inl zD)))))] := hD
  refine va_putF (D := D) (ci := 0) (v := .ref q3) (ty := .array .double) (C := "PageScribe$Stack") (T := F_Stack) (N := 4) hx hb hts i_Stack t_Stack t_Stack_ok n_Stack hown hK hP hD hS 0 rfl rfl 2 (by decide +kernel) (hts _ k_1_48) (fun _ h9 => h9) rfl hin rfl (by decide +kernel) rfl rfl (Nat.le_of_ble_eq_true rfl) d_Row_init_27 (fun H locs hP hD hS => ?_)
  have hP : va_P D classes [(h0, .inr (0, [.ref q1, .ref q2, .ref q3, .int 0])), (q1, .inl (T 0, 40, .inl zI)), (q2, .inl (T 0, 40, .inl zI)), (q3, .inl (T 3, 40, .inr (.inr (.inr (.inl zD)))))] H := hP
  have hD : va_D A [(h0, .inr (0, [.ref q1, .ref q2, .ref q3, .int 0])), (q1, .inl (T 0, 40, .inl zI)), (q2, .inl (T 0, 40, .inl zI)), (q3, .inl (T 3, 40, .inr (.inr (.inr (.inl zD)))))] := hD
  have hP9 := hP.sub (ws' := [(h0, .inr (0, [.ref q1, .ref q2, .ref q3, .int 0])), (q1, .inl (T 0, 40, .inl zI)), (q2, .inl (T 0, 40, .inl zI)), (q3, .inl (T 3, 40, .inr (.inr (.inr (.inl zD)))))]) [0, 1, 2, 3] rfl
  have hD9 := hD.sub (ws' := [(h0, .inr (0, [.ref q1, .ref q2, .ref q3, .int 0])), (q1, .inl (T 0, 40, .inl zI)), (q2, .inl (T 0, 40, .inl zI)), (q3, .inl (T 3, 40, .inr (.inr (.inr (.inl zD)))))]) [0, 1, 2, 3] (by decide +kernel) rfl
  refine W.widen (k := 3) (n := 120) (Nat.le_of_ble_eq_true rfl) (Nat.le_of_ble_eq_true rfl) ?_
  exact j_vret F hr hlocks hK hS (q1, q2, q3) trivial hP9 hD9 d_Row_init_30
set_option maxHeartbeats 4000000 in
set_option maxRecDepth 100000 in
theorem i_Row_init_Row160 (l : Launch) (D : va_G) (T : Nat → ClassId) (h0 : Nat) (sz : Nat) : Met l ⟨"PageScribe$Row", "<init>", "(I)V"⟩ (wy ⟨"PageScribe$Row", "<init>", "(I)V"⟩ prog_8_method_1_code 2 none) ({ frames := 1, cells := 3, slots := 480, locals := 70 }) (va_Pc [.ref h0, .int 160] (Pw D T [(h0, .inr (4, [.null, .null, .null, .int 0]))] sz E0)) (va_Qv (fun (u : Nat × Nat × Nat) => True) (fun u t => Bw D T (va_A [(h0, .inr (4, [.null, .null, .null, .int 0]))] sz) [(h0, .inr (4, [.ref u.1, .ref u.2.1, .ref u.2.2, .int 0])), (u.1, .inl (T 0, 160, .inl zI)), (u.2.1, .inl (T 0, 160, .inl zI)), (u.2.2, .inl (T 3, 160, .inr (.inr (.inr (.inl zD)))))] t) (va_A [(h0, .inr (4, [.null, .null, .null, .int 0]))] sz)) 3 480 (va_A [(h0, .inr (4, [.null, .null, .null, .int 0]))] sz) := by
  refine j_met (y := ⟨"PageScribe$Row", "<init>", "(I)V"⟩) (b := prog_8_method_1_code) (n := 2) (ret := none) (av := [.ref h0, .int 160]) (Qc := fun A => va_Qv (fun (u : Nat × Nat × Nat) => True) (fun u t => Bw D T A [(h0, .inr (4, [.ref u.1, .ref u.2.1, .ref u.2.2, .int 0])), (u.1, .inl (T 0, 160, .inl zI)), (u.2.1, .inl (T 0, 160, .inl zI)), (u.2.2, .inl (T 3, 160, .inr (.inr (.inr (.inl zD)))))] t) A) (by decide +kernel) (Nat.le_of_ble_eq_true rfl) (fun p e s m args below meth c A ls F hr hlocks hnm hK hP hD hS hA hN hE hl => ?_)
  obtain ⟨hx, hb, hml, hown, hts⟩ := id F
  have hin := hnm
  have hl : lv_has ls 2 [(0, .ref h0), (1, .int 160)] := hl
  refine lv_aload_n hx hb d_Row_init_0 rfl (lv_at hl 0 rfl) ?_
  refine j_obj F hl.1 k_1_45 k_1_35 k_1_36 d_Row_init_1 (Nat.le_of_ble_eq_true rfl) (Nat.le_of_ble_eq_true rfl) ?_
  refine lv_aload_n hx hb d_Row_init_4 rfl (lv_at hl 0 rfl) ?_
  refine lv_iconst (v := 0) hx hb d_Row_init_5 (by decide +kernel) ?_
  refine va_put (D := D) (ci := 4) (v := .int 0) (ty := .int) (C := "PageScribe$Row") (T := F_Row) (N := 4) hx hb hts i_Row t_Row t_Row_ok n_Row hown hK hP hD hS 0 rfl rfl 3 (by decide +kernel) (hts _ k_1_49) (fun _ h9 => h9) rfl (by decide +kernel) rfl rfl (Nat.le_of_ble_eq_true rfl) d_Row_init_6 (fun H locs hP hD hS => ?_)
  have hP : va_P D classes [(h0, .inr (4, [.null, .null, .null, .int 0]))] H := hP
  have hD : va_D A [(h0, .inr (4, [.null, .null, .null, .int 0]))] := hD
  refine lv_aload_n hx hb d_Row_init_9 rfl (lv_at hl 0 rfl) ?_
  refine lv_iload_n hx hb d_Row_init_10 rfl (lv_at hl 1 rfl) ?_
  refine j_newa (atype := .int) (ty := .int) F k_1_67 rfl hK hP hD hS hA 0 (T 0) rfl (160, .inl zI) (fun _ => rfl) (by decide +kernel) (by decide +kernel) (by decide +kernel) (Nat.le_of_ble_eq_true rfl) (Nat.le_of_ble_eq_true rfl) d_Row_init_11 (fun q1 H hP hD hS => ?_)
  have hP : va_P D classes [(h0, .inr (4, [.null, .null, .null, .int 0])), (q1, .inl (T 0, 160, .inl zI))] H := hP
  have hD : va_D A [(h0, .inr (4, [.null, .null, .null, .int 0])), (q1, .inl (T 0, 160, .inl zI))] := hD
  refine va_putF (D := D) (ci := 4) (v := .ref q1) (ty := .array .int) (C := "PageScribe$Row") (T := F_Row) (N := 4) hx hb hts i_Row t_Row t_Row_ok n_Row hown hK hP hD hS 0 rfl rfl 0 (by decide +kernel) (hts _ k_1_46) (fun _ h9 => h9) rfl hin rfl (by decide +kernel) rfl rfl (Nat.le_of_ble_eq_true rfl) d_Row_init_13 (fun H locs hP hD hS => ?_)
  have hP : va_P D classes [(h0, .inr (4, [.ref q1, .null, .null, .int 0])), (q1, .inl (T 0, 160, .inl zI))] H := hP
  have hD : va_D A [(h0, .inr (4, [.ref q1, .null, .null, .int 0])), (q1, .inl (T 0, 160, .inl zI))] := hD
  refine lv_aload_n hx hb d_Row_init_16 rfl (lv_at hl 0 rfl) ?_
  refine lv_iload_n hx hb d_Row_init_17 rfl (lv_at hl 1 rfl) ?_
  refine j_newa (atype := .int) (ty := .int) F k_1_67 rfl hK hP hD hS hA 0 (T 0) rfl (160, .inl zI) (fun _ => rfl) (by decide +kernel) (by decide +kernel) (by decide +kernel) (Nat.le_of_ble_eq_true rfl) (Nat.le_of_ble_eq_true rfl) d_Row_init_18 (fun q2 H hP hD hS => ?_)
  have hP : va_P D classes [(h0, .inr (4, [.ref q1, .null, .null, .int 0])), (q1, .inl (T 0, 160, .inl zI)), (q2, .inl (T 0, 160, .inl zI))] H := hP
  have hD : va_D A [(h0, .inr (4, [.ref q1, .null, .null, .int 0])), (q1, .inl (T 0, 160, .inl zI)), (q2, .inl (T 0, 160, .inl zI))] := hD
  refine va_putF (D := D) (ci := 4) (v := .ref q2) (ty := .array .int) (C := "PageScribe$Row") (T := F_Row) (N := 4) hx hb hts i_Row t_Row t_Row_ok n_Row hown hK hP hD hS 0 rfl rfl 1 (by decide +kernel) (hts _ k_1_47) (fun _ h9 => h9) rfl hin rfl (by decide +kernel) rfl rfl (Nat.le_of_ble_eq_true rfl) d_Row_init_20 (fun H locs hP hD hS => ?_)
  have hP : va_P D classes [(h0, .inr (4, [.ref q1, .ref q2, .null, .int 0])), (q1, .inl (T 0, 160, .inl zI)), (q2, .inl (T 0, 160, .inl zI))] H := hP
  have hD : va_D A [(h0, .inr (4, [.ref q1, .ref q2, .null, .int 0])), (q1, .inl (T 0, 160, .inl zI)), (q2, .inl (T 0, 160, .inl zI))] := hD
  refine lv_aload_n hx hb d_Row_init_23 rfl (lv_at hl 0 rfl) ?_
  refine lv_iload_n hx hb d_Row_init_24 rfl (lv_at hl 1 rfl) ?_
  refine j_newa (atype := .double) (ty := .double) F k_1_68 rfl hK hP hD hS hA 3 (T 3) rfl (160, .inr (.inr (.inr (.inl zD)))) (fun _ => rfl) (by decide +kernel) (by decide +kernel) (by decide +kernel) (Nat.le_of_ble_eq_true rfl) (Nat.le_of_ble_eq_true rfl) d_Row_init_25 (fun q3 H hP hD hS => ?_)
  have hP : va_P D classes [(h0, .inr (4, [.ref q1, .ref q2, .null, .int 0])), (q1, .inl (T 0, 160, .inl zI)), (q2, .inl (T 0, 160, .inl zI)), (q3, .inl (T 3, 160, .inr (.inr (.inr (.inl zD)))))] H := hP
  have hD : va_D A [(h0, .inr (4, [.ref q1, .ref q2, .null, .int 0])), (q1, .inl (T 0, 160, .inl zI)), (q2, .inl (T 0, 160, .inl zI)), (q3, .inl (T 3, 160, .inr (.inr (.inr (.inl zD)))))] := hD
  refine va_putF (D := D) (ci := 4) (v := .ref q3) (ty := .array .double) (C := "PageScribe$Row") (T := F_Row) (N := 4) hx hb hts i_Row t_Row t_Row_ok n_Row hown hK hP hD hS 0 rfl rfl 2 (by decide +kernel) (hts _ k_1_48) (fun _ h9 => h9) rfl hin rfl (by decide +kernel) rfl rfl (Nat.le_of_ble_eq_true rfl) d_Row_init_27 (fun H locs hP hD hS => ?_)
  have hP : va_P D classes [(h0, .inr (4, [.ref q1, .ref q2, .ref q3, .int 0])), (q1, .inl (T 0, 160, .inl zI)), (q2, .inl (T 0, 160, .inl zI)), (q3, .inl (T 3, 160, .inr (.inr (.inr (.inl zD)))))] H := hP
  have hD : va_D A [(h0, .inr (4, [.ref q1, .ref q2, .ref q3, .int 0])), (q1, .inl (T 0, 160, .inl zI)), (q2, .inl (T 0, 160, .inl zI)), (q3, .inl (T 3, 160, .inr (.inr (.inr (.inl zD)))))] := hD
  have hP9 := hP.sub (ws' := [(h0, .inr (4, [.ref q1, .ref q2, .ref q3, .int 0])), (q1, .inl (T 0, 160, .inl zI)), (q2, .inl (T 0, 160, .inl zI)), (q3, .inl (T 3, 160, .inr (.inr (.inr (.inl zD)))))]) [0, 1, 2, 3] rfl
  have hD9 := hD.sub (ws' := [(h0, .inr (4, [.ref q1, .ref q2, .ref q3, .int 0])), (q1, .inl (T 0, 160, .inl zI)), (q2, .inl (T 0, 160, .inl zI)), (q3, .inl (T 3, 160, .inr (.inr (.inr (.inl zD)))))]) [0, 1, 2, 3] (by decide +kernel) rfl
  refine W.widen (k := 3) (n := 480) (Nat.le_of_ble_eq_true rfl) (Nat.le_of_ble_eq_true rfl) ?_
  exact j_vret F hr hlocks hK hS (q1, q2, q3) trivial hP9 hD9 d_Row_init_30
set_option maxHeartbeats 4000000 in
set_option maxRecDepth 100000 in
theorem i_Row_init_Row80 (l : Launch) (D : va_G) (T : Nat → ClassId) (h0 : Nat) (sz : Nat) : Met l ⟨"PageScribe$Row", "<init>", "(I)V"⟩ (wy ⟨"PageScribe$Row", "<init>", "(I)V"⟩ prog_8_method_1_code 2 none) ({ frames := 1, cells := 3, slots := 240, locals := 70 }) (va_Pc [.ref h0, .int 80] (Pw D T [(h0, .inr (4, [.null, .null, .null, .int 0]))] sz E0)) (va_Qv (fun (u : Nat × Nat × Nat) => True) (fun u t => Bw D T (va_A [(h0, .inr (4, [.null, .null, .null, .int 0]))] sz) [(h0, .inr (4, [.ref u.1, .ref u.2.1, .ref u.2.2, .int 0])), (u.1, .inl (T 0, 80, .inl zI)), (u.2.1, .inl (T 0, 80, .inl zI)), (u.2.2, .inl (T 3, 80, .inr (.inr (.inr (.inl zD)))))] t) (va_A [(h0, .inr (4, [.null, .null, .null, .int 0]))] sz)) 3 240 (va_A [(h0, .inr (4, [.null, .null, .null, .int 0]))] sz) := by
  refine j_met (y := ⟨"PageScribe$Row", "<init>", "(I)V"⟩) (b := prog_8_method_1_code) (n := 2) (ret := none) (av := [.ref h0, .int 80]) (Qc := fun A => va_Qv (fun (u : Nat × Nat × Nat) => True) (fun u t => Bw D T A [(h0, .inr (4, [.ref u.1, .ref u.2.1, .ref u.2.2, .int 0])), (u.1, .inl (T 0, 80, .inl zI)), (u.2.1, .inl (T 0, 80, .inl zI)), (u.2.2, .inl (T 3, 80, .inr (.inr (.inr (.inl zD)))))] t) A) (by decide +kernel) (Nat.le_of_ble_eq_true rfl) (fun p e s m args below meth c A ls F hr hlocks hnm hK hP hD hS hA hN hE hl => ?_)
  obtain ⟨hx, hb, hml, hown, hts⟩ := id F
  have hin := hnm
  have hl : lv_has ls 2 [(0, .ref h0), (1, .int 80)] := hl
  refine lv_aload_n hx hb d_Row_init_0 rfl (lv_at hl 0 rfl) ?_
  refine j_obj F hl.1 k_1_45 k_1_35 k_1_36 d_Row_init_1 (Nat.le_of_ble_eq_true rfl) (Nat.le_of_ble_eq_true rfl) ?_
  refine lv_aload_n hx hb d_Row_init_4 rfl (lv_at hl 0 rfl) ?_
  refine lv_iconst (v := 0) hx hb d_Row_init_5 (by decide +kernel) ?_
  refine va_put (D := D) (ci := 4) (v := .int 0) (ty := .int) (C := "PageScribe$Row") (T := F_Row) (N := 4) hx hb hts i_Row t_Row t_Row_ok n_Row hown hK hP hD hS 0 rfl rfl 3 (by decide +kernel) (hts _ k_1_49) (fun _ h9 => h9) rfl (by decide +kernel) rfl rfl (Nat.le_of_ble_eq_true rfl) d_Row_init_6 (fun H locs hP hD hS => ?_)
  have hP : va_P D classes [(h0, .inr (4, [.null, .null, .null, .int 0]))] H := hP
  have hD : va_D A [(h0, .inr (4, [.null, .null, .null, .int 0]))] := hD
  refine lv_aload_n hx hb d_Row_init_9 rfl (lv_at hl 0 rfl) ?_
  refine lv_iload_n hx hb d_Row_init_10 rfl (lv_at hl 1 rfl) ?_
  refine j_newa (atype := .int) (ty := .int) F k_1_67 rfl hK hP hD hS hA 0 (T 0) rfl (80, .inl zI) (fun _ => rfl) (by decide +kernel) (by decide +kernel) (by decide +kernel) (Nat.le_of_ble_eq_true rfl) (Nat.le_of_ble_eq_true rfl) d_Row_init_11 (fun q1 H hP hD hS => ?_)
  have hP : va_P D classes [(h0, .inr (4, [.null, .null, .null, .int 0])), (q1, .inl (T 0, 80, .inl zI))] H := hP
  have hD : va_D A [(h0, .inr (4, [.null, .null, .null, .int 0])), (q1, .inl (T 0, 80, .inl zI))] := hD
  refine va_putF (D := D) (ci := 4) (v := .ref q1) (ty := .array .int) (C := "PageScribe$Row") (T := F_Row) (N := 4) hx hb hts i_Row t_Row t_Row_ok n_Row hown hK hP hD hS 0 rfl rfl 0 (by decide +kernel) (hts _ k_1_46) (fun _ h9 => h9) rfl hin rfl (by decide +kernel) rfl rfl (Nat.le_of_ble_eq_true rfl) d_Row_init_13 (fun H locs hP hD hS => ?_)
  have hP : va_P D classes [(h0, .inr (4, [.ref q1, .null, .null, .int 0])), (q1, .inl (T 0, 80, .inl zI))] H := hP
  have hD : va_D A [(h0, .inr (4, [.ref q1, .null, .null, .int 0])), (q1, .inl (T 0, 80, .inl zI))] := hD
  refine lv_aload_n hx hb d_Row_init_16 rfl (lv_at hl 0 rfl) ?_
  refine lv_iload_n hx hb d_Row_init_17 rfl (lv_at hl 1 rfl) ?_
  refine j_newa (atype := .int) (ty := .int) F k_1_67 rfl hK hP hD hS hA 0 (T 0) rfl (80, .inl zI) (fun _ => rfl) (by decide +kernel) (by decide +kernel) (by decide +kernel) (Nat.le_of_ble_eq_true rfl) (Nat.le_of_ble_eq_true rfl) d_Row_init_18 (fun q2 H hP hD hS => ?_)
  have hP : va_P D classes [(h0, .inr (4, [.ref q1, .null, .null, .int 0])), (q1, .inl (T 0, 80, .inl zI)), (q2, .inl (T 0, 80, .inl zI))] H := hP
  have hD : va_D A [(h0, .inr (4, [.ref q1, .null, .null, .int 0])), (q1, .inl (T 0, 80, .inl zI)), (q2, .inl (T 0, 80, .inl zI))] := hD
  refine va_putF (D := D) (ci := 4) (v := .ref q2) (ty := .array .int) (C := "PageScribe$Row") (T := F_Row) (N := 4) hx hb hts i_Row t_Row t_Row_ok n_Row hown hK hP hD hS 0 rfl rfl 1 (by decide +kernel) (hts _ k_1_47) (fun _ h9 => h9) rfl hin rfl (by decide +kernel) rfl rfl (Nat.le_of_ble_eq_true rfl) d_Row_init_20 (fun H locs hP hD hS => ?_)
  have hP : va_P D classes [(h0, .inr (4, [.ref q1, .ref q2, .null, .int 0])), (q1, .inl (T 0, 80, .inl zI)), (q2, .inl (T 0, 80, .inl zI))] H := hP
  have hD : va_D A [(h0, .inr (4, [.ref q1, .ref q2, .null, .int 0])), (q1, .inl (T 0, 80, .inl zI)), (q2, .inl (T 0, 80, .inl zI))] := hD
  refine lv_aload_n hx hb d_Row_init_23 rfl (lv_at hl 0 rfl) ?_
  refine lv_iload_n hx hb d_Row_init_24 rfl (lv_at hl 1 rfl) ?_
  refine j_newa (atype := .double) (ty := .double) F k_1_68 rfl hK hP hD hS hA 3 (T 3) rfl (80, .inr (.inr (.inr (.inl zD)))) (fun _ => rfl) (by decide +kernel) (by decide +kernel) (by decide +kernel) (Nat.le_of_ble_eq_true rfl) (Nat.le_of_ble_eq_true rfl) d_Row_init_25 (fun q3 H hP hD hS => ?_)
  have hP : va_P D classes [(h0, .inr (4, [.ref q1, .ref q2, .null, .int 0])), (q1, .inl (T 0, 80, .inl zI)), (q2, .inl (T 0, 80, .inl zI)), (q3, .inl (T 3, 80, .inr (.inr (.inr (.inl zD)))))] H := hP
  have hD : va_D A [(h0, .inr (4, [.ref q1, .ref q2, .null, .int 0])), (q1, .inl (T 0, 80, .inl zI)), (q2, .inl (T 0, 80, .inl zI)), (q3, .inl (T 3, 80, .inr (.inr (.inr (.inl zD)))))] := hD
  refine va_putF (D := D) (ci := 4) (v := .ref q3) (ty := .array .double) (C := "PageScribe$Row") (T := F_Row) (N := 4) hx hb hts i_Row t_Row t_Row_ok n_Row hown hK hP hD hS 0 rfl rfl 2 (by decide +kernel) (hts _ k_1_48) (fun _ h9 => h9) rfl hin rfl (by decide +kernel) rfl rfl (Nat.le_of_ble_eq_true rfl) d_Row_init_27 (fun H locs hP hD hS => ?_)
  have hP : va_P D classes [(h0, .inr (4, [.ref q1, .ref q2, .ref q3, .int 0])), (q1, .inl (T 0, 80, .inl zI)), (q2, .inl (T 0, 80, .inl zI)), (q3, .inl (T 3, 80, .inr (.inr (.inr (.inl zD)))))] H := hP
  have hD : va_D A [(h0, .inr (4, [.ref q1, .ref q2, .ref q3, .int 0])), (q1, .inl (T 0, 80, .inl zI)), (q2, .inl (T 0, 80, .inl zI)), (q3, .inl (T 3, 80, .inr (.inr (.inr (.inl zD)))))] := hD
  have hP9 := hP.sub (ws' := [(h0, .inr (4, [.ref q1, .ref q2, .ref q3, .int 0])), (q1, .inl (T 0, 80, .inl zI)), (q2, .inl (T 0, 80, .inl zI)), (q3, .inl (T 3, 80, .inr (.inr (.inr (.inl zD)))))]) [0, 1, 2, 3] rfl
  have hD9 := hD.sub (ws' := [(h0, .inr (4, [.ref q1, .ref q2, .ref q3, .int 0])), (q1, .inl (T 0, 80, .inl zI)), (q2, .inl (T 0, 80, .inl zI)), (q3, .inl (T 3, 80, .inr (.inr (.inr (.inl zD)))))]) [0, 1, 2, 3] (by decide +kernel) rfl
  refine W.widen (k := 3) (n := 240) (Nat.le_of_ble_eq_true rfl) (Nat.le_of_ble_eq_true rfl) ?_
  exact j_vret F hr hlocks hK hS (q1, q2, q3) trivial hP9 hD9 d_Row_init_30
set_option maxHeartbeats 4000000 in
set_option maxRecDepth 100000 in
theorem i_Row_init_Row120 (l : Launch) (D : va_G) (T : Nat → ClassId) (h0 : Nat) (sz : Nat) : Met l ⟨"PageScribe$Row", "<init>", "(I)V"⟩ (wy ⟨"PageScribe$Row", "<init>", "(I)V"⟩ prog_8_method_1_code 2 none) ({ frames := 1, cells := 3, slots := 360, locals := 70 }) (va_Pc [.ref h0, .int 120] (Pw D T [(h0, .inr (4, [.null, .null, .null, .int 0]))] sz E0)) (va_Qv (fun (u : Nat × Nat × Nat) => True) (fun u t => Bw D T (va_A [(h0, .inr (4, [.null, .null, .null, .int 0]))] sz) [(h0, .inr (4, [.ref u.1, .ref u.2.1, .ref u.2.2, .int 0])), (u.1, .inl (T 0, 120, .inl zI)), (u.2.1, .inl (T 0, 120, .inl zI)), (u.2.2, .inl (T 3, 120, .inr (.inr (.inr (.inl zD)))))] t) (va_A [(h0, .inr (4, [.null, .null, .null, .int 0]))] sz)) 3 360 (va_A [(h0, .inr (4, [.null, .null, .null, .int 0]))] sz) := by
  refine j_met (y := ⟨"PageScribe$Row", "<init>", "(I)V"⟩) (b := prog_8_method_1_code) (n := 2) (ret := none) (av := [.ref h0, .int 120]) (Qc := fun A => va_Qv (fun (u : Nat × Nat × Nat) => True) (fun u t => Bw D T A [(h0, .inr (4, [.ref u.1, .ref u.2.1, .ref u.2.2, .int 0])), (u.1, .inl (T 0, 120, .inl zI)), (u.2.1, .inl (T 0, 120, .inl zI)), (u.2.2, .inl (T 3, 120, .inr (.inr (.inr (.inl zD)))))] t) A) (by decide +kernel) (Nat.le_of_ble_eq_true rfl) (fun p e s m args below meth c A ls F hr hlocks hnm hK hP hD hS hA hN hE hl => ?_)
  obtain ⟨hx, hb, hml, hown, hts⟩ := id F
  have hin := hnm
  have hl : lv_has ls 2 [(0, .ref h0), (1, .int 120)] := hl
  refine lv_aload_n hx hb d_Row_init_0 rfl (lv_at hl 0 rfl) ?_
  refine j_obj F hl.1 k_1_45 k_1_35 k_1_36 d_Row_init_1 (Nat.le_of_ble_eq_true rfl) (Nat.le_of_ble_eq_true rfl) ?_
  refine lv_aload_n hx hb d_Row_init_4 rfl (lv_at hl 0 rfl) ?_
  refine lv_iconst (v := 0) hx hb d_Row_init_5 (by decide +kernel) ?_
  refine va_put (D := D) (ci := 4) (v := .int 0) (ty := .int) (C := "PageScribe$Row") (T := F_Row) (N := 4) hx hb hts i_Row t_Row t_Row_ok n_Row hown hK hP hD hS 0 rfl rfl 3 (by decide +kernel) (hts _ k_1_49) (fun _ h9 => h9) rfl (by decide +kernel) rfl rfl (Nat.le_of_ble_eq_true rfl) d_Row_init_6 (fun H locs hP hD hS => ?_)
  have hP : va_P D classes [(h0, .inr (4, [.null, .null, .null, .int 0]))] H := hP
  have hD : va_D A [(h0, .inr (4, [.null, .null, .null, .int 0]))] := hD
  refine lv_aload_n hx hb d_Row_init_9 rfl (lv_at hl 0 rfl) ?_
  refine lv_iload_n hx hb d_Row_init_10 rfl (lv_at hl 1 rfl) ?_
  refine j_newa (atype := .int) (ty := .int) F k_1_67 rfl hK hP hD hS hA 0 (T 0) rfl (120, .inl zI) (fun _ => rfl) (by decide +kernel) (by decide +kernel) (by decide +kernel) (Nat.le_of_ble_eq_true rfl) (Nat.le_of_ble_eq_true rfl) d_Row_init_11 (fun q1 H hP hD hS => ?_)
  have hP : va_P D classes [(h0, .inr (4, [.null, .null, .null, .int 0])), (q1, .inl (T 0, 120, .inl zI))] H := hP
  have hD : va_D A [(h0, .inr (4, [.null, .null, .null, .int 0])), (q1, .inl (T 0, 120, .inl zI))] := hD
  refine va_putF (D := D) (ci := 4) (v := .ref q1) (ty := .array .int) (C := "PageScribe$Row") (T := F_Row) (N := 4) hx hb hts i_Row t_Row t_Row_ok n_Row hown hK hP hD hS 0 rfl rfl 0 (by decide +kernel) (hts _ k_1_46) (fun _ h9 => h9) rfl hin rfl (by decide +kernel) rfl rfl (Nat.le_of_ble_eq_true rfl) d_Row_init_13 (fun H locs hP hD hS => ?_)
  have hP : va_P D classes [(h0, .inr (4, [.ref q1, .null, .null, .int 0])), (q1, .inl (T 0, 120, .inl zI))] H := hP
  have hD : va_D A [(h0, .inr (4, [.ref q1, .null, .null, .int 0])), (q1, .inl (T 0, 120, .inl zI))] := hD
  refine lv_aload_n hx hb d_Row_init_16 rfl (lv_at hl 0 rfl) ?_
  refine lv_iload_n hx hb d_Row_init_17 rfl (lv_at hl 1 rfl) ?_
  refine j_newa (atype := .int) (ty := .int) F k_1_67 rfl hK hP hD hS hA 0 (T 0) rfl (120, .inl zI) (fun _ => rfl) (by decide +kernel) (by decide +kernel) (by decide +kernel) (Nat.le_of_ble_eq_true rfl) (Nat.le_of_ble_eq_true rfl) d_Row_init_18 (fun q2 H hP hD hS => ?_)
  have hP : va_P D classes [(h0, .inr (4, [.ref q1, .null, .null, .int 0])), (q1, .inl (T 0, 120, .inl zI)), (q2, .inl (T 0, 120, .inl zI))] H := hP
  have hD : va_D A [(h0, .inr (4, [.ref q1, .null, .null, .int 0])), (q1, .inl (T 0, 120, .inl zI)), (q2, .inl (T 0, 120, .inl zI))] := hD
  refine va_putF (D := D) (ci := 4) (v := .ref q2) (ty := .array .int) (C := "PageScribe$Row") (T := F_Row) (N := 4) hx hb hts i_Row t_Row t_Row_ok n_Row hown hK hP hD hS 0 rfl rfl 1 (by decide +kernel) (hts _ k_1_47) (fun _ h9 => h9) rfl hin rfl (by decide +kernel) rfl rfl (Nat.le_of_ble_eq_true rfl) d_Row_init_20 (fun H locs hP hD hS => ?_)
  have hP : va_P D classes [(h0, .inr (4, [.ref q1, .ref q2, .null, .int 0])), (q1, .inl (T 0, 120, .inl zI)), (q2, .inl (T 0, 120, .inl zI))] H := hP
  have hD : va_D A [(h0, .inr (4, [.ref q1, .ref q2, .null, .int 0])), (q1, .inl (T 0, 120, .inl zI)), (q2, .inl (T 0, 120, .inl zI))] := hD
  refine lv_aload_n hx hb d_Row_init_23 rfl (lv_at hl 0 rfl) ?_
  refine lv_iload_n hx hb d_Row_init_24 rfl (lv_at hl 1 rfl) ?_
  refine j_newa (atype := .double) (ty := .double) F k_1_68 rfl hK hP hD hS hA 3 (T 3) rfl (120, .inr (.inr (.inr (.inl zD)))) (fun _ => rfl) (by decide +kernel) (by decide +kernel) (by decide +kernel) (Nat.le_of_ble_eq_true rfl) (Nat.le_of_ble_eq_true rfl) d_Row_init_25 (fun q3 H hP hD hS => ?_)
  have hP : va_P D classes [(h0, .inr (4, [.ref q1, .ref q2, .null, .int 0])), (q1, .inl (T 0, 120, .inl zI)), (q2, .inl (T 0, 120, .inl zI)), (q3, .inl (T 3, 120, .inr (.inr (.inr (.inl zD)))))] H := hP
  have hD : va_D A [(h0, .inr (4, [.ref q1, .ref q2, .null, .int 0])), (q1, .inl (T 0, 120, .inl zI)), (q2, .inl (T 0, 120, .inl zI)), (q3, .inl (T 3, 120, .inr (.inr (.inr (.inl zD)))))] := hD
  refine va_putF (D := D) (ci := 4) (v := .ref q3) (ty := .array .double) (C := "PageScribe$Row") (T := F_Row) (N := 4) hx hb hts i_Row t_Row t_Row_ok n_Row hown hK hP hD hS 0 rfl rfl 2 (by decide +kernel) (hts _ k_1_48) (fun _ h9 => h9) rfl hin rfl (by decide +kernel) rfl rfl (Nat.le_of_ble_eq_true rfl) d_Row_init_27 (fun H locs hP hD hS => ?_)
  have hP : va_P D classes [(h0, .inr (4, [.ref q1, .ref q2, .ref q3, .int 0])), (q1, .inl (T 0, 120, .inl zI)), (q2, .inl (T 0, 120, .inl zI)), (q3, .inl (T 3, 120, .inr (.inr (.inr (.inl zD)))))] H := hP
  have hD : va_D A [(h0, .inr (4, [.ref q1, .ref q2, .ref q3, .int 0])), (q1, .inl (T 0, 120, .inl zI)), (q2, .inl (T 0, 120, .inl zI)), (q3, .inl (T 3, 120, .inr (.inr (.inr (.inl zD)))))] := hD
  have hP9 := hP.sub (ws' := [(h0, .inr (4, [.ref q1, .ref q2, .ref q3, .int 0])), (q1, .inl (T 0, 120, .inl zI)), (q2, .inl (T 0, 120, .inl zI)), (q3, .inl (T 3, 120, .inr (.inr (.inr (.inl zD)))))]) [0, 1, 2, 3] rfl
  have hD9 := hD.sub (ws' := [(h0, .inr (4, [.ref q1, .ref q2, .ref q3, .int 0])), (q1, .inl (T 0, 120, .inl zI)), (q2, .inl (T 0, 120, .inl zI)), (q3, .inl (T 3, 120, .inr (.inr (.inr (.inl zD)))))]) [0, 1, 2, 3] (by decide +kernel) rfl
  refine W.widen (k := 3) (n := 360) (Nat.le_of_ble_eq_true rfl) (Nat.le_of_ble_eq_true rfl) ?_
  exact j_vret F hr hlocks hK hS (q1, q2, q3) trivial hP9 hD9 d_Row_init_30
theorem d_Stack_init_0 : decode prog_9_method_1_code 0 = .ok (.aload_n 0, 1) := by decide +kernel
theorem d_Stack_init_1 : decode prog_9_method_1_code 1 = .ok (.bipush 40, 2) := by decide +kernel
theorem d_Stack_init_3 : decode prog_9_method_1_code 3 = .ok (.invokespecial 3, 3) := by decide +kernel
theorem k_1_44 : Cond.code ⟨"PageScribe$Row", "<init>", "(I)V"⟩ prog_8_method_1_code 2 none ∈ gw := gw_of (tb_1 (List.mem_of_getElem? (i := 44) (by decide +kernel))) (by decide +kernel)
theorem k_1_42 : Cond.methodLink "PageScribe$Stack" 3 ⟨"PageScribe$Row", "<init>", "(I)V"⟩ ∈ gw := gw_of (tb_1 (List.mem_of_getElem? (i := 42) (by decide +kernel))) (by decide +kernel)
theorem k_1_43 : Cond.instanceMethod ⟨"PageScribe$Row", "<init>", "(I)V"⟩ ∈ gw := gw_of (tb_1 (List.mem_of_getElem? (i := 43) (by decide +kernel))) (by decide +kernel)
theorem d_Stack_init_6 : decode prog_9_method_1_code 6 = .ok (.return_, 1) := by decide +kernel
set_option maxHeartbeats 4000000 in
set_option maxRecDepth 100000 in
theorem i_Stack_init (l : Launch) (D : va_G) (T : Nat → ClassId) (h0 : Nat) (sz : Nat) : Met l ⟨"PageScribe$Stack", "<init>", "()V"⟩ (wy ⟨"PageScribe$Stack", "<init>", "()V"⟩ prog_9_method_1_code 1 none) ({ frames := 2, cells := 3, slots := 120, locals := 140 }) (va_Pc [.ref h0] (Pw D T [(h0, .inr (0, [.null, .null, .null, .int 0]))] sz E0)) (va_Qv (fun (u : Nat × Nat × Nat) => True) (fun u t => Bw D T (va_A [(h0, .inr (0, [.null, .null, .null, .int 0]))] sz) [(h0, .inr (0, [.ref u.1, .ref u.2.1, .ref u.2.2, .int 0])), (u.1, .inl (T 0, 40, .inl zI)), (u.2.1, .inl (T 0, 40, .inl zI)), (u.2.2, .inl (T 3, 40, .inr (.inr (.inr (.inl zD)))))] t) (va_A [(h0, .inr (0, [.null, .null, .null, .int 0]))] sz)) 3 120 (va_A [(h0, .inr (0, [.null, .null, .null, .int 0]))] sz) := by
  refine j_met (y := ⟨"PageScribe$Stack", "<init>", "()V"⟩) (b := prog_9_method_1_code) (n := 1) (ret := none) (av := [.ref h0]) (Qc := fun A => va_Qv (fun (u : Nat × Nat × Nat) => True) (fun u t => Bw D T A [(h0, .inr (0, [.ref u.1, .ref u.2.1, .ref u.2.2, .int 0])), (u.1, .inl (T 0, 40, .inl zI)), (u.2.1, .inl (T 0, 40, .inl zI)), (u.2.2, .inl (T 3, 40, .inr (.inr (.inr (.inl zD)))))] t) A) (by decide +kernel) (Nat.le_of_ble_eq_true rfl) (fun p e s m args below meth c A ls F hr hlocks hnm hK hP hD hS hA hN hE hl => ?_)
  obtain ⟨hx, hb, hml, hown, hts⟩ := id F
  have hin := hnm
  have hl : lv_has ls 1 [(0, .ref h0)] := hl
  refine lv_aload_n hx hb d_Stack_init_0 rfl (lv_at hl 0 rfl) ?_
  refine lv_bipush (v := 40) hx hb d_Stack_init_1 (by decide +kernel) ?_
  refine j_cv (wc := [(h0, .inr (0, [.null, .null, .null, .int 0]))]) (wr := []) hK hP hD hS hA [0] [] rfl rfl (by decide +kernel) (by decide +kernel) (va_runI (As := [.int 40]) (rest := []) F (i_Row_init_Stack40 l D T h0 s.heap.size) (j_cI (k := 1) hts k_1_44 k_1_2 k_1_42 k_1_43 rfl (by decide +kernel) ⟨Nat.le_of_ble_eq_true rfl, Nat.le_of_ble_eq_true rfl⟩) (j_preS hK hP hD [0] rfl (by decide +kernel) (fun _ _ _ _ h => h) (fun _ _ _ => trivial)) rfl rfl hl.1 rfl (lv_room (Nat.le_of_ble_eq_true rfl)) d_Stack_init_3 ⟨Nat.le_of_ble_eq_true rfl, Nat.le_of_ble_eq_true rfl⟩) (fun u1 H locs hw hP hD hS => ?_)
  obtain ⟨a1_1, a2_1, a3_1⟩ := u1
  have hP : va_P D classes [(h0, .inr (0, [.ref a1_1, .ref a2_1, .ref a3_1, .int 0])), (a1_1, .inl (T 0, 40, .inl zI)), (a2_1, .inl (T 0, 40, .inl zI)), (a3_1, .inl (T 3, 40, .inr (.inr (.inr (.inl zD)))))] H := hP
  have hD : va_D A [(h0, .inr (0, [.ref a1_1, .ref a2_1, .ref a3_1, .int 0])), (a1_1, .inl (T 0, 40, .inl zI)), (a2_1, .inl (T 0, 40, .inl zI)), (a3_1, .inl (T 3, 40, .inr (.inr (.inr (.inl zD)))))] := hD
  have hP9 := hP.sub (ws' := [(h0, .inr (0, [.ref a1_1, .ref a2_1, .ref a3_1, .int 0])), (a1_1, .inl (T 0, 40, .inl zI)), (a2_1, .inl (T 0, 40, .inl zI)), (a3_1, .inl (T 3, 40, .inr (.inr (.inr (.inl zD)))))]) [0, 1, 2, 3] rfl
  have hD9 := hD.sub (ws' := [(h0, .inr (0, [.ref a1_1, .ref a2_1, .ref a3_1, .int 0])), (a1_1, .inl (T 0, 40, .inl zI)), (a2_1, .inl (T 0, 40, .inl zI)), (a3_1, .inl (T 3, 40, .inr (.inr (.inr (.inl zD)))))]) [0, 1, 2, 3] (by decide +kernel) rfl
  refine W.widen (k := 3) (n := 120) (Nat.le_of_ble_eq_true rfl) (Nat.le_of_ble_eq_true rfl) ?_
  exact j_vret F hr hlocks hK hS (a1_1, a2_1, a3_1) trivial hP9 hD9 d_Stack_init_6
theorem d_Words_init_0 : decode prog_13_method_1_code 0 = .ok (.aload_n 0, 1) := by decide +kernel
theorem d_Words_init_1 : decode prog_13_method_1_code 1 = .ok (.invokespecial 3, 3) := by decide +kernel
theorem k_1_74 : Cond.methodLink "PageScribe$Words" 3 ⟨"java/lang/Object", "<init>", "()V"⟩ ∈ gw := gw_of (tb_1 (List.mem_of_getElem? (i := 74) (by decide +kernel))) (by decide +kernel)
theorem d_Words_init_4 : decode prog_13_method_1_code 4 = .ok (.aload_n 0, 1) := by decide +kernel
theorem d_Words_init_5 : decode prog_13_method_1_code 5 = .ok (.sipush 320, 3) := by decide +kernel
theorem d_Words_init_8 : decode prog_13_method_1_code 8 = .ok (.newarray .char, 2) := by decide +kernel
theorem k_1_86 : Cond.arrayClass .char ∈ gw := gw_of (tb_1 (List.mem_of_getElem? (i := 86) (by decide +kernel))) (by decide +kernel)
theorem d_Words_init_10 : decode prog_13_method_1_code 10 = .ok (.putfield 9, 3) := by decide +kernel
theorem d_Words_init_13 : decode prog_13_method_1_code 13 = .ok (.aload_n 0, 1) := by decide +kernel
theorem d_Words_init_14 : decode prog_13_method_1_code 14 = .ok (.bipush 40, 2) := by decide +kernel
theorem d_Words_init_16 : decode prog_13_method_1_code 16 = .ok (.newarray .int, 2) := by decide +kernel
theorem d_Words_init_18 : decode prog_13_method_1_code 18 = .ok (.putfield 15, 3) := by decide +kernel
theorem d_Words_init_21 : decode prog_13_method_1_code 21 = .ok (.aload_n 0, 1) := by decide +kernel
theorem d_Words_init_22 : decode prog_13_method_1_code 22 = .ok (.iconst 0, 1) := by decide +kernel
theorem d_Words_init_23 : decode prog_13_method_1_code 23 = .ok (.putfield 19, 3) := by decide +kernel
theorem d_Words_init_26 : decode prog_13_method_1_code 26 = .ok (.return_, 1) := by decide +kernel
set_option maxHeartbeats 4000000 in
set_option maxRecDepth 100000 in
theorem i_Words_init (l : Launch) (D : va_G) (T : Nat → ClassId) (h0 : Nat) (sz : Nat) : Met l ⟨"PageScribe$Words", "<init>", "()V"⟩ (wy ⟨"PageScribe$Words", "<init>", "()V"⟩ prog_13_method_1_code 1 none) ({ frames := 1, cells := 2, slots := 360, locals := 70 }) (va_Pc [.ref h0] (Pw D T [(h0, .inr (1, [.null, .null, .int 0]))] sz E0)) (va_Qv (fun (u : Nat × Nat) => True) (fun u t => Bw D T (va_A [(h0, .inr (1, [.null, .null, .int 0]))] sz) [(h0, .inr (1, [.ref u.1, .ref u.2, .int 0])), (u.1, .inl (T 2, 320, .inl zI)), (u.2, .inl (T 0, 40, .inl zI))] t) (va_A [(h0, .inr (1, [.null, .null, .int 0]))] sz)) 2 360 (va_A [(h0, .inr (1, [.null, .null, .int 0]))] sz) := by
  refine j_met (y := ⟨"PageScribe$Words", "<init>", "()V"⟩) (b := prog_13_method_1_code) (n := 1) (ret := none) (av := [.ref h0]) (Qc := fun A => va_Qv (fun (u : Nat × Nat) => True) (fun u t => Bw D T A [(h0, .inr (1, [.ref u.1, .ref u.2, .int 0])), (u.1, .inl (T 2, 320, .inl zI)), (u.2, .inl (T 0, 40, .inl zI))] t) A) (by decide +kernel) (Nat.le_of_ble_eq_true rfl) (fun p e s m args below meth c A ls F hr hlocks hnm hK hP hD hS hA hN hE hl => ?_)
  obtain ⟨hx, hb, hml, hown, hts⟩ := id F
  have hin := hnm
  have hl : lv_has ls 1 [(0, .ref h0)] := hl
  refine lv_aload_n hx hb d_Words_init_0 rfl (lv_at hl 0 rfl) ?_
  refine j_obj F hl.1 k_1_74 k_1_35 k_1_36 d_Words_init_1 (Nat.le_of_ble_eq_true rfl) (Nat.le_of_ble_eq_true rfl) ?_
  refine lv_aload_n hx hb d_Words_init_4 rfl (lv_at hl 0 rfl) ?_
  refine lv_sipush (v := 320) hx hb d_Words_init_5 (by decide +kernel) ?_
  refine j_newa (atype := .char) (ty := .char) F k_1_86 rfl hK hP hD hS hA 2 (T 2) rfl (320, .inl zI) (fun _ => rfl) (by decide +kernel) (by decide +kernel) (by decide +kernel) (Nat.le_of_ble_eq_true rfl) (Nat.le_of_ble_eq_true rfl) d_Words_init_8 (fun q1 H hP hD hS => ?_)
  have hP : va_P D classes [(h0, .inr (1, [.null, .null, .int 0])), (q1, .inl (T 2, 320, .inl zI))] H := hP
  have hD : va_D A [(h0, .inr (1, [.null, .null, .int 0])), (q1, .inl (T 2, 320, .inl zI))] := hD
  refine va_putF (D := D) (ci := 1) (v := .ref q1) (ty := .array .char) (C := "PageScribe$Words") (T := F_Words) (N := 3) hx hb hts i_Words t_Words t_Words_ok n_Words hown hK hP hD hS 0 rfl rfl 0 (by decide +kernel) (hts _ k_1_75) (fun _ h9 => h9) rfl hin rfl (by decide +kernel) rfl rfl (Nat.le_of_ble_eq_true rfl) d_Words_init_10 (fun H locs hP hD hS => ?_)
  have hP : va_P D classes [(h0, .inr (1, [.ref q1, .null, .int 0])), (q1, .inl (T 2, 320, .inl zI))] H := hP
  have hD : va_D A [(h0, .inr (1, [.ref q1, .null, .int 0])), (q1, .inl (T 2, 320, .inl zI))] := hD
  refine lv_aload_n hx hb d_Words_init_13 rfl (lv_at hl 0 rfl) ?_
  refine lv_bipush (v := 40) hx hb d_Words_init_14 (by decide +kernel) ?_
  refine j_newa (atype := .int) (ty := .int) F k_1_67 rfl hK hP hD hS hA 0 (T 0) rfl (40, .inl zI) (fun _ => rfl) (by decide +kernel) (by decide +kernel) (by decide +kernel) (Nat.le_of_ble_eq_true rfl) (Nat.le_of_ble_eq_true rfl) d_Words_init_16 (fun q2 H hP hD hS => ?_)
  have hP : va_P D classes [(h0, .inr (1, [.ref q1, .null, .int 0])), (q1, .inl (T 2, 320, .inl zI)), (q2, .inl (T 0, 40, .inl zI))] H := hP
  have hD : va_D A [(h0, .inr (1, [.ref q1, .null, .int 0])), (q1, .inl (T 2, 320, .inl zI)), (q2, .inl (T 0, 40, .inl zI))] := hD
  refine va_putF (D := D) (ci := 1) (v := .ref q2) (ty := .array .int) (C := "PageScribe$Words") (T := F_Words) (N := 3) hx hb hts i_Words t_Words t_Words_ok n_Words hown hK hP hD hS 0 rfl rfl 1 (by decide +kernel) (hts _ k_1_76) (fun _ h9 => h9) rfl hin rfl (by decide +kernel) rfl rfl (Nat.le_of_ble_eq_true rfl) d_Words_init_18 (fun H locs hP hD hS => ?_)
  have hP : va_P D classes [(h0, .inr (1, [.ref q1, .ref q2, .int 0])), (q1, .inl (T 2, 320, .inl zI)), (q2, .inl (T 0, 40, .inl zI))] H := hP
  have hD : va_D A [(h0, .inr (1, [.ref q1, .ref q2, .int 0])), (q1, .inl (T 2, 320, .inl zI)), (q2, .inl (T 0, 40, .inl zI))] := hD
  refine lv_aload_n hx hb d_Words_init_21 rfl (lv_at hl 0 rfl) ?_
  refine lv_iconst (v := 0) hx hb d_Words_init_22 (by decide +kernel) ?_
  refine va_put (D := D) (ci := 1) (v := .int 0) (ty := .int) (C := "PageScribe$Words") (T := F_Words) (N := 3) hx hb hts i_Words t_Words t_Words_ok n_Words hown hK hP hD hS 0 rfl rfl 2 (by decide +kernel) (hts _ k_1_77) (fun _ h9 => h9) rfl (by decide +kernel) rfl rfl (Nat.le_of_ble_eq_true rfl) d_Words_init_23 (fun H locs hP hD hS => ?_)
  have hP : va_P D classes [(h0, .inr (1, [.ref q1, .ref q2, .int 0])), (q1, .inl (T 2, 320, .inl zI)), (q2, .inl (T 0, 40, .inl zI))] H := hP
  have hD : va_D A [(h0, .inr (1, [.ref q1, .ref q2, .int 0])), (q1, .inl (T 2, 320, .inl zI)), (q2, .inl (T 0, 40, .inl zI))] := hD
  have hP9 := hP.sub (ws' := [(h0, .inr (1, [.ref q1, .ref q2, .int 0])), (q1, .inl (T 2, 320, .inl zI)), (q2, .inl (T 0, 40, .inl zI))]) [0, 1, 2] rfl
  have hD9 := hD.sub (ws' := [(h0, .inr (1, [.ref q1, .ref q2, .int 0])), (q1, .inl (T 2, 320, .inl zI)), (q2, .inl (T 0, 40, .inl zI))]) [0, 1, 2] (by decide +kernel) rfl
  refine W.widen (k := 2) (n := 360) (Nat.le_of_ble_eq_true rfl) (Nat.le_of_ble_eq_true rfl) ?_
  exact j_vret F hr hlocks hK hS (q1, q2) trivial hP9 hD9 d_Words_init_26
theorem d_Store_init_0 : decode prog_10_method_1_code 0 = .ok (.aload_n 0, 1) := by decide +kernel
theorem d_Store_init_1 : decode prog_10_method_1_code 1 = .ok (.invokespecial 3, 3) := by decide +kernel
theorem k_1_98 : Cond.methodLink "PageScribe$Store" 3 ⟨"java/lang/Object", "<init>", "()V"⟩ ∈ gw := gw_of (tb_1 (List.mem_of_getElem? (i := 98) (by decide +kernel))) (by decide +kernel)
theorem d_Store_init_4 : decode prog_10_method_1_code 4 = .ok (.aload_n 0, 1) := by decide +kernel
theorem d_Store_init_5 : decode prog_10_method_1_code 5 = .ok (.new 9, 3) := by decide +kernel
theorem k_1_99 : Cond.classLink "PageScribe$Store" 9 "PageScribe$Row" ∈ gw := gw_of (tb_1 (List.mem_of_getElem? (i := 99) (by decide +kernel))) (by decide +kernel)
theorem k_1_100 : Cond.instantiable "PageScribe$Row" 4 ∈ gw := gw_of (tb_1 (List.mem_of_getElem? (i := 100) (by decide +kernel))) (by decide +kernel)
theorem d_Store_init_8 : decode prog_10_method_1_code 8 = .ok (.dup, 1) := by decide +kernel
theorem d_Store_init_9 : decode prog_10_method_1_code 9 = .ok (.sipush 160, 3) := by decide +kernel
theorem d_Store_init_12 : decode prog_10_method_1_code 12 = .ok (.invokespecial 11, 3) := by decide +kernel
theorem k_1_101 : Cond.methodLink "PageScribe$Store" 11 ⟨"PageScribe$Row", "<init>", "(I)V"⟩ ∈ gw := gw_of (tb_1 (List.mem_of_getElem? (i := 101) (by decide +kernel))) (by decide +kernel)
theorem d_Store_init_15 : decode prog_10_method_1_code 15 = .ok (.putfield 14, 3) := by decide +kernel
theorem d_Store_init_18 : decode prog_10_method_1_code 18 = .ok (.aload_n 0, 1) := by decide +kernel
theorem d_Store_init_19 : decode prog_10_method_1_code 19 = .ok (.bipush 7, 2) := by decide +kernel
theorem d_Store_init_21 : decode prog_10_method_1_code 21 = .ok (.newarray .int, 2) := by decide +kernel
theorem d_Store_init_23 : decode prog_10_method_1_code 23 = .ok (.putfield 20, 3) := by decide +kernel
theorem d_Store_init_26 : decode prog_10_method_1_code 26 = .ok (.aload_n 0, 1) := by decide +kernel
theorem d_Store_init_27 : decode prog_10_method_1_code 27 = .ok (.bipush 7, 2) := by decide +kernel
theorem d_Store_init_29 : decode prog_10_method_1_code 29 = .ok (.newarray .int, 2) := by decide +kernel
theorem d_Store_init_31 : decode prog_10_method_1_code 31 = .ok (.putfield 24, 3) := by decide +kernel
theorem d_Store_init_34 : decode prog_10_method_1_code 34 = .ok (.aload_n 0, 1) := by decide +kernel
theorem d_Store_init_35 : decode prog_10_method_1_code 35 = .ok (.bipush 80, 2) := by decide +kernel
theorem d_Store_init_37 : decode prog_10_method_1_code 37 = .ok (.newarray .int, 2) := by decide +kernel
theorem d_Store_init_39 : decode prog_10_method_1_code 39 = .ok (.putfield 27, 3) := by decide +kernel
theorem d_Store_init_42 : decode prog_10_method_1_code 42 = .ok (.aload_n 0, 1) := by decide +kernel
theorem d_Store_init_43 : decode prog_10_method_1_code 43 = .ok (.new 9, 3) := by decide +kernel
theorem d_Store_init_46 : decode prog_10_method_1_code 46 = .ok (.dup, 1) := by decide +kernel
theorem d_Store_init_47 : decode prog_10_method_1_code 47 = .ok (.bipush 80, 2) := by decide +kernel
theorem d_Store_init_49 : decode prog_10_method_1_code 49 = .ok (.invokespecial 11, 3) := by decide +kernel
theorem d_Store_init_52 : decode prog_10_method_1_code 52 = .ok (.putfield 30, 3) := by decide +kernel
theorem d_Store_init_55 : decode prog_10_method_1_code 55 = .ok (.aload_n 0, 1) := by decide +kernel
theorem d_Store_init_56 : decode prog_10_method_1_code 56 = .ok (.getfield 20, 3) := by decide +kernel
theorem d_Store_init_59 : decode prog_10_method_1_code 59 = .ok (.iconst 0, 1) := by decide +kernel
theorem d_Store_init_60 : decode prog_10_method_1_code 60 = .ok (.bipush 20, 2) := by decide +kernel
theorem d_Store_init_62 : decode prog_10_method_1_code 62 = .ok (.iastore, 1) := by decide +kernel
theorem d_Store_init_63 : decode prog_10_method_1_code 63 = .ok (.return_, 1) := by decide +kernel
set_option maxHeartbeats 4000000 in
set_option maxRecDepth 100000 in
theorem i_Store_init (l : Launch) (D : va_G) (T : Nat → ClassId) (h0 : Nat) (sz : Nat) : Met l ⟨"PageScribe$Store", "<init>", "()V"⟩ (wy ⟨"PageScribe$Store", "<init>", "()V"⟩ prog_10_method_1_code 1 none) ({ frames := 3, cells := 11, slots := 822, locals := 210 }) (va_Pc [.ref h0] (Pw D T [(h0, .inr (3, [.null, .null, .null, .null, .null]))] sz E0)) (va_Qv (fun (u : (Nat → Nat)) => True) (fun u t => Bw D T (va_A [(h0, .inr (3, [.null, .null, .null, .null, .null]))] sz) [(h0, .inr (3, [.ref (u 1), .ref (u 5), .ref (u 6), .ref (u 7), .ref (u 8)])), ((u 1), .inr (4, [.ref (u 2), .ref (u 3), .ref (u 4), .int 0])), ((u 2), .inl (T 0, 160, .inl zI)), ((u 3), .inl (T 0, 160, .inl zI)), ((u 4), .inl (T 3, 160, .inr (.inr (.inr (.inl zD))))), ((u 5), .inl (T 0, 7, .inl roomF)), ((u 6), .inl (T 0, 7, .inl zI)), ((u 7), .inl (T 0, 80, .inl zI)), ((u 8), .inr (4, [.ref (u 9), .ref (u 10), .ref (u 11), .int 0])), ((u 9), .inl (T 0, 80, .inl zI)), ((u 10), .inl (T 0, 80, .inl zI)), ((u 11), .inl (T 3, 80, .inr (.inr (.inr (.inl zD)))))] t) (va_A [(h0, .inr (3, [.null, .null, .null, .null, .null]))] sz)) 11 822 (va_A [(h0, .inr (3, [.null, .null, .null, .null, .null]))] sz) := by
  refine j_met (y := ⟨"PageScribe$Store", "<init>", "()V"⟩) (b := prog_10_method_1_code) (n := 1) (ret := none) (av := [.ref h0]) (Qc := fun A => va_Qv (fun (u : (Nat → Nat)) => True) (fun u t => Bw D T A [(h0, .inr (3, [.ref (u 1), .ref (u 5), .ref (u 6), .ref (u 7), .ref (u 8)])), ((u 1), .inr (4, [.ref (u 2), .ref (u 3), .ref (u 4), .int 0])), ((u 2), .inl (T 0, 160, .inl zI)), ((u 3), .inl (T 0, 160, .inl zI)), ((u 4), .inl (T 3, 160, .inr (.inr (.inr (.inl zD))))), ((u 5), .inl (T 0, 7, .inl roomF)), ((u 6), .inl (T 0, 7, .inl zI)), ((u 7), .inl (T 0, 80, .inl zI)), ((u 8), .inr (4, [.ref (u 9), .ref (u 10), .ref (u 11), .int 0])), ((u 9), .inl (T 0, 80, .inl zI)), ((u 10), .inl (T 0, 80, .inl zI)), ((u 11), .inl (T 3, 80, .inr (.inr (.inr (.inl zD)))))] t) A) (by decide +kernel) (Nat.le_of_ble_eq_true rfl) (fun p e s m args below meth c A ls F hr hlocks hnm hK hP hD hS hA hN hE hl => ?_)
  obtain ⟨hx, hb, hml, hown, hts⟩ := id F
  have hin := hnm
  have hl : lv_has ls 1 [(0, .ref h0)] := hl
  refine lv_aload_n hx hb d_Store_init_0 rfl (lv_at hl 0 rfl) ?_
  refine j_obj F hl.1 k_1_98 k_1_35 k_1_36 d_Store_init_1 (Nat.le_of_ble_eq_true rfl) (Nat.le_of_ble_eq_true rfl) ?_
  refine lv_aload_n hx hb d_Store_init_4 rfl (lv_at hl 0 rfl) ?_
  refine va_new (ci := 4) (fs := [.null, .null, .null, .int 0]) (C := "PageScribe$Row") (T := F_Row) (N := 4) hx hb hts i_Row t_Row t_Row_ok hown (hts _ k_1_99) (hts _ k_1_100) (hts _ k_1_2) hK hP hD hS hA rfl z_Row (Nat.le_of_ble_eq_true rfl) (Nat.le_of_ble_eq_true rfl) d_Store_init_5 (fun q1 H hP hD hS => ?_)
  have hP : va_P D classes [(h0, .inr (3, [.null, .null, .null, .null, .null])), (q1, .inr (4, [.null, .null, .null, .int 0]))] H := hP
  have hD : va_D A [(h0, .inr (3, [.null, .null, .null, .null, .null])), (q1, .inr (4, [.null, .null, .null, .int 0]))] := hD
  refine lv_dup hx hb d_Store_init_8 rfl ?_
  refine lv_sipush (v := 160) hx hb d_Store_init_9 (by decide +kernel) ?_
  refine j_cv (wc := [(q1, .inr (4, [.null, .null, .null, .int 0]))]) (wr := [(h0, .inr (3, [.null, .null, .null, .null, .null]))]) hK hP hD hS hA [1] [0] rfl rfl (by decide +kernel) (by decide +kernel) (va_runI (As := [.int 160]) (rest := [.ref q1, .ref h0]) F (i_Row_init_Row160 l D T q1 H.size) (j_cI (k := 1) hts k_1_44 k_1_2 k_1_101 k_1_43 rfl (by decide +kernel) ⟨Nat.le_of_ble_eq_true rfl, Nat.le_of_ble_eq_true rfl⟩) (j_preS hK hP hD [1] rfl (by decide +kernel) (fun _ _ _ _ h => h) (fun _ _ _ => trivial)) rfl rfl hl.1 rfl (lv_room (Nat.le_of_ble_eq_true rfl)) d_Store_init_12 ⟨Nat.le_of_ble_eq_true rfl, Nat.le_of_ble_eq_true rfl⟩) (fun u1 H locs hw hP hD hS => ?_)
  obtain ⟨a1_1, a2_1, a3_1⟩ := u1
  have hP : va_P D classes [(h0, .inr (3, [.null, .null, .null, .null, .null])), (q1, .inr (4, [.ref a1_1, .ref a2_1, .ref a3_1, .int 0])), (a1_1, .inl (T 0, 160, .inl zI)), (a2_1, .inl (T 0, 160, .inl zI)), (a3_1, .inl (T 3, 160, .inr (.inr (.inr (.inl zD)))))] H := hP
  have hD : va_D A [(h0, .inr (3, [.null, .null, .null, .null, .null])), (q1, .inr (4, [.ref a1_1, .ref a2_1, .ref a3_1, .int 0])), (a1_1, .inl (T 0, 160, .inl zI)), (a2_1, .inl (T 0, 160, .inl zI)), (a3_1, .inl (T 3, 160, .inr (.inr (.inr (.inl zD)))))] := hD
  refine va_putF (D := D) (ci := 3) (v := .ref q1) (ty := .object "PageScribe$Row") (C := "PageScribe$Store") (T := F_Store) (N := 5) hx hb hts i_Store t_Store t_Store_ok n_Store hown hK hP hD hS 0 rfl rfl 0 (by decide +kernel) (hts _ k_1_107) (fun _ h9 => h9) rfl hin rfl (by decide +kernel) rfl rfl (Nat.le_of_ble_eq_true rfl) d_Store_init_15 (fun H locs hP hD hS => ?_)
  have hP : va_P D classes [(h0, .inr (3, [.ref q1, .null, .null, .null, .null])), (q1, .inr (4, [.ref a1_1, .ref a2_1, .ref a3_1, .int 0])), (a1_1, .inl (T 0, 160, .inl zI)), (a2_1, .inl (T 0, 160, .inl zI)), (a3_1, .inl (T 3, 160, .inr (.inr (.inr (.inl zD)))))] H := hP
  have hD : va_D A [(h0, .inr (3, [.ref q1, .null, .null, .null, .null])), (q1, .inr (4, [.ref a1_1, .ref a2_1, .ref a3_1, .int 0])), (a1_1, .inl (T 0, 160, .inl zI)), (a2_1, .inl (T 0, 160, .inl zI)), (a3_1, .inl (T 3, 160, .inr (.inr (.inr (.inl zD)))))] := hD
  refine lv_aload_n hx hb d_Store_init_18 rfl (lv_at hl 0 rfl) ?_
  refine lv_bipush (v := 7) hx hb d_Store_init_19 (by decide +kernel) ?_
  refine j_newa (atype := .int) (ty := .int) F k_1_67 rfl hK hP hD hS hA 0 (T 0) rfl (7, .inl zI) (fun _ => rfl) (by decide +kernel) (by decide +kernel) (by decide +kernel) (Nat.le_of_ble_eq_true rfl) (Nat.le_of_ble_eq_true rfl) d_Store_init_21 (fun q2 H hP hD hS => ?_)
  have hP : va_P D classes [(h0, .inr (3, [.ref q1, .null, .null, .null, .null])), (q1, .inr (4, [.ref a1_1, .ref a2_1, .ref a3_1, .int 0])), (a1_1, .inl (T 0, 160, .inl zI)), (a2_1, .inl (T 0, 160, .inl zI)), (a3_1, .inl (T 3, 160, .inr (.inr (.inr (.inl zD))))), (q2, .inl (T 0, 7, .inl zI))] H := hP
  have hD : va_D A [(h0, .inr (3, [.ref q1, .null, .null, .null, .null])), (q1, .inr (4, [.ref a1_1, .ref a2_1, .ref a3_1, .int 0])), (a1_1, .inl (T 0, 160, .inl zI)), (a2_1, .inl (T 0, 160, .inl zI)), (a3_1, .inl (T 3, 160, .inr (.inr (.inr (.inl zD))))), (q2, .inl (T 0, 7, .inl zI))] := hD
  refine va_putF (D := D) (ci := 3) (v := .ref q2) (ty := .array .int) (C := "PageScribe$Store") (T := F_Store) (N := 5) hx hb hts i_Store t_Store t_Store_ok n_Store hown hK hP hD hS 0 rfl rfl 1 (by decide +kernel) (hts _ k_1_111) (fun _ h9 => h9) rfl hin rfl (by decide +kernel) rfl rfl (Nat.le_of_ble_eq_true rfl) d_Store_init_23 (fun H locs hP hD hS => ?_)
  have hP : va_P D classes [(h0, .inr (3, [.ref q1, .ref q2, .null, .null, .null])), (q1, .inr (4, [.ref a1_1, .ref a2_1, .ref a3_1, .int 0])), (a1_1, .inl (T 0, 160, .inl zI)), (a2_1, .inl (T 0, 160, .inl zI)), (a3_1, .inl (T 3, 160, .inr (.inr (.inr (.inl zD))))), (q2, .inl (T 0, 7, .inl zI))] H := hP
  have hD : va_D A [(h0, .inr (3, [.ref q1, .ref q2, .null, .null, .null])), (q1, .inr (4, [.ref a1_1, .ref a2_1, .ref a3_1, .int 0])), (a1_1, .inl (T 0, 160, .inl zI)), (a2_1, .inl (T 0, 160, .inl zI)), (a3_1, .inl (T 3, 160, .inr (.inr (.inr (.inl zD))))), (q2, .inl (T 0, 7, .inl zI))] := hD
  refine lv_aload_n hx hb d_Store_init_26 rfl (lv_at hl 0 rfl) ?_
  refine lv_bipush (v := 7) hx hb d_Store_init_27 (by decide +kernel) ?_
  refine j_newa (atype := .int) (ty := .int) F k_1_67 rfl hK hP hD hS hA 0 (T 0) rfl (7, .inl zI) (fun _ => rfl) (by decide +kernel) (by decide +kernel) (by decide +kernel) (Nat.le_of_ble_eq_true rfl) (Nat.le_of_ble_eq_true rfl) d_Store_init_29 (fun q3 H hP hD hS => ?_)
  have hP : va_P D classes [(h0, .inr (3, [.ref q1, .ref q2, .null, .null, .null])), (q1, .inr (4, [.ref a1_1, .ref a2_1, .ref a3_1, .int 0])), (a1_1, .inl (T 0, 160, .inl zI)), (a2_1, .inl (T 0, 160, .inl zI)), (a3_1, .inl (T 3, 160, .inr (.inr (.inr (.inl zD))))), (q2, .inl (T 0, 7, .inl zI)), (q3, .inl (T 0, 7, .inl zI))] H := hP
  have hD : va_D A [(h0, .inr (3, [.ref q1, .ref q2, .null, .null, .null])), (q1, .inr (4, [.ref a1_1, .ref a2_1, .ref a3_1, .int 0])), (a1_1, .inl (T 0, 160, .inl zI)), (a2_1, .inl (T 0, 160, .inl zI)), (a3_1, .inl (T 3, 160, .inr (.inr (.inr (.inl zD))))), (q2, .inl (T 0, 7, .inl zI)), (q3, .inl (T 0, 7, .inl zI))] := hD
  refine va_putF (D := D) (ci := 3) (v := .ref q3) (ty := .array .int) (C := "PageScribe$Store") (T := F_Store) (N := 5) hx hb hts i_Store t_Store t_Store_ok n_Store hown hK hP hD hS 0 rfl rfl 2 (by decide +kernel) (hts _ k_1_112) (fun _ h9 => h9) rfl hin rfl (by decide +kernel) rfl rfl (Nat.le_of_ble_eq_true rfl) d_Store_init_31 (fun H locs hP hD hS => ?_)
  have hP : va_P D classes [(h0, .inr (3, [.ref q1, .ref q2, .ref q3, .null, .null])), (q1, .inr (4, [.ref a1_1, .ref a2_1, .ref a3_1, .int 0])), (a1_1, .inl (T 0, 160, .inl zI)), (a2_1, .inl (T 0, 160, .inl zI)), (a3_1, .inl (T 3, 160, .inr (.inr (.inr (.inl zD))))), (q2, .inl (T 0, 7, .inl zI)), (q3, .inl (T 0, 7, .inl zI))] H := hP
  have hD : va_D A [(h0, .inr (3, [.ref q1, .ref q2, .ref q3, .null, .null])), (q1, .inr (4, [.ref a1_1, .ref a2_1, .ref a3_1, .int 0])), (a1_1, .inl (T 0, 160, .inl zI)), (a2_1, .inl (T 0, 160, .inl zI)), (a3_1, .inl (T 3, 160, .inr (.inr (.inr (.inl zD))))), (q2, .inl (T 0, 7, .inl zI)), (q3, .inl (T 0, 7, .inl zI))] := hD
  refine lv_aload_n hx hb d_Store_init_34 rfl (lv_at hl 0 rfl) ?_
  refine lv_bipush (v := 80) hx hb d_Store_init_35 (by decide +kernel) ?_
  refine j_newa (atype := .int) (ty := .int) F k_1_67 rfl hK hP hD hS hA 0 (T 0) rfl (80, .inl zI) (fun _ => rfl) (by decide +kernel) (by decide +kernel) (by decide +kernel) (Nat.le_of_ble_eq_true rfl) (Nat.le_of_ble_eq_true rfl) d_Store_init_37 (fun q4 H hP hD hS => ?_)
  have hP : va_P D classes [(h0, .inr (3, [.ref q1, .ref q2, .ref q3, .null, .null])), (q1, .inr (4, [.ref a1_1, .ref a2_1, .ref a3_1, .int 0])), (a1_1, .inl (T 0, 160, .inl zI)), (a2_1, .inl (T 0, 160, .inl zI)), (a3_1, .inl (T 3, 160, .inr (.inr (.inr (.inl zD))))), (q2, .inl (T 0, 7, .inl zI)), (q3, .inl (T 0, 7, .inl zI)), (q4, .inl (T 0, 80, .inl zI))] H := hP
  have hD : va_D A [(h0, .inr (3, [.ref q1, .ref q2, .ref q3, .null, .null])), (q1, .inr (4, [.ref a1_1, .ref a2_1, .ref a3_1, .int 0])), (a1_1, .inl (T 0, 160, .inl zI)), (a2_1, .inl (T 0, 160, .inl zI)), (a3_1, .inl (T 3, 160, .inr (.inr (.inr (.inl zD))))), (q2, .inl (T 0, 7, .inl zI)), (q3, .inl (T 0, 7, .inl zI)), (q4, .inl (T 0, 80, .inl zI))] := hD
  refine va_putF (D := D) (ci := 3) (v := .ref q4) (ty := .array .int) (C := "PageScribe$Store") (T := F_Store) (N := 5) hx hb hts i_Store t_Store t_Store_ok n_Store hown hK hP hD hS 0 rfl rfl 3 (by decide +kernel) (hts _ k_1_113) (fun _ h9 => h9) rfl hin rfl (by decide +kernel) rfl rfl (Nat.le_of_ble_eq_true rfl) d_Store_init_39 (fun H locs hP hD hS => ?_)
  have hP : va_P D classes [(h0, .inr (3, [.ref q1, .ref q2, .ref q3, .ref q4, .null])), (q1, .inr (4, [.ref a1_1, .ref a2_1, .ref a3_1, .int 0])), (a1_1, .inl (T 0, 160, .inl zI)), (a2_1, .inl (T 0, 160, .inl zI)), (a3_1, .inl (T 3, 160, .inr (.inr (.inr (.inl zD))))), (q2, .inl (T 0, 7, .inl zI)), (q3, .inl (T 0, 7, .inl zI)), (q4, .inl (T 0, 80, .inl zI))] H := hP
  have hD : va_D A [(h0, .inr (3, [.ref q1, .ref q2, .ref q3, .ref q4, .null])), (q1, .inr (4, [.ref a1_1, .ref a2_1, .ref a3_1, .int 0])), (a1_1, .inl (T 0, 160, .inl zI)), (a2_1, .inl (T 0, 160, .inl zI)), (a3_1, .inl (T 3, 160, .inr (.inr (.inr (.inl zD))))), (q2, .inl (T 0, 7, .inl zI)), (q3, .inl (T 0, 7, .inl zI)), (q4, .inl (T 0, 80, .inl zI))] := hD
  refine lv_aload_n hx hb d_Store_init_42 rfl (lv_at hl 0 rfl) ?_
  refine va_new (ci := 4) (fs := [.null, .null, .null, .int 0]) (C := "PageScribe$Row") (T := F_Row) (N := 4) hx hb hts i_Row t_Row t_Row_ok hown (hts _ k_1_99) (hts _ k_1_100) (hts _ k_1_2) hK hP hD hS hA rfl z_Row (Nat.le_of_ble_eq_true rfl) (Nat.le_of_ble_eq_true rfl) d_Store_init_43 (fun q5 H hP hD hS => ?_)
  have hP : va_P D classes [(h0, .inr (3, [.ref q1, .ref q2, .ref q3, .ref q4, .null])), (q1, .inr (4, [.ref a1_1, .ref a2_1, .ref a3_1, .int 0])), (a1_1, .inl (T 0, 160, .inl zI)), (a2_1, .inl (T 0, 160, .inl zI)), (a3_1, .inl (T 3, 160, .inr (.inr (.inr (.inl zD))))), (q2, .inl (T 0, 7, .inl zI)), (q3, .inl (T 0, 7, .inl zI)), (q4, .inl (T 0, 80, .inl zI)), (q5, .inr (4, [.null, .null, .null, .int 0]))] H := hP
  have hD : va_D A [(h0, .inr (3, [.ref q1, .ref q2, .ref q3, .ref q4, .null])), (q1, .inr (4, [.ref a1_1, .ref a2_1, .ref a3_1, .int 0])), (a1_1, .inl (T 0, 160, .inl zI)), (a2_1, .inl (T 0, 160, .inl zI)), (a3_1, .inl (T 3, 160, .inr (.inr (.inr (.inl zD))))), (q2, .inl (T 0, 7, .inl zI)), (q3, .inl (T 0, 7, .inl zI)), (q4, .inl (T 0, 80, .inl zI)), (q5, .inr (4, [.null, .null, .null, .int 0]))] := hD
  refine lv_dup hx hb d_Store_init_46 rfl ?_
  refine lv_bipush (v := 80) hx hb d_Store_init_47 (by decide +kernel) ?_
  refine j_cv (wc := [(q5, .inr (4, [.null, .null, .null, .int 0]))]) (wr := [(h0, .inr (3, [.ref q1, .ref q2, .ref q3, .ref q4, .null])), (q1, .inr (4, [.ref a1_1, .ref a2_1, .ref a3_1, .int 0])), (a1_1, .inl (T 0, 160, .inl zI)), (a2_1, .inl (T 0, 160, .inl zI)), (a3_1, .inl (T 3, 160, .inr (.inr (.inr (.inl zD))))), (q2, .inl (T 0, 7, .inl zI)), (q3, .inl (T 0, 7, .inl zI)), (q4, .inl (T 0, 80, .inl zI))]) hK hP hD hS hA [8] [0, 1, 2, 3, 4, 5, 6, 7] rfl rfl (by decide +kernel) (by decide +kernel) (va_runI (As := [.int 80]) (rest := [.ref q5, .ref h0]) F (i_Row_init_Row80 l D T q5 H.size) (j_cI (k := 1) hts k_1_44 k_1_2 k_1_101 k_1_43 rfl (by decide +kernel) ⟨Nat.le_of_ble_eq_true rfl, Nat.le_of_ble_eq_true rfl⟩) (j_preS hK hP hD [8] rfl (by decide +kernel) (fun _ _ _ _ h => h) (fun _ _ _ => trivial)) rfl rfl hl.1 rfl (lv_room (Nat.le_of_ble_eq_true rfl)) d_Store_init_49 ⟨Nat.le_of_ble_eq_true rfl, Nat.le_of_ble_eq_true rfl⟩) (fun u2 H locs hw hP hD hS => ?_)
  obtain ⟨a1_2, a2_2, a3_2⟩ := u2
  have hP : va_P D classes [(h0, .inr (3, [.ref q1, .ref q2, .ref q3, .ref q4, .null])), (q1, .inr (4, [.ref a1_1, .ref a2_1, .ref a3_1, .int 0])), (a1_1, .inl (T 0, 160, .inl zI)), (a2_1, .inl (T 0, 160, .inl zI)), (a3_1, .inl (T 3, 160, .inr (.inr (.inr (.inl zD))))), (q2, .inl (T 0, 7, .inl zI)), (q3, .inl (T 0, 7, .inl zI)), (q4, .inl (T 0, 80, .inl zI)), (q5, .inr (4, [.ref a1_2, .ref a2_2, .ref a3_2, .int 0])), (a1_2, .inl (T 0, 80, .inl zI)), (a2_2, .inl (T 0, 80, .inl zI)), (a3_2, .inl (T 3, 80, .inr (.inr (.inr (.inl zD)))))] H := hP
  have hD : va_D A [(h0, .inr (3, [.ref q1, .ref q2, .ref q3, .ref q4, .null])), (q1, .inr (4, [.ref a1_1, .ref a2_1, .ref a3_1, .int 0])), (a1_1, .inl (T 0, 160, .inl zI)), (a2_1, .inl (T 0, 160, .inl zI)), (a3_1, .inl (T 3, 160, .inr (.inr (.inr (.inl zD))))), (q2, .inl (T 0, 7, .inl zI)), (q3, .inl (T 0, 7, .inl zI)), (q4, .inl (T 0, 80, .inl zI)), (q5, .inr (4, [.ref a1_2, .ref a2_2, .ref a3_2, .int 0])), (a1_2, .inl (T 0, 80, .inl zI)), (a2_2, .inl (T 0, 80, .inl zI)), (a3_2, .inl (T 3, 80, .inr (.inr (.inr (.inl zD)))))] := hD
  refine va_putF (D := D) (ci := 3) (v := .ref q5) (ty := .object "PageScribe$Row") (C := "PageScribe$Store") (T := F_Store) (N := 5) hx hb hts i_Store t_Store t_Store_ok n_Store hown hK hP hD hS 0 rfl rfl 4 (by decide +kernel) (hts _ k_1_114) (fun _ h9 => h9) rfl hin rfl (by decide +kernel) rfl rfl (Nat.le_of_ble_eq_true rfl) d_Store_init_52 (fun H locs hP hD hS => ?_)
  have hP : va_P D classes [(h0, .inr (3, [.ref q1, .ref q2, .ref q3, .ref q4, .ref q5])), (q1, .inr (4, [.ref a1_1, .ref a2_1, .ref a3_1, .int 0])), (a1_1, .inl (T 0, 160, .inl zI)), (a2_1, .inl (T 0, 160, .inl zI)), (a3_1, .inl (T 3, 160, .inr (.inr (.inr (.inl zD))))), (q2, .inl (T 0, 7, .inl zI)), (q3, .inl (T 0, 7, .inl zI)), (q4, .inl (T 0, 80, .inl zI)), (q5, .inr (4, [.ref a1_2, .ref a2_2, .ref a3_2, .int 0])), (a1_2, .inl (T 0, 80, .inl zI)), (a2_2, .inl (T 0, 80, .inl zI)), (a3_2, .inl (T 3, 80, .inr (.inr (.inr (.inl zD)))))] H := hP
  have hD : va_D A [(h0, .inr (3, [.ref q1, .ref q2, .ref q3, .ref q4, .ref q5])), (q1, .inr (4, [.ref a1_1, .ref a2_1, .ref a3_1, .int 0])), (a1_1, .inl (T 0, 160, .inl zI)), (a2_1, .inl (T 0, 160, .inl zI)), (a3_1, .inl (T 3, 160, .inr (.inr (.inr (.inl zD))))), (q2, .inl (T 0, 7, .inl zI)), (q3, .inl (T 0, 7, .inl zI)), (q4, .inl (T 0, 80, .inl zI)), (q5, .inr (4, [.ref a1_2, .ref a2_2, .ref a3_2, .int 0])), (a1_2, .inl (T 0, 80, .inl zI)), (a2_2, .inl (T 0, 80, .inl zI)), (a3_2, .inl (T 3, 80, .inr (.inr (.inr (.inl zD)))))] := hD
  refine lv_aload_n hx hb d_Store_init_55 rfl (lv_at hl 0 rfl) ?_
  refine va_get (D := D) (ci := 3) (v := .ref q2) (C := "PageScribe$Store") (T := F_Store) (N := 5) hx hb hts i_Store hown hK hP 0 rfl rfl 1 (by decide +kernel) (hts _ k_1_111) (fun _ h9 => h9) rfl d_Store_init_56 ?_
  refine lv_iconst (v := 0) hx hb d_Store_init_59 (by decide +kernel) ?_
  refine lv_bipush (v := 20) hx hb d_Store_init_60 (by decide +kernel) ?_
  refine va_iast hx hb hK hP hD hS 5 0 rfl rfl (by unfold vp_in; decide +kernel) d_Store_init_62 (fun H locs hP hD hS => ?_)
  have hP : va_P D classes [(h0, .inr (3, [.ref q1, .ref q2, .ref q3, .ref q4, .ref q5])), (q1, .inr (4, [.ref a1_1, .ref a2_1, .ref a3_1, .int 0])), (a1_1, .inl (T 0, 160, .inl zI)), (a2_1, .inl (T 0, 160, .inl zI)), (a3_1, .inl (T 3, 160, .inr (.inr (.inr (.inl zD))))), (q2, .inl (T 0, 7, .inl (upd zI (0 : Int32).toNatClampNeg 20))), (q3, .inl (T 0, 7, .inl zI)), (q4, .inl (T 0, 80, .inl zI)), (q5, .inr (4, [.ref a1_2, .ref a2_2, .ref a3_2, .int 0])), (a1_2, .inl (T 0, 80, .inl zI)), (a2_2, .inl (T 0, 80, .inl zI)), (a3_2, .inl (T 3, 80, .inr (.inr (.inr (.inl zD)))))] H := hP
  have hD : va_D A [(h0, .inr (3, [.ref q1, .ref q2, .ref q3, .ref q4, .ref q5])), (q1, .inr (4, [.ref a1_1, .ref a2_1, .ref a3_1, .int 0])), (a1_1, .inl (T 0, 160, .inl zI)), (a2_1, .inl (T 0, 160, .inl zI)), (a3_1, .inl (T 3, 160, .inr (.inr (.inr (.inl zD))))), (q2, .inl (T 0, 7, .inl (upd zI (0 : Int32).toNatClampNeg 20))), (q3, .inl (T 0, 7, .inl zI)), (q4, .inl (T 0, 80, .inl zI)), (q5, .inr (4, [.ref a1_2, .ref a2_2, .ref a3_2, .int 0])), (a1_2, .inl (T 0, 80, .inl zI)), (a2_2, .inl (T 0, 80, .inl zI)), (a3_2, .inl (T 3, 80, .inr (.inr (.inr (.inl zD)))))] := hD
  rw [roomF_up] at hP hD
  have hP : va_P D classes [(h0, .inr (3, [.ref q1, .ref q2, .ref q3, .ref q4, .ref q5])), (q1, .inr (4, [.ref a1_1, .ref a2_1, .ref a3_1, .int 0])), (a1_1, .inl (T 0, 160, .inl zI)), (a2_1, .inl (T 0, 160, .inl zI)), (a3_1, .inl (T 3, 160, .inr (.inr (.inr (.inl zD))))), (q2, .inl (T 0, 7, .inl roomF)), (q3, .inl (T 0, 7, .inl zI)), (q4, .inl (T 0, 80, .inl zI)), (q5, .inr (4, [.ref a1_2, .ref a2_2, .ref a3_2, .int 0])), (a1_2, .inl (T 0, 80, .inl zI)), (a2_2, .inl (T 0, 80, .inl zI)), (a3_2, .inl (T 3, 80, .inr (.inr (.inr (.inl zD)))))] H := hP
  have hD : va_D A [(h0, .inr (3, [.ref q1, .ref q2, .ref q3, .ref q4, .ref q5])), (q1, .inr (4, [.ref a1_1, .ref a2_1, .ref a3_1, .int 0])), (a1_1, .inl (T 0, 160, .inl zI)), (a2_1, .inl (T 0, 160, .inl zI)), (a3_1, .inl (T 3, 160, .inr (.inr (.inr (.inl zD))))), (q2, .inl (T 0, 7, .inl roomF)), (q3, .inl (T 0, 7, .inl zI)), (q4, .inl (T 0, 80, .inl zI)), (q5, .inr (4, [.ref a1_2, .ref a2_2, .ref a3_2, .int 0])), (a1_2, .inl (T 0, 80, .inl zI)), (a2_2, .inl (T 0, 80, .inl zI)), (a3_2, .inl (T 3, 80, .inr (.inr (.inr (.inl zD)))))] := hD
  have hP9 := hP.sub (ws' := [(h0, .inr (3, [.ref q1, .ref q2, .ref q3, .ref q4, .ref q5])), (q1, .inr (4, [.ref a1_1, .ref a2_1, .ref a3_1, .int 0])), (a1_1, .inl (T 0, 160, .inl zI)), (a2_1, .inl (T 0, 160, .inl zI)), (a3_1, .inl (T 3, 160, .inr (.inr (.inr (.inl zD))))), (q2, .inl (T 0, 7, .inl roomF)), (q3, .inl (T 0, 7, .inl zI)), (q4, .inl (T 0, 80, .inl zI)), (q5, .inr (4, [.ref a1_2, .ref a2_2, .ref a3_2, .int 0])), (a1_2, .inl (T 0, 80, .inl zI)), (a2_2, .inl (T 0, 80, .inl zI)), (a3_2, .inl (T 3, 80, .inr (.inr (.inr (.inl zD)))))]) [0, 1, 2, 3, 4, 5, 6, 7, 8, 9, 10, 11] rfl
  have hD9 := hD.sub (ws' := [(h0, .inr (3, [.ref q1, .ref q2, .ref q3, .ref q4, .ref q5])), (q1, .inr (4, [.ref a1_1, .ref a2_1, .ref a3_1, .int 0])), (a1_1, .inl (T 0, 160, .inl zI)), (a2_1, .inl (T 0, 160, .inl zI)), (a3_1, .inl (T 3, 160, .inr (.inr (.inr (.inl zD))))), (q2, .inl (T 0, 7, .inl roomF)), (q3, .inl (T 0, 7, .inl zI)), (q4, .inl (T 0, 80, .inl zI)), (q5, .inr (4, [.ref a1_2, .ref a2_2, .ref a3_2, .int 0])), (a1_2, .inl (T 0, 80, .inl zI)), (a2_2, .inl (T 0, 80, .inl zI)), (a3_2, .inl (T 3, 80, .inr (.inr (.inr (.inl zD)))))]) [0, 1, 2, 3, 4, 5, 6, 7, 8, 9, 10, 11] (by decide +kernel) rfl
  refine W.widen (k := 11) (n := 822) (Nat.le_of_ble_eq_true rfl) (Nat.le_of_ble_eq_true rfl) ?_
  exact j_vret F hr hlocks hK hS ((fun i => [h0, q1, a1_1, a2_1, a3_1, q2, q3, q4, q5, a1_2, a2_2, a3_2].getD i 0)) trivial hP9 hD9 d_Store_init_63
