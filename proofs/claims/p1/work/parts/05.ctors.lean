def roomF : Nat → Int32 := fun k => if k = 0 then 20 else 0
theorem roomF_up : upd zI (0 : Int32).toNatClampNeg 20 = roomF := by
  funext k
  have h : (0 : Int32).toNatClampNeg = 0 := by decide +kernel
  rw [h]
  by_cases hk : k = 0
  · subst hk; rfl
  · simp [upd, roomF, hk]
theorem d_Row_init_0 : decode prog_8_method_1_code 0 = .ok (.aload_n 0, 1) := by decide +kernel
theorem d_Row_init_1 : decode prog_8_method_1_code 1 = .ok (.invokespecial 3, 3) := by decide +kernel
theorem k_1_45 : Cond.methodLink "PageScribe$Row" 3 ⟨"java/lang/Object", "<init>", "()V"⟩ ∈ gw := gw_of (tb_1 (List.mem_of_getElem? (i := 45) (by decide +kernel))) (by decide +kernel)
theorem k_1_35 : Cond.instanceMethod ⟨"java/lang/Object", "<init>", "()V"⟩ ∈ gw := gw_of (tb_1 (List.mem_of_getElem? (i := 35) (by decide +kernel))) (by decide +kernel)
theorem k_1_36 : Cond.code ⟨"java/lang/Object", "<init>", "()V"⟩ object_method_1_code 1 none ∈ gw := gw_of (tb_1 (List.mem_of_getElem? (i := 36) (by decide +kernel))) (by decide +kernel)
theorem d_Row_init_4 : decode prog_8_method_1_code 4 = .ok (.aload_n 0, 1) := by decide +kernel
theorem d_Row_init_5 : decode prog_8_method_1_code 5 = .ok (.iconst 0, 1) := by decide +kernel
theorem d_Row_init_6 : decode prog_8_method_1_code 6 = .ok (.putfield 9, 3) := by decide +kernel
theorem k_1_49 : Cond.fieldLink "PageScribe$Row" 9 "PageScribe$Row" "size" "I" ∈ gw := gw_of (tb_1 (List.mem_of_getElem? (i := 49) (by decide +kernel))) (by decide +kernel)
theorem d_Row_init_9 : decode prog_8_method_1_code 9 = .ok (.aload_n 0, 1) := by decide +kernel
theorem d_Row_init_10 : decode prog_8_method_1_code 10 = .ok (.iload_n 1, 1) := by decide +kernel
theorem d_Row_init_11 : decode prog_8_method_1_code 11 = .ok (.newarray .int, 2) := by decide +kernel
theorem k_1_67 : Cond.arrayClass .int ∈ gw := gw_of (tb_1 (List.mem_of_getElem? (i := 67) (by decide +kernel))) (by decide +kernel)
theorem d_Row_init_13 : decode prog_8_method_1_code 13 = .ok (.putfield 15, 3) := by decide +kernel
theorem k_1_46 : Cond.fieldLink "PageScribe$Row" 15 "PageScribe$Row" "kinds" "[I" ∈ gw := gw_of (tb_1 (List.mem_of_getElem? (i := 46) (by decide +kernel))) (by decide +kernel)
theorem d_Row_init_16 : decode prog_8_method_1_code 16 = .ok (.aload_n 0, 1) := by decide +kernel
theorem d_Row_init_17 : decode prog_8_method_1_code 17 = .ok (.iload_n 1, 1) := by decide +kernel
theorem d_Row_init_18 : decode prog_8_method_1_code 18 = .ok (.newarray .int, 2) := by decide +kernel
theorem d_Row_init_20 : decode prog_8_method_1_code 20 = .ok (.putfield 19, 3) := by decide +kernel
theorem k_1_47 : Cond.fieldLink "PageScribe$Row" 19 "PageScribe$Row" "numbers" "[I" ∈ gw := gw_of (tb_1 (List.mem_of_getElem? (i := 47) (by decide +kernel))) (by decide +kernel)
theorem d_Row_init_23 : decode prog_8_method_1_code 23 = .ok (.aload_n 0, 1) := by decide +kernel
theorem d_Row_init_24 : decode prog_8_method_1_code 24 = .ok (.iload_n 1, 1) := by decide +kernel
theorem d_Row_init_25 : decode prog_8_method_1_code 25 = .ok (.newarray .double, 2) := by decide +kernel
theorem k_1_68 : Cond.arrayClass .double ∈ gw := gw_of (tb_1 (List.mem_of_getElem? (i := 68) (by decide +kernel))) (by decide +kernel)
theorem d_Row_init_27 : decode prog_8_method_1_code 27 = .ok (.putfield 22, 3) := by decide +kernel
theorem k_1_48 : Cond.fieldLink "PageScribe$Row" 22 "PageScribe$Row" "reals" "[D" ∈ gw := gw_of (tb_1 (List.mem_of_getElem? (i := 48) (by decide +kernel))) (by decide +kernel)
theorem d_Row_init_30 : decode prog_8_method_1_code 30 = .ok (.return_, 1) := by decide +kernel
set_option maxHeartbeats 4000000 in
set_option maxRecDepth 100000 in
theorem c_Row_init_Stack40 (l : Launch) (D : va_G) (T : Nat → ClassId) (h0 : Nat) (sz : Nat) : Met l ⟨"PageScribe$Row", "<init>", "(I)V"⟩ (wy ⟨"PageScribe$Row", "<init>", "(I)V"⟩ prog_8_method_1_code 2 none) ({ frames := 1, cells := 3, slots := 120, locals := 70 }) (va_Pc [.ref h0, .int 40] (Pw D T [(h0, .inr (0, [.null, .null, .null, .int 0]))] sz E0)) (va_Qv (fun (u : Nat × Nat × Nat) => True) (fun u t => Bw D T (va_A [(h0, .inr (0, [.null, .null, .null, .int 0]))] sz) [(h0, .inr (0, [.ref u.1, .ref u.2.1, .ref u.2.2, .int 0])), (u.1, .inl (T 0, 40, .inl zI)), (u.2.1, .inl (T 0, 40, .inl zI)), (u.2.2, .inl (T 3, 40, .inr (.inr (.inr (.inl zD)))))] t) (va_A [(h0, .inr (0, [.null, .null, .null, .int 0]))] sz)) 3 120 (va_A [(h0, .inr (0, [.null, .null, .null, .int 0]))] sz) := by
  refine j_met (y := ⟨"PageScribe$Row", "<init>", "(I)V"⟩) (b := prog_8_method_1_code) (n := 2) (ret := none) (av := [.ref h0, .int 40]) (Qc := fun A => va_Qv (fun (u : Nat × Nat × Nat) => True) (fun u t => Bw D T A [(h0, .inr (0, [.ref u.1, .ref u.2.1, .ref u.2.2, .int 0])), (u.1, .inl (T 0, 40, .inl zI)), (u.2.1, .inl (T 0, 40, .inl zI)), (u.2.2, .inl (T 3, 40, .inr (.inr (.inr (.inl zD)))))] t) A) (by decide +kernel) (Nat.le_of_ble_eq_true rfl) (fun p e s m args below meth c A ls F hr hlocks hnm hK hP hD hS hA hN hE hl => ?_)
  obtain ⟨hx, hb, hml, hown, hts⟩ := id F
  have hin := hnm
  have hl : lv_has ls 2 [(0, .ref h0), (1, .int 40)] := hl
  refine lv_aload_n hx hb d_Row_init_0 rfl (lv_at hl 0 rfl) ?_
  refine j_obj F hl.1 k_1_45 k_1_35 k_1_36 d_Row_init_1 (Nat.le_of_ble_eq_true rfl) (Nat.le_of_ble_eq_true rfl) ?_
  refine lv_aload_n hx hb d_Row_init_4 rfl (lv_at hl 0 rfl) ?_
  refine lv_iconst (v := 0) hx hb d_Row_init_5 (by decide) ?_
  refine va_put (D := D) (ci := 0) (v := .int 0) (ty := .int) (C := "PageScribe$Stack") (T := F_Stack) (N := 4) hx hb hts i_Stack t_Stack t_Stack_ok n_Stack hown hK hP hD hS 0 rfl rfl 3 (by decide) (hts _ k_1_49) (fun _ h9 => h9) rfl (by decide +kernel) rfl rfl (Nat.le_of_ble_eq_true rfl) d_Row_init_6 (fun H locs hP hD hS => ?_)
  have hP : va_P D classes [(h0, .inr (0, [.null, .null, .null, .int 0]))] H := hP
  have hD : va_D A [(h0, .inr (0, [.null, .null, .null, .int 0]))] := hD
  refine lv_aload_n hx hb d_Row_init_9 rfl (lv_at hl 0 rfl) ?_
  refine lv_iload_n hx hb d_Row_init_10 rfl (lv_at hl 1 rfl) ?_
  refine j_newa (atype := .int) (ty := .int) F k_1_67 rfl hK hP hD hS hA 0 (T 0) rfl (40, .inl zI) (fun _ => rfl) (by decide +kernel) (by decide +kernel) (by decide +kernel) (Nat.le_of_ble_eq_true rfl) (Nat.le_of_ble_eq_true rfl) d_Row_init_11 (fun q1 H hP hD hS => ?_)
  have hP : va_P D classes [(h0, .inr (0, [.null, .null, .null, .int 0])), (q1, .inl (T 0, 40, .inl zI))] H := hP
  have hD : va_D A [(h0, .inr (0, [.null, .null, .null, .int 0])), (q1, .inl (T 0, 40, .inl zI))] := hD
  refine va_putF (D := D) (ci := 0) (v := .ref q1) (ty := .array .int) (C := "PageScribe$Stack") (T := F_Stack) (N := 4) hx hb hts i_Stack t_Stack t_Stack_ok n_Stack hown hK hP hD hS 0 rfl rfl 0 (by decide) (hts _ k_1_46) (fun _ h9 => h9) rfl hin rfl (by decide +kernel) rfl rfl (Nat.le_of_ble_eq_true rfl) d_Row_init_13 (fun H locs hP hD hS => ?_)
  have hP : va_P D classes [(h0, .inr (0, [.ref q1, .null, .null, .int 0])), (q1, .inl (T 0, 40, .inl zI))] H := hP
  have hD : va_D A [(h0, .inr (0, [.ref q1, .null, .null, .int 0])), (q1, .inl (T 0, 40, .inl zI))] := hD
  refine lv_aload_n hx hb d_Row_init_16 rfl (lv_at hl 0 rfl) ?_
  refine lv_iload_n hx hb d_Row_init_17 rfl (lv_at hl 1 rfl) ?_
  refine j_newa (atype := .int) (ty := .int) F k_1_67 rfl hK hP hD hS hA 0 (T 0) rfl (40, .inl zI) (fun _ => rfl) (by decide +kernel) (by decide +kernel) (by decide +kernel) (Nat.le_of_ble_eq_true rfl) (Nat.le_of_ble_eq_true rfl) d_Row_init_18 (fun q2 H hP hD hS => ?_)
  have hP : va_P D classes [(h0, .inr (0, [.ref q1, .null, .null, .int 0])), (q1, .inl (T 0, 40, .inl zI)), (q2, .inl (T 0, 40, .inl zI))] H := hP
  have hD : va_D A [(h0, .inr (0, [.ref q1, .null, .null, .int 0])), (q1, .inl (T 0, 40, .inl zI)), (q2, .inl (T 0, 40, .inl zI))] := hD
  refine va_putF (D := D) (ci := 0) (v := .ref q2) (ty := .array .int) (C := "PageScribe$Stack") (T := F_Stack) (N := 4) hx hb hts i_Stack t_Stack t_Stack_ok n_Stack hown hK hP hD hS 0 rfl rfl 1 (by decide) (hts _ k_1_47) (fun _ h9 => h9) rfl hin rfl (by decide +kernel) rfl rfl (Nat.le_of_ble_eq_true rfl) d_Row_init_20 (fun H locs hP hD hS => ?_)
  have hP : va_P D classes [(h0, .inr (0, [.ref q1, .ref q2, .null, .int 0])), (q1, .inl (T 0, 40, .inl zI)), (q2, .inl (T 0, 40, .inl zI))] H := hP
  have hD : va_D A [(h0, .inr (0, [.ref q1, .ref q2, .null, .int 0])), (q1, .inl (T 0, 40, .inl zI)), (q2, .inl (T 0, 40, .inl zI))] := hD
  refine lv_aload_n hx hb d_Row_init_23 rfl (lv_at hl 0 rfl) ?_
  refine lv_iload_n hx hb d_Row_init_24 rfl (lv_at hl 1 rfl) ?_
  refine j_newa (atype := .double) (ty := .double) F k_1_68 rfl hK hP hD hS hA 3 (T 3) rfl (40, .inr (.inr (.inr (.inl zD)))) (fun _ => rfl) (by decide +kernel) (by decide +kernel) (by decide +kernel) (Nat.le_of_ble_eq_true rfl) (Nat.le_of_ble_eq_true rfl) d_Row_init_25 (fun q3 H hP hD hS => ?_)
  have hP : va_P D classes [(h0, .inr (0, [.ref q1, .ref q2, .null, .int 0])), (q1, .inl (T 0, 40, .inl zI)), (q2, .inl (T 0, 40, .inl zI)), (q3, .inl (T 3, 40, .inr (.inr (.inr (.inl zD)))))] H := hP
  have hD : va_D A [(h0, .inr (0, [.ref q1, .ref q2, .null, .int 0])), (q1, .inl (T 0, 40, .inl zI)), (q2, .inl (T 0, 40, .inl zI)), (q3, .inl (T 3, 40, .inr (.inr (.inr (.inl zD)))))] := hD
  refine va_putF (D := D) (ci := 0) (v := .ref q3) (ty := .array .double) (C := "PageScribe$Stack") (T := F_Stack) (N := 4) hx hb hts i_Stack t_Stack t_Stack_ok n_Stack hown hK hP hD hS 0 rfl rfl 2 (by decide) (hts _ k_1_48) (fun _ h9 => h9) rfl hin rfl (by decide +kernel) rfl rfl (Nat.le_of_ble_eq_true rfl) d_Row_init_27 (fun H locs hP hD hS => ?_)
  have hP : va_P D classes [(h0, .inr (0, [.ref q1, .ref q2, .ref q3, .int 0])), (q1, .inl (T 0, 40, .inl zI)), (q2, .inl (T 0, 40, .inl zI)), (q3, .inl (T 3, 40, .inr (.inr (.inr (.inl zD)))))] H := hP
  have hD : va_D A [(h0, .inr (0, [.ref q1, .ref q2, .ref q3, .int 0])), (q1, .inl (T 0, 40, .inl zI)), (q2, .inl (T 0, 40, .inl zI)), (q3, .inl (T 3, 40, .inr (.inr (.inr (.inl zD)))))] := hD
  have hP9 := hP.sub (ws' := [(h0, .inr (0, [.ref q1, .ref q2, .ref q3, .int 0])), (q1, .inl (T 0, 40, .inl zI)), (q2, .inl (T 0, 40, .inl zI)), (q3, .inl (T 3, 40, .inr (.inr (.inr (.inl zD)))))]) [0, 1, 2, 3] rfl
  have hD9 := hD.sub (ws' := [(h0, .inr (0, [.ref q1, .ref q2, .ref q3, .int 0])), (q1, .inl (T 0, 40, .inl zI)), (q2, .inl (T 0, 40, .inl zI)), (q3, .inl (T 3, 40, .inr (.inr (.inr (.inl zD)))))]) [0, 1, 2, 3] (by decide) rfl
  refine W.widen (k := 3) (n := 120) (Nat.le_of_ble_eq_true rfl) (Nat.le_of_ble_eq_true rfl) ?_
  exact j_vret F hr hlocks hK hS (q1, q2, q3) trivial hP9 hD9 d_Row_init_30
set_option maxHeartbeats 4000000 in
set_option maxRecDepth 100000 in
theorem c_Row_init_Row160 (l : Launch) (D : va_G) (T : Nat → ClassId) (h0 : Nat) (sz : Nat) : Met l ⟨"PageScribe$Row", "<init>", "(I)V"⟩ (wy ⟨"PageScribe$Row", "<init>", "(I)V"⟩ prog_8_method_1_code 2 none) ({ frames := 1, cells := 3, slots := 480, locals := 70 }) (va_Pc [.ref h0, .int 160] (Pw D T [(h0, .inr (4, [.null, .null, .null, .int 0]))] sz E0)) (va_Qv (fun (u : Nat × Nat × Nat) => True) (fun u t => Bw D T (va_A [(h0, .inr (4, [.null, .null, .null, .int 0]))] sz) [(h0, .inr (4, [.ref u.1, .ref u.2.1, .ref u.2.2, .int 0]))] t) (va_A [(h0, .inr (4, [.null, .null, .null, .int 0]))] sz)) 3 480 (va_A [(h0, .inr (4, [.null, .null, .null, .int 0]))] sz) := by
  refine j_met (y := ⟨"PageScribe$Row", "<init>", "(I)V"⟩) (b := prog_8_method_1_code) (n := 2) (ret := none) (av := [.ref h0, .int 160]) (Qc := fun A => va_Qv (fun (u : Nat × Nat × Nat) => True) (fun u t => Bw D T A [(h0, .inr (4, [.ref u.1, .ref u.2.1, .ref u.2.2, .int 0]))] t) A) (by decide +kernel) (Nat.le_of_ble_eq_true rfl) (fun p e s m args below meth c A ls F hr hlocks hnm hK hP hD hS hA hN hE hl => ?_)
  obtain ⟨hx, hb, hml, hown, hts⟩ := id F
  have hin := hnm
  have hl : lv_has ls 2 [(0, .ref h0), (1, .int 160)] := hl
  refine lv_aload_n hx hb d_Row_init_0 rfl (lv_at hl 0 rfl) ?_
  refine j_obj F hl.1 k_1_45 k_1_35 k_1_36 d_Row_init_1 (Nat.le_of_ble_eq_true rfl) (Nat.le_of_ble_eq_true rfl) ?_
  refine lv_aload_n hx hb d_Row_init_4 rfl (lv_at hl 0 rfl) ?_
  refine lv_iconst (v := 0) hx hb d_Row_init_5 (by decide) ?_
  refine va_put (D := D) (ci := 4) (v := .int 0) (ty := .int) (C := "PageScribe$Row") (T := F_Row) (N := 4) hx hb hts i_Row t_Row t_Row_ok n_Row hown hK hP hD hS 0 rfl rfl 3 (by decide) (hts _ k_1_49) (fun _ h9 => h9) rfl (by decide +kernel) rfl rfl (Nat.le_of_ble_eq_true rfl) d_Row_init_6 (fun H locs hP hD hS => ?_)
  have hP : va_P D classes [(h0, .inr (4, [.null, .null, .null, .int 0]))] H := hP
  have hD : va_D A [(h0, .inr (4, [.null, .null, .null, .int 0]))] := hD
  refine lv_aload_n hx hb d_Row_init_9 rfl (lv_at hl 0 rfl) ?_
  refine lv_iload_n hx hb d_Row_init_10 rfl (lv_at hl 1 rfl) ?_
  refine j_newa (atype := .int) (ty := .int) F k_1_67 rfl hK hP hD hS hA 0 (T 0) rfl (160, .inl zI) (fun _ => rfl) (by decide +kernel) (by decide +kernel) (by decide +kernel) (Nat.le_of_ble_eq_true rfl) (Nat.le_of_ble_eq_true rfl) d_Row_init_11 (fun q1 H hP hD hS => ?_)
  have hP : va_P D classes [(h0, .inr (4, [.null, .null, .null, .int 0])), (q1, .inl (T 0, 160, .inl zI))] H := hP
  have hD : va_D A [(h0, .inr (4, [.null, .null, .null, .int 0])), (q1, .inl (T 0, 160, .inl zI))] := hD
  refine va_putF (D := D) (ci := 4) (v := .ref q1) (ty := .array .int) (C := "PageScribe$Row") (T := F_Row) (N := 4) hx hb hts i_Row t_Row t_Row_ok n_Row hown hK hP hD hS 0 rfl rfl 0 (by decide) (hts _ k_1_46) (fun _ h9 => h9) rfl hin rfl (by decide +kernel) rfl rfl (Nat.le_of_ble_eq_true rfl) d_Row_init_13 (fun H locs hP hD hS => ?_)
  have hP : va_P D classes [(h0, .inr (4, [.ref q1, .null, .null, .int 0])), (q1, .inl (T 0, 160, .inl zI))] H := hP
  have hD : va_D A [(h0, .inr (4, [.ref q1, .null, .null, .int 0])), (q1, .inl (T 0, 160, .inl zI))] := hD
  refine lv_aload_n hx hb d_Row_init_16 rfl (lv_at hl 0 rfl) ?_
  refine lv_iload_n hx hb d_Row_init_17 rfl (lv_at hl 1 rfl) ?_
  refine j_newa (atype := .int) (ty := .int) F k_1_67 rfl hK hP hD hS hA 0 (T 0) rfl (160, .inl zI) (fun _ => rfl) (by decide +kernel) (by decide +kernel) (by decide +kernel) (Nat.le_of_ble_eq_true rfl) (Nat.le_of_ble_eq_true rfl) d_Row_init_18 (fun q2 H hP hD hS => ?_)
  have hP : va_P D classes [(h0, .inr (4, [.ref q1, .null, .null, .int 0])), (q1, .inl (T 0, 160, .inl zI)), (q2, .inl (T 0, 160, .inl zI))] H := hP
  have hD : va_D A [(h0, .inr (4, [.ref q1, .null, .null, .int 0])), (q1, .inl (T 0, 160, .inl zI)), (q2, .inl (T 0, 160, .inl zI))] := hD
  refine va_putF (D := D) (ci := 4) (v := .ref q2) (ty := .array .int) (C := "PageScribe$Row") (T := F_Row) (N := 4) hx hb hts i_Row t_Row t_Row_ok n_Row hown hK hP hD hS 0 rfl rfl 1 (by decide) (hts _ k_1_47) (fun _ h9 => h9) rfl hin rfl (by decide +kernel) rfl rfl (Nat.le_of_ble_eq_true rfl) d_Row_init_20 (fun H locs hP hD hS => ?_)
  have hP : va_P D classes [(h0, .inr (4, [.ref q1, .ref q2, .null, .int 0])), (q1, .inl (T 0, 160, .inl zI)), (q2, .inl (T 0, 160, .inl zI))] H := hP
  have hD : va_D A [(h0, .inr (4, [.ref q1, .ref q2, .null, .int 0])), (q1, .inl (T 0, 160, .inl zI)), (q2, .inl (T 0, 160, .inl zI))] := hD
  refine lv_aload_n hx hb d_Row_init_23 rfl (lv_at hl 0 rfl) ?_
  refine lv_iload_n hx hb d_Row_init_24 rfl (lv_at hl 1 rfl) ?_
  refine j_newa (atype := .double) (ty := .double) F k_1_68 rfl hK hP hD hS hA 3 (T 3) rfl (160, .inr (.inr (.inr (.inl zD)))) (fun _ => rfl) (by decide +kernel) (by decide +kernel) (by decide +kernel) (Nat.le_of_ble_eq_true rfl) (Nat.le_of_ble_eq_true rfl) d_Row_init_25 (fun q3 H hP hD hS => ?_)
  have hP : va_P D classes [(h0, .inr (4, [.ref q1, .ref q2, .null, .int 0])), (q1, .inl (T 0, 160, .inl zI)), (q2, .inl (T 0, 160, .inl zI)), (q3, .inl (T 3, 160, .inr (.inr (.inr (.inl zD)))))] H := hP
  have hD : va_D A [(h0, .inr (4, [.ref q1, .ref q2, .null, .int 0])), (q1, .inl (T 0, 160, .inl zI)), (q2, .inl (T 0, 160, .inl zI)), (q3, .inl (T 3, 160, .inr (.inr (.inr (.inl zD)))))] := hD
  refine va_putF (D := D) (ci := 4) (v := .ref q3) (ty := .array .double) (C := "PageScribe$Row") (T := F_Row) (N := 4) hx hb hts i_Row t_Row t_Row_ok n_Row hown hK hP hD hS 0 rfl rfl 2 (by decide) (hts _ k_1_48) (fun _ h9 => h9) rfl hin rfl (by decide +kernel) rfl rfl (Nat.le_of_ble_eq_true rfl) d_Row_init_27 (fun H locs hP hD hS => ?_)
  have hP : va_P D classes [(h0, .inr (4, [.ref q1, .ref q2, .ref q3, .int 0])), (q1, .inl (T 0, 160, .inl zI)), (q2, .inl (T 0, 160, .inl zI)), (q3, .inl (T 3, 160, .inr (.inr (.inr (.inl zD)))))] H := hP
  have hD : va_D A [(h0, .inr (4, [.ref q1, .ref q2, .ref q3, .int 0])), (q1, .inl (T 0, 160, .inl zI)), (q2, .inl (T 0, 160, .inl zI)), (q3, .inl (T 3, 160, .inr (.inr (.inr (.inl zD)))))] := hD
  have hP9 := hP.sub (ws' := [(h0, .inr (4, [.ref q1, .ref q2, .ref q3, .int 0]))]) [0] rfl
  have hD9 := hD.sub (ws' := [(h0, .inr (4, [.ref q1, .ref q2, .ref q3, .int 0]))]) [0] (by decide) rfl
  refine W.widen (k := 3) (n := 480) (Nat.le_of_ble_eq_true rfl) (Nat.le_of_ble_eq_true rfl) ?_
  exact j_vret F hr hlocks hK hS (q1, q2, q3) trivial hP9 hD9 d_Row_init_30
set_option maxHeartbeats 4000000 in
set_option maxRecDepth 100000 in
theorem c_Row_init_Row80 (l : Launch) (D : va_G) (T : Nat → ClassId) (h0 : Nat) (sz : Nat) : Met l ⟨"PageScribe$Row", "<init>", "(I)V"⟩ (wy ⟨"PageScribe$Row", "<init>", "(I)V"⟩ prog_8_method_1_code 2 none) ({ frames := 1, cells := 3, slots := 240, locals := 70 }) (va_Pc [.ref h0, .int 80] (Pw D T [(h0, .inr (4, [.null, .null, .null, .int 0]))] sz E0)) (va_Qv (fun (u : Nat × Nat × Nat) => True) (fun u t => Bw D T (va_A [(h0, .inr (4, [.null, .null, .null, .int 0]))] sz) [(h0, .inr (4, [.ref u.1, .ref u.2.1, .ref u.2.2, .int 0]))] t) (va_A [(h0, .inr (4, [.null, .null, .null, .int 0]))] sz)) 3 240 (va_A [(h0, .inr (4, [.null, .null, .null, .int 0]))] sz) := by
  refine j_met (y := ⟨"PageScribe$Row", "<init>", "(I)V"⟩) (b := prog_8_method_1_code) (n := 2) (ret := none) (av := [.ref h0, .int 80]) (Qc := fun A => va_Qv (fun (u : Nat × Nat × Nat) => True) (fun u t => Bw D T A [(h0, .inr (4, [.ref u.1, .ref u.2.1, .ref u.2.2, .int 0]))] t) A) (by decide +kernel) (Nat.le_of_ble_eq_true rfl) (fun p e s m args below meth c A ls F hr hlocks hnm hK hP hD hS hA hN hE hl => ?_)
  obtain ⟨hx, hb, hml, hown, hts⟩ := id F
  have hin := hnm
  have hl : lv_has ls 2 [(0, .ref h0), (1, .int 80)] := hl
  refine lv_aload_n hx hb d_Row_init_0 rfl (lv_at hl 0 rfl) ?_
  refine j_obj F hl.1 k_1_45 k_1_35 k_1_36 d_Row_init_1 (Nat.le_of_ble_eq_true rfl) (Nat.le_of_ble_eq_true rfl) ?_
  refine lv_aload_n hx hb d_Row_init_4 rfl (lv_at hl 0 rfl) ?_
  refine lv_iconst (v := 0) hx hb d_Row_init_5 (by decide) ?_
  refine va_put (D := D) (ci := 4) (v := .int 0) (ty := .int) (C := "PageScribe$Row") (T := F_Row) (N := 4) hx hb hts i_Row t_Row t_Row_ok n_Row hown hK hP hD hS 0 rfl rfl 3 (by decide) (hts _ k_1_49) (fun _ h9 => h9) rfl (by decide +kernel) rfl rfl (Nat.le_of_ble_eq_true rfl) d_Row_init_6 (fun H locs hP hD hS => ?_)
  have hP : va_P D classes [(h0, .inr (4, [.null, .null, .null, .int 0]))] H := hP
  have hD : va_D A [(h0, .inr (4, [.null, .null, .null, .int 0]))] := hD
  refine lv_aload_n hx hb d_Row_init_9 rfl (lv_at hl 0 rfl) ?_
  refine lv_iload_n hx hb d_Row_init_10 rfl (lv_at hl 1 rfl) ?_
  refine j_newa (atype := .int) (ty := .int) F k_1_67 rfl hK hP hD hS hA 0 (T 0) rfl (80, .inl zI) (fun _ => rfl) (by decide +kernel) (by decide +kernel) (by decide +kernel) (Nat.le_of_ble_eq_true rfl) (Nat.le_of_ble_eq_true rfl) d_Row_init_11 (fun q1 H hP hD hS => ?_)
  have hP : va_P D classes [(h0, .inr (4, [.null, .null, .null, .int 0])), (q1, .inl (T 0, 80, .inl zI))] H := hP
  have hD : va_D A [(h0, .inr (4, [.null, .null, .null, .int 0])), (q1, .inl (T 0, 80, .inl zI))] := hD
  refine va_putF (D := D) (ci := 4) (v := .ref q1) (ty := .array .int) (C := "PageScribe$Row") (T := F_Row) (N := 4) hx hb hts i_Row t_Row t_Row_ok n_Row hown hK hP hD hS 0 rfl rfl 0 (by decide) (hts _ k_1_46) (fun _ h9 => h9) rfl hin rfl (by decide +kernel) rfl rfl (Nat.le_of_ble_eq_true rfl) d_Row_init_13 (fun H locs hP hD hS => ?_)
  have hP : va_P D classes [(h0, .inr (4, [.ref q1, .null, .null, .int 0])), (q1, .inl (T 0, 80, .inl zI))] H := hP
  have hD : va_D A [(h0, .inr (4, [.ref q1, .null, .null, .int 0])), (q1, .inl (T 0, 80, .inl zI))] := hD
  refine lv_aload_n hx hb d_Row_init_16 rfl (lv_at hl 0 rfl) ?_
  refine lv_iload_n hx hb d_Row_init_17 rfl (lv_at hl 1 rfl) ?_
  refine j_newa (atype := .int) (ty := .int) F k_1_67 rfl hK hP hD hS hA 0 (T 0) rfl (80, .inl zI) (fun _ => rfl) (by decide +kernel) (by decide +kernel) (by decide +kernel) (Nat.le_of_ble_eq_true rfl) (Nat.le_of_ble_eq_true rfl) d_Row_init_18 (fun q2 H hP hD hS => ?_)
  have hP : va_P D classes [(h0, .inr (4, [.ref q1, .null, .null, .int 0])), (q1, .inl (T 0, 80, .inl zI)), (q2, .inl (T 0, 80, .inl zI))] H := hP
  have hD : va_D A [(h0, .inr (4, [.ref q1, .null, .null, .int 0])), (q1, .inl (T 0, 80, .inl zI)), (q2, .inl (T 0, 80, .inl zI))] := hD
  refine va_putF (D := D) (ci := 4) (v := .ref q2) (ty := .array .int) (C := "PageScribe$Row") (T := F_Row) (N := 4) hx hb hts i_Row t_Row t_Row_ok n_Row hown hK hP hD hS 0 rfl rfl 1 (by decide) (hts _ k_1_47) (fun _ h9 => h9) rfl hin rfl (by decide +kernel) rfl rfl (Nat.le_of_ble_eq_true rfl) d_Row_init_20 (fun H locs hP hD hS => ?_)
  have hP : va_P D classes [(h0, .inr (4, [.ref q1, .ref q2, .null, .int 0])), (q1, .inl (T 0, 80, .inl zI)), (q2, .inl (T 0, 80, .inl zI))] H := hP
  have hD : va_D A [(h0, .inr (4, [.ref q1, .ref q2, .null, .int 0])), (q1, .inl (T 0, 80, .inl zI)), (q2, .inl (T 0, 80, .inl zI))] := hD
  refine lv_aload_n hx hb d_Row_init_23 rfl (lv_at hl 0 rfl) ?_
  refine lv_iload_n hx hb d_Row_init_24 rfl (lv_at hl 1 rfl) ?_
  refine j_newa (atype := .double) (ty := .double) F k_1_68 rfl hK hP hD hS hA 3 (T 3) rfl (80, .inr (.inr (.inr (.inl zD)))) (fun _ => rfl) (by decide +kernel) (by decide +kernel) (by decide +kernel) (Nat.le_of_ble_eq_true rfl) (Nat.le_of_ble_eq_true rfl) d_Row_init_25 (fun q3 H hP hD hS => ?_)
  have hP : va_P D classes [(h0, .inr (4, [.ref q1, .ref q2, .null, .int 0])), (q1, .inl (T 0, 80, .inl zI)), (q2, .inl (T 0, 80, .inl zI)), (q3, .inl (T 3, 80, .inr (.inr (.inr (.inl zD)))))] H := hP
  have hD : va_D A [(h0, .inr (4, [.ref q1, .ref q2, .null, .int 0])), (q1, .inl (T 0, 80, .inl zI)), (q2, .inl (T 0, 80, .inl zI)), (q3, .inl (T 3, 80, .inr (.inr (.inr (.inl zD)))))] := hD
  refine va_putF (D := D) (ci := 4) (v := .ref q3) (ty := .array .double) (C := "PageScribe$Row") (T := F_Row) (N := 4) hx hb hts i_Row t_Row t_Row_ok n_Row hown hK hP hD hS 0 rfl rfl 2 (by decide) (hts _ k_1_48) (fun _ h9 => h9) rfl hin rfl (by decide +kernel) rfl rfl (Nat.le_of_ble_eq_true rfl) d_Row_init_27 (fun H locs hP hD hS => ?_)
  have hP : va_P D classes [(h0, .inr (4, [.ref q1, .ref q2, .ref q3, .int 0])), (q1, .inl (T 0, 80, .inl zI)), (q2, .inl (T 0, 80, .inl zI)), (q3, .inl (T 3, 80, .inr (.inr (.inr (.inl zD)))))] H := hP
  have hD : va_D A [(h0, .inr (4, [.ref q1, .ref q2, .ref q3, .int 0])), (q1, .inl (T 0, 80, .inl zI)), (q2, .inl (T 0, 80, .inl zI)), (q3, .inl (T 3, 80, .inr (.inr (.inr (.inl zD)))))] := hD
  have hP9 := hP.sub (ws' := [(h0, .inr (4, [.ref q1, .ref q2, .ref q3, .int 0]))]) [0] rfl
  have hD9 := hD.sub (ws' := [(h0, .inr (4, [.ref q1, .ref q2, .ref q3, .int 0]))]) [0] (by decide) rfl
  refine W.widen (k := 3) (n := 240) (Nat.le_of_ble_eq_true rfl) (Nat.le_of_ble_eq_true rfl) ?_
  exact j_vret F hr hlocks hK hS (q1, q2, q3) trivial hP9 hD9 d_Row_init_30
set_option maxHeartbeats 4000000 in
set_option maxRecDepth 100000 in
theorem c_Row_init_Row120 (l : Launch) (D : va_G) (T : Nat → ClassId) (h0 : Nat) (sz : Nat) : Met l ⟨"PageScribe$Row", "<init>", "(I)V"⟩ (wy ⟨"PageScribe$Row", "<init>", "(I)V"⟩ prog_8_method_1_code 2 none) ({ frames := 1, cells := 3, slots := 360, locals := 70 }) (va_Pc [.ref h0, .int 120] (Pw D T [(h0, .inr (4, [.null, .null, .null, .int 0]))] sz E0)) (va_Qv (fun (u : Nat × Nat × Nat) => True) (fun u t => Bw D T (va_A [(h0, .inr (4, [.null, .null, .null, .int 0]))] sz) [(h0, .inr (4, [.ref u.1, .ref u.2.1, .ref u.2.2, .int 0]))] t) (va_A [(h0, .inr (4, [.null, .null, .null, .int 0]))] sz)) 3 360 (va_A [(h0, .inr (4, [.null, .null, .null, .int 0]))] sz) := by
  refine j_met (y := ⟨"PageScribe$Row", "<init>", "(I)V"⟩) (b := prog_8_method_1_code) (n := 2) (ret := none) (av := [.ref h0, .int 120]) (Qc := fun A => va_Qv (fun (u : Nat × Nat × Nat) => True) (fun u t => Bw D T A [(h0, .inr (4, [.ref u.1, .ref u.2.1, .ref u.2.2, .int 0]))] t) A) (by decide +kernel) (Nat.le_of_ble_eq_true rfl) (fun p e s m args below meth c A ls F hr hlocks hnm hK hP hD hS hA hN hE hl => ?_)
  obtain ⟨hx, hb, hml, hown, hts⟩ := id F
  have hin := hnm
  have hl : lv_has ls 2 [(0, .ref h0), (1, .int 120)] := hl
  refine lv_aload_n hx hb d_Row_init_0 rfl (lv_at hl 0 rfl) ?_
  refine j_obj F hl.1 k_1_45 k_1_35 k_1_36 d_Row_init_1 (Nat.le_of_ble_eq_true rfl) (Nat.le_of_ble_eq_true rfl) ?_
  refine lv_aload_n hx hb d_Row_init_4 rfl (lv_at hl 0 rfl) ?_
  refine lv_iconst (v := 0) hx hb d_Row_init_5 (by decide) ?_
  refine va_put (D := D) (ci := 4) (v := .int 0) (ty := .int) (C := "PageScribe$Row") (T := F_Row) (N := 4) hx hb hts i_Row t_Row t_Row_ok n_Row hown hK hP hD hS 0 rfl rfl 3 (by decide) (hts _ k_1_49) (fun _ h9 => h9) rfl (by decide +kernel) rfl rfl (Nat.le_of_ble_eq_true rfl) d_Row_init_6 (fun H locs hP hD hS => ?_)
  have hP : va_P D classes [(h0, .inr (4, [.null, .null, .null, .int 0]))] H := hP
  have hD : va_D A [(h0, .inr (4, [.null, .null, .null, .int 0]))] := hD
  refine lv_aload_n hx hb d_Row_init_9 rfl (lv_at hl 0 rfl) ?_
  refine lv_iload_n hx hb d_Row_init_10 rfl (lv_at hl 1 rfl) ?_
  refine j_newa (atype := .int) (ty := .int) F k_1_67 rfl hK hP hD hS hA 0 (T 0) rfl (120, .inl zI) (fun _ => rfl) (by decide +kernel) (by decide +kernel) (by decide +kernel) (Nat.le_of_ble_eq_true rfl) (Nat.le_of_ble_eq_true rfl) d_Row_init_11 (fun q1 H hP hD hS => ?_)
  have hP : va_P D classes [(h0, .inr (4, [.null, .null, .null, .int 0])), (q1, .inl (T 0, 120, .inl zI))] H := hP
  have hD : va_D A [(h0, .inr (4, [.null, .null, .null, .int 0])), (q1, .inl (T 0, 120, .inl zI))] := hD
  refine va_putF (D := D) (ci := 4) (v := .ref q1) (ty := .array .int) (C := "PageScribe$Row") (T := F_Row) (N := 4) hx hb hts i_Row t_Row t_Row_ok n_Row hown hK hP hD hS 0 rfl rfl 0 (by decide) (hts _ k_1_46) (fun _ h9 => h9) rfl hin rfl (by decide +kernel) rfl rfl (Nat.le_of_ble_eq_true rfl) d_Row_init_13 (fun H locs hP hD hS => ?_)
  have hP : va_P D classes [(h0, .inr (4, [.ref q1, .null, .null, .int 0])), (q1, .inl (T 0, 120, .inl zI))] H := hP
  have hD : va_D A [(h0, .inr (4, [.ref q1, .null, .null, .int 0])), (q1, .inl (T 0, 120, .inl zI))] := hD
  refine lv_aload_n hx hb d_Row_init_16 rfl (lv_at hl 0 rfl) ?_
  refine lv_iload_n hx hb d_Row_init_17 rfl (lv_at hl 1 rfl) ?_
  refine j_newa (atype := .int) (ty := .int) F k_1_67 rfl hK hP hD hS hA 0 (T 0) rfl (120, .inl zI) (fun _ => rfl) (by decide +kernel) (by decide +kernel) (by decide +kernel) (Nat.le_of_ble_eq_true rfl) (Nat.le_of_ble_eq_true rfl) d_Row_init_18 (fun q2 H hP hD hS => ?_)
  have hP : va_P D classes [(h0, .inr (4, [.ref q1, .null, .null, .int 0])), (q1, .inl (T 0, 120, .inl zI)), (q2, .inl (T 0, 120, .inl zI))] H := hP
  have hD : va_D A [(h0, .inr (4, [.ref q1, .null, .null, .int 0])), (q1, .inl (T 0, 120, .inl zI)), (q2, .inl (T 0, 120, .inl zI))] := hD
  refine va_putF (D := D) (ci := 4) (v := .ref q2) (ty := .array .int) (C := "PageScribe$Row") (T := F_Row) (N := 4) hx hb hts i_Row t_Row t_Row_ok n_Row hown hK hP hD hS 0 rfl rfl 1 (by decide) (hts _ k_1_47) (fun _ h9 => h9) rfl hin rfl (by decide +kernel) rfl rfl (Nat.le_of_ble_eq_true rfl) d_Row_init_20 (fun H locs hP hD hS => ?_)
  have hP : va_P D classes [(h0, .inr (4, [.ref q1, .ref q2, .null, .int 0])), (q1, .inl (T 0, 120, .inl zI)), (q2, .inl (T 0, 120, .inl zI))] H := hP
  have hD : va_D A [(h0, .inr (4, [.ref q1, .ref q2, .null, .int 0])), (q1, .inl (T 0, 120, .inl zI)), (q2, .inl (T 0, 120, .inl zI))] := hD
  refine lv_aload_n hx hb d_Row_init_23 rfl (lv_at hl 0 rfl) ?_
  refine lv_iload_n hx hb d_Row_init_24 rfl (lv_at hl 1 rfl) ?_
  refine j_newa (atype := .double) (ty := .double) F k_1_68 rfl hK hP hD hS hA 3 (T 3) rfl (120, .inr (.inr (.inr (.inl zD)))) (fun _ => rfl) (by decide +kernel) (by decide +kernel) (by decide +kernel) (Nat.le_of_ble_eq_true rfl) (Nat.le_of_ble_eq_true rfl) d_Row_init_25 (fun q3 H hP hD hS => ?_)
  have hP : va_P D classes [(h0, .inr (4, [.ref q1, .ref q2, .null, .int 0])), (q1, .inl (T 0, 120, .inl zI)), (q2, .inl (T 0, 120, .inl zI)), (q3, .inl (T 3, 120, .inr (.inr (.inr (.inl zD)))))] H := hP
  have hD : va_D A [(h0, .inr (4, [.ref q1, .ref q2, .null, .int 0])), (q1, .inl (T 0, 120, .inl zI)), (q2, .inl (T 0, 120, .inl zI)), (q3, .inl (T 3, 120, .inr (.inr (.inr (.inl zD)))))] := hD
  refine va_putF (D := D) (ci := 4) (v := .ref q3) (ty := .array .double) (C := "PageScribe$Row") (T := F_Row) (N := 4) hx hb hts i_Row t_Row t_Row_ok n_Row hown hK hP hD hS 0 rfl rfl 2 (by decide) (hts _ k_1_48) (fun _ h9 => h9) rfl hin rfl (by decide +kernel) rfl rfl (Nat.le_of_ble_eq_true rfl) d_Row_init_27 (fun H locs hP hD hS => ?_)
  have hP : va_P D classes [(h0, .inr (4, [.ref q1, .ref q2, .ref q3, .int 0])), (q1, .inl (T 0, 120, .inl zI)), (q2, .inl (T 0, 120, .inl zI)), (q3, .inl (T 3, 120, .inr (.inr (.inr (.inl zD)))))] H := hP
  have hD : va_D A [(h0, .inr (4, [.ref q1, .ref q2, .ref q3, .int 0])), (q1, .inl (T 0, 120, .inl zI)), (q2, .inl (T 0, 120, .inl zI)), (q3, .inl (T 3, 120, .inr (.inr (.inr (.inl zD)))))] := hD
  have hP9 := hP.sub (ws' := [(h0, .inr (4, [.ref q1, .ref q2, .ref q3, .int 0]))]) [0] rfl
  have hD9 := hD.sub (ws' := [(h0, .inr (4, [.ref q1, .ref q2, .ref q3, .int 0]))]) [0] (by decide) rfl
  refine W.widen (k := 3) (n := 360) (Nat.le_of_ble_eq_true rfl) (Nat.le_of_ble_eq_true rfl) ?_
  exact j_vret F hr hlocks hK hS (q1, q2, q3) trivial hP9 hD9 d_Row_init_30
theorem d_Stack_init_0 : decode prog_9_method_1_code 0 = .ok (.aload_n 0, 1) := by decide +kernel
theorem d_Stack_init_1 : decode prog_9_method_1_code 1 = .ok (.bipush 40, 2) := by decide +kernel
theorem d_Stack_init_3 : decode prog_9_method_1_code 3 = .ok (.invokespecial 3, 3) := by decide +kernel
theorem k_1_44 : Cond.code ⟨"PageScribe$Row", "<init>", "(I)V"⟩ prog_8_method_1_code 2 none ∈ gw := gw_of (tb_1 (List.mem_of_getElem? (i := 44) (by decide +kernel))) (by decide +kernel)
theorem k_1_2 : Cond.initialized "PageScribe$Row" ∈ gw := gw_of (tb_1 (List.mem_of_getElem? (i := 2) (by decide +kernel))) (by decide +kernel)
theorem k_1_42 : Cond.methodLink "PageScribe$Stack" 3 ⟨"PageScribe$Row", "<init>", "(I)V"⟩ ∈ gw := gw_of (tb_1 (List.mem_of_getElem? (i := 42) (by decide +kernel))) (by decide +kernel)
theorem k_1_43 : Cond.instanceMethod ⟨"PageScribe$Row", "<init>", "(I)V"⟩ ∈ gw := gw_of (tb_1 (List.mem_of_getElem? (i := 43) (by decide +kernel))) (by decide +kernel)
theorem d_Stack_init_6 : decode prog_9_method_1_code 6 = .ok (.return_, 1) := by decide +kernel
set_option maxHeartbeats 4000000 in
set_option maxRecDepth 100000 in
theorem c_Stack_init (l : Launch) (D : va_G) (T : Nat → ClassId) (h0 : Nat) (sz : Nat) : Met l ⟨"PageScribe$Stack", "<init>", "()V"⟩ (wy ⟨"PageScribe$Stack", "<init>", "()V"⟩ prog_9_method_1_code 1 none) ({ frames := 2, cells := 3, slots := 120, locals := 140 }) (va_Pc [.ref h0] (Pw D T [(h0, .inr (0, [.null, .null, .null, .int 0]))] sz E0)) (va_Qv (fun (u : Nat × Nat × Nat) => True) (fun u t => Bw D T (va_A [(h0, .inr (0, [.null, .null, .null, .int 0]))] sz) [(h0, .inr (0, [.ref u.1, .ref u.2.1, .ref u.2.2, .int 0])), (u.1, .inl (T 0, 40, .inl zI)), (u.2.1, .inl (T 0, 40, .inl zI)), (u.2.2, .inl (T 3, 40, .inr (.inr (.inr (.inl zD)))))] t) (va_A [(h0, .inr (0, [.null, .null, .null, .int 0]))] sz)) 3 120 (va_A [(h0, .inr (0, [.null, .null, .null, .int 0]))] sz) := by
  refine j_met (y := ⟨"PageScribe$Stack", "<init>", "()V"⟩) (b := prog_9_method_1_code) (n := 1) (ret := none) (av := [.ref h0]) (Qc := fun A => va_Qv (fun (u : Nat × Nat × Nat) => True) (fun u t => Bw D T A [(h0, .inr (0, [.ref u.1, .ref u.2.1, .ref u.2.2, .int 0])), (u.1, .inl (T 0, 40, .inl zI)), (u.2.1, .inl (T 0, 40, .inl zI)), (u.2.2, .inl (T 3, 40, .inr (.inr (.inr (.inl zD)))))] t) A) (by decide +kernel) (Nat.le_of_ble_eq_true rfl) (fun p e s m args below meth c A ls F hr hlocks hnm hK hP hD hS hA hN hE hl => ?_)
  obtain ⟨hx, hb, hml, hown, hts⟩ := id F
  have hin := hnm
  have hl : lv_has ls 1 [(0, .ref h0)] := hl
  refine lv_aload_n hx hb d_Stack_init_0 rfl (lv_at hl 0 rfl) ?_
  refine lv_bipush (v := 40) hx hb d_Stack_init_1 (by decide) ?_
  refine j_cv (wc := [(h0, .inr (0, [.null, .null, .null, .int 0]))]) (wr := []) hK hP hD hS hA [0] [] rfl rfl (by decide) (by decide) (va_runI (As := [.int 40]) (rest := []) F (c_Row_init_Stack40 l D T h0 s.heap.size) (j_cI (k := 1) hts k_1_44 k_1_2 k_1_42 k_1_43 rfl (by decide +kernel) ⟨Nat.le_of_ble_eq_true rfl, Nat.le_of_ble_eq_true rfl⟩) (j_preS hK hP hD [0] rfl (by decide) (fun _ _ _ _ h => h) (fun _ _ _ => trivial)) rfl rfl hl.1 rfl (lv_room (Nat.le_of_ble_eq_true rfl)) d_Stack_init_3 ⟨Nat.le_of_ble_eq_true rfl, Nat.le_of_ble_eq_true rfl⟩) (fun u1 H locs hw hP hD hS => ?_)
  obtain ⟨a1_1, a2_1, a3_1⟩ := u1
  have hP : va_P D classes [(h0, .inr (0, [.ref a1_1, .ref a2_1, .ref a3_1, .int 0])), (a1_1, .inl (T 0, 40, .inl zI)), (a2_1, .inl (T 0, 40, .inl zI)), (a3_1, .inl (T 3, 40, .inr (.inr (.inr (.inl zD)))))] H := hP
  have hD : va_D A [(h0, .inr (0, [.ref a1_1, .ref a2_1, .ref a3_1, .int 0])), (a1_1, .inl (T 0, 40, .inl zI)), (a2_1, .inl (T 0, 40, .inl zI)), (a3_1, .inl (T 3, 40, .inr (.inr (.inr (.inl zD)))))] := hD
  have hP9 := hP.sub (ws' := [(h0, .inr (0, [.ref a1_1, .ref a2_1, .ref a3_1, .int 0])), (a1_1, .inl (T 0, 40, .inl zI)), (a2_1, .inl (T 0, 40, .inl zI)), (a3_1, .inl (T 3, 40, .inr (.inr (.inr (.inl zD)))))]) [0, 1, 2, 3] rfl
  have hD9 := hD.sub (ws' := [(h0, .inr (0, [.ref a1_1, .ref a2_1, .ref a3_1, .int 0])), (a1_1, .inl (T 0, 40, .inl zI)), (a2_1, .inl (T 0, 40, .inl zI)), (a3_1, .inl (T 3, 40, .inr (.inr (.inr (.inl zD)))))]) [0, 1, 2, 3] (by decide) rfl
  refine W.widen (k := 3) (n := 120) (Nat.le_of_ble_eq_true rfl) (Nat.le_of_ble_eq_true rfl) ?_
  exact j_vret F hr hlocks hK hS (a1_1, a2_1, a3_1) trivial hP9 hD9 d_Stack_init_6
theorem d_Words_init_0 : decode prog_13_method_1_code 0 = .ok (.aload_n 0, 1) := by decide +kernel
theorem d_Words_init_1 : decode prog_13_method_1_code 1 = .ok (.invokespecial 3, 3) := by decide +kernel
theorem k_1_74 : Cond.methodLink "PageScribe$Words" 3 ⟨"java/lang/Object", "<init>", "()V"⟩ ∈ gw := gw_of (tb_1 (List.mem_of_getElem? (i := 74) (by decide +kernel))) (by decide +kernel)
theorem d_Words_init_4 : decode prog_13_method_1_code 4 = .ok (.aload_n 0, 1) := by decide +kernel
theorem d_Words_init_5 : decode prog_13_method_1_code 5 = .ok (.sipush 320, 3) := by decide +kernel
theorem d_Words_init_8 : decode prog_13_method_1_code 8 = .ok (.newarray .char, 2) := by decide +kernel
theorem k_1_86 : Cond.arrayClass .char ∈ gw := gw_of (tb_1 (List.mem_of_getElem? (i := 86) (by decide +kernel))) (by decide +kernel)
theorem d_Words_init_10 : decode prog_13_method_1_code 10 = .ok (.putfield 9, 3) := by decide +kernel
theorem k_1_75 : Cond.fieldLink "PageScribe$Words" 9 "PageScribe$Words" "letters" "[C" ∈ gw := gw_of (tb_1 (List.mem_of_getElem? (i := 75) (by decide +kernel))) (by decide +kernel)
theorem d_Words_init_13 : decode prog_13_method_1_code 13 = .ok (.aload_n 0, 1) := by decide +kernel
theorem d_Words_init_14 : decode prog_13_method_1_code 14 = .ok (.bipush 40, 2) := by decide +kernel
theorem d_Words_init_16 : decode prog_13_method_1_code 16 = .ok (.newarray .int, 2) := by decide +kernel
theorem d_Words_init_18 : decode prog_13_method_1_code 18 = .ok (.putfield 15, 3) := by decide +kernel
theorem k_1_76 : Cond.fieldLink "PageScribe$Words" 15 "PageScribe$Words" "lengths" "[I" ∈ gw := gw_of (tb_1 (List.mem_of_getElem? (i := 76) (by decide +kernel))) (by decide +kernel)
theorem d_Words_init_21 : decode prog_13_method_1_code 21 = .ok (.aload_n 0, 1) := by decide +kernel
theorem d_Words_init_22 : decode prog_13_method_1_code 22 = .ok (.iconst 0, 1) := by decide +kernel
theorem d_Words_init_23 : decode prog_13_method_1_code 23 = .ok (.putfield 19, 3) := by decide +kernel
theorem k_1_77 : Cond.fieldLink "PageScribe$Words" 19 "PageScribe$Words" "count" "I" ∈ gw := gw_of (tb_1 (List.mem_of_getElem? (i := 77) (by decide +kernel))) (by decide +kernel)
theorem d_Words_init_26 : decode prog_13_method_1_code 26 = .ok (.return_, 1) := by decide +kernel
set_option maxHeartbeats 4000000 in
set_option maxRecDepth 100000 in
theorem c_Words_init (l : Launch) (D : va_G) (T : Nat → ClassId) (h0 : Nat) (sz : Nat) : Met l ⟨"PageScribe$Words", "<init>", "()V"⟩ (wy ⟨"PageScribe$Words", "<init>", "()V"⟩ prog_13_method_1_code 1 none) ({ frames := 1, cells := 2, slots := 360, locals := 70 }) (va_Pc [.ref h0] (Pw D T [(h0, .inr (1, [.null, .null, .int 0]))] sz E0)) (va_Qv (fun (u : Nat × Nat) => True) (fun u t => Bw D T (va_A [(h0, .inr (1, [.null, .null, .int 0]))] sz) [(h0, .inr (1, [.ref u.1, .ref u.2, .int 0]))] t) (va_A [(h0, .inr (1, [.null, .null, .int 0]))] sz)) 2 360 (va_A [(h0, .inr (1, [.null, .null, .int 0]))] sz) := by
  refine j_met (y := ⟨"PageScribe$Words", "<init>", "()V"⟩) (b := prog_13_method_1_code) (n := 1) (ret := none) (av := [.ref h0]) (Qc := fun A => va_Qv (fun (u : Nat × Nat) => True) (fun u t => Bw D T A [(h0, .inr (1, [.ref u.1, .ref u.2, .int 0]))] t) A) (by decide +kernel) (Nat.le_of_ble_eq_true rfl) (fun p e s m args below meth c A ls F hr hlocks hnm hK hP hD hS hA hN hE hl => ?_)
  obtain ⟨hx, hb, hml, hown, hts⟩ := id F
  have hin := hnm
  have hl : lv_has ls 1 [(0, .ref h0)] := hl
  refine lv_aload_n hx hb d_Words_init_0 rfl (lv_at hl 0 rfl) ?_
  refine j_obj F hl.1 k_1_74 k_1_35 k_1_36 d_Words_init_1 (Nat.le_of_ble_eq_true rfl) (Nat.le_of_ble_eq_true rfl) ?_
  refine lv_aload_n hx hb d_Words_init_4 rfl (lv_at hl 0 rfl) ?_
  refine lv_sipush (v := 320) hx hb d_Words_init_5 (by decide) ?_
  refine j_newa (atype := .char) (ty := .char) F k_1_86 rfl hK hP hD hS hA 2 (T 2) rfl (320, .inl zI) (fun _ => rfl) (by decide +kernel) (by decide +kernel) (by decide +kernel) (Nat.le_of_ble_eq_true rfl) (Nat.le_of_ble_eq_true rfl) d_Words_init_8 (fun q1 H hP hD hS => ?_)
  have hP : va_P D classes [(h0, .inr (1, [.null, .null, .int 0])), (q1, .inl (T 2, 320, .inl zI))] H := hP
  have hD : va_D A [(h0, .inr (1, [.null, .null, .int 0])), (q1, .inl (T 2, 320, .inl zI))] := hD
  refine va_putF (D := D) (ci := 1) (v := .ref q1) (ty := .array .char) (C := "PageScribe$Words") (T := F_Words) (N := 3) hx hb hts i_Words t_Words t_Words_ok n_Words hown hK hP hD hS 0 rfl rfl 0 (by decide) (hts _ k_1_75) (fun _ h9 => h9) rfl hin rfl (by decide +kernel) rfl rfl (Nat.le_of_ble_eq_true rfl) d_Words_init_10 (fun H locs hP hD hS => ?_)
  have hP : va_P D classes [(h0, .inr (1, [.ref q1, .null, .int 0])), (q1, .inl (T 2, 320, .inl zI))] H := hP
  have hD : va_D A [(h0, .inr (1, [.ref q1, .null, .int 0])), (q1, .inl (T 2, 320, .inl zI))] := hD
  refine lv_aload_n hx hb d_Words_init_13 rfl (lv_at hl 0 rfl) ?_
  refine lv_bipush (v := 40) hx hb d_Words_init_14 (by decide) ?_
  refine j_newa (atype := .int) (ty := .int) F k_1_67 rfl hK hP hD hS hA 0 (T 0) rfl (40, .inl zI) (fun _ => rfl) (by decide +kernel) (by decide +kernel) (by decide +kernel) (Nat.le_of_ble_eq_true rfl) (Nat.le_of_ble_eq_true rfl) d_Words_init_16 (fun q2 H hP hD hS => ?_)
  have hP : va_P D classes [(h0, .inr (1, [.ref q1, .null, .int 0])), (q1, .inl (T 2, 320, .inl zI)), (q2, .inl (T 0, 40, .inl zI))] H := hP
  have hD : va_D A [(h0, .inr (1, [.ref q1, .null, .int 0])), (q1, .inl (T 2, 320, .inl zI)), (q2, .inl (T 0, 40, .inl zI))] := hD
  refine va_putF (D := D) (ci := 1) (v := .ref q2) (ty := .array .int) (C := "PageScribe$Words") (T := F_Words) (N := 3) hx hb hts i_Words t_Words t_Words_ok n_Words hown hK hP hD hS 0 rfl rfl 1 (by decide) (hts _ k_1_76) (fun _ h9 => h9) rfl hin rfl (by decide +kernel) rfl rfl (Nat.le_of_ble_eq_true rfl) d_Words_init_18 (fun H locs hP hD hS => ?_)
  have hP : va_P D classes [(h0, .inr (1, [.ref q1, .ref q2, .int 0])), (q1, .inl (T 2, 320, .inl zI)), (q2, .inl (T 0, 40, .inl zI))] H := hP
  have hD : va_D A [(h0, .inr (1, [.ref q1, .ref q2, .int 0])), (q1, .inl (T 2, 320, .inl zI)), (q2, .inl (T 0, 40, .inl zI))] := hD
  refine lv_aload_n hx hb d_Words_init_21 rfl (lv_at hl 0 rfl) ?_
  refine lv_iconst (v := 0) hx hb d_Words_init_22 (by decide) ?_
  refine va_put (D := D) (ci := 1) (v := .int 0) (ty := .int) (C := "PageScribe$Words") (T := F_Words) (N := 3) hx hb hts i_Words t_Words t_Words_ok n_Words hown hK hP hD hS 0 rfl rfl 2 (by decide) (hts _ k_1_77) (fun _ h9 => h9) rfl (by decide +kernel) rfl rfl (Nat.le_of_ble_eq_true rfl) d_Words_init_23 (fun H locs hP hD hS => ?_)
  have hP : va_P D classes [(h0, .inr (1, [.ref q1, .ref q2, .int 0])), (q1, .inl (T 2, 320, .inl zI)), (q2, .inl (T 0, 40, .inl zI))] H := hP
  have hD : va_D A [(h0, .inr (1, [.ref q1, .ref q2, .int 0])), (q1, .inl (T 2, 320, .inl zI)), (q2, .inl (T 0, 40, .inl zI))] := hD
  have hP9 := hP.sub (ws' := [(h0, .inr (1, [.ref q1, .ref q2, .int 0]))]) [0] rfl
  have hD9 := hD.sub (ws' := [(h0, .inr (1, [.ref q1, .ref q2, .int 0]))]) [0] (by decide) rfl
  refine W.widen (k := 2) (n := 360) (Nat.le_of_ble_eq_true rfl) (Nat.le_of_ble_eq_true rfl) ?_
  exact j_vret F hr hlocks hK hS (q1, q2) trivial hP9 hD9 d_Words_init_26
theorem d_Store_init_0 : decode prog_10_method_1_code 0 = .ok (.aload_n 0, 1) := by decide +kernel
theorem d_Store_init_1 : decode prog_10_method_1_code 1 = .ok (.invokespecial 3, 3) := by decide +kernel
theorem k_1_98 : Cond.methodLink "PageScribe$Store" 3 ⟨"java/lang/Object", "<init>", "()V"⟩ ∈ gw := gw_of (tb_1 (List.mem_of_getElem? (i := 98) (by decide +kernel))) (by decide +kernel)
theorem d_Store_init_4 : decode prog_10_method_1_code 4 = .ok (.aload_n 0, 1) := by decide +kernel
theorem d_Store_init_5 : decode prog_10_method_1_code 5 = .ok (.new 9, 3) := by decide +kernel
theorem k_1_99 : Cond.classLink "PageScribe$Store" 9 "PageScribe$Row" ∈ gw := gw_of (tb_1 (List.mem_of_getElem? (i := 99) (by decide +kernel))) (by decide +kernel)
theorem k_1_100 : Cond.instantiable "PageScribe$Row" 4 ∈ gw := gw_of (tb_1 (List.mem_of_getElem? (i := 100) (by decide +kernel))) (by decide +kernel)
theorem d_Store_init_8 : decode prog_10_method_1_code 8 = .ok (.dup, 1) := by decide +kernel
theorem d_Store_init_9 : decode prog_10_method_1_code 9 = .ok (.sipush 160, 3) := by decide +kernel
theorem d_Store_init_12 : decode prog_10_method_1_code 12 = .ok (.invokespecial 11, 3) := by decide +kernel
theorem k_1_101 : Cond.methodLink "PageScribe$Store" 11 ⟨"PageScribe$Row", "<init>", "(I)V"⟩ ∈ gw := gw_of (tb_1 (List.mem_of_getElem? (i := 101) (by decide +kernel))) (by decide +kernel)
theorem d_Store_init_15 : decode prog_10_method_1_code 15 = .ok (.putfield 14, 3) := by decide +kernel
theorem k_1_107 : Cond.fieldLink "PageScribe$Store" 14 "PageScribe$Store" "cells" "LPageScribe$Row;" ∈ gw := gw_of (tb_1 (List.mem_of_getElem? (i := 107) (by decide +kernel))) (by decide +kernel)
theorem d_Store_init_18 : decode prog_10_method_1_code 18 = .ok (.aload_n 0, 1) := by decide +kernel
theorem d_Store_init_19 : decode prog_10_method_1_code 19 = .ok (.bipush 7, 2) := by decide +kernel
theorem d_Store_init_21 : decode prog_10_method_1_code 21 = .ok (.newarray .int, 2) := by decide +kernel
theorem d_Store_init_23 : decode prog_10_method_1_code 23 = .ok (.putfield 20, 3) := by decide +kernel
theorem k_1_111 : Cond.fieldLink "PageScribe$Store" 20 "PageScribe$Store" "rooms" "[I" ∈ gw := gw_of (tb_1 (List.mem_of_getElem? (i := 111) (by decide +kernel))) (by decide +kernel)
theorem d_Store_init_26 : decode prog_10_method_1_code 26 = .ok (.aload_n 0, 1) := by decide +kernel
theorem d_Store_init_27 : decode prog_10_method_1_code 27 = .ok (.bipush 7, 2) := by decide +kernel
theorem d_Store_init_29 : decode prog_10_method_1_code 29 = .ok (.newarray .int, 2) := by decide +kernel
theorem d_Store_init_31 : decode prog_10_method_1_code 31 = .ok (.putfield 24, 3) := by decide +kernel
theorem k_1_112 : Cond.fieldLink "PageScribe$Store" 24 "PageScribe$Store" "counts" "[I" ∈ gw := gw_of (tb_1 (List.mem_of_getElem? (i := 112) (by decide +kernel))) (by decide +kernel)
theorem d_Store_init_34 : decode prog_10_method_1_code 34 = .ok (.aload_n 0, 1) := by decide +kernel
theorem d_Store_init_35 : decode prog_10_method_1_code 35 = .ok (.bipush 80, 2) := by decide +kernel
theorem d_Store_init_37 : decode prog_10_method_1_code 37 = .ok (.newarray .int, 2) := by decide +kernel
theorem d_Store_init_39 : decode prog_10_method_1_code 39 = .ok (.putfield 27, 3) := by decide +kernel
theorem k_1_113 : Cond.fieldLink "PageScribe$Store" 27 "PageScribe$Store" "names" "[I" ∈ gw := gw_of (tb_1 (List.mem_of_getElem? (i := 113) (by decide +kernel))) (by decide +kernel)
theorem d_Store_init_42 : decode prog_10_method_1_code 42 = .ok (.aload_n 0, 1) := by decide +kernel
theorem d_Store_init_43 : decode prog_10_method_1_code 43 = .ok (.new 9, 3) := by decide +kernel
theorem d_Store_init_46 : decode prog_10_method_1_code 46 = .ok (.dup, 1) := by decide +kernel
theorem d_Store_init_47 : decode prog_10_method_1_code 47 = .ok (.bipush 80, 2) := by decide +kernel
theorem d_Store_init_49 : decode prog_10_method_1_code 49 = .ok (.invokespecial 11, 3) := by decide +kernel
theorem d_Store_init_52 : decode prog_10_method_1_code 52 = .ok (.putfield 30, 3) := by decide +kernel
theorem k_1_114 : Cond.fieldLink "PageScribe$Store" 30 "PageScribe$Store" "values" "LPageScribe$Row;" ∈ gw := gw_of (tb_1 (List.mem_of_getElem? (i := 114) (by decide +kernel))) (by decide +kernel)
theorem d_Store_init_55 : decode prog_10_method_1_code 55 = .ok (.aload_n 0, 1) := by decide +kernel
theorem d_Store_init_56 : decode prog_10_method_1_code 56 = .ok (.getfield 20, 3) := by decide +kernel
theorem d_Store_init_59 : decode prog_10_method_1_code 59 = .ok (.iconst 0, 1) := by decide +kernel
theorem d_Store_init_60 : decode prog_10_method_1_code 60 = .ok (.bipush 20, 2) := by decide +kernel
theorem d_Store_init_62 : decode prog_10_method_1_code 62 = .ok (.iastore, 1) := by decide +kernel
theorem d_Store_init_63 : decode prog_10_method_1_code 63 = .ok (.return_, 1) := by decide +kernel
set_option maxHeartbeats 4000000 in
set_option maxRecDepth 100000 in
theorem c_Store_init (l : Launch) (D : va_G) (T : Nat → ClassId) (h0 : Nat) (sz : Nat) : Met l ⟨"PageScribe$Store", "<init>", "()V"⟩ (wy ⟨"PageScribe$Store", "<init>", "()V"⟩ prog_10_method_1_code 1 none) ({ frames := 3, cells := 11, slots := 822, locals := 210 }) (va_Pc [.ref h0] (Pw D T [(h0, .inr (3, [.null, .null, .null, .null, .null]))] sz E0)) (va_Qv (fun (u : Nat × Nat × Nat × Nat × Nat × Nat × Nat × Nat) => True) (fun u t => Bw D T (va_A [(h0, .inr (3, [.null, .null, .null, .null, .null]))] sz) [(h0, .inr (3, [.ref u.1, .ref u.2.1, .ref u.2.2.1, .ref u.2.2.2.1, .ref u.2.2.2.2.1])), (u.1, .inr (4, [.ref u.2.2.2.2.2.1, .ref u.2.2.2.2.2.2.1, .ref u.2.2.2.2.2.2.2, .int 0])), (u.2.1, .inl (T 0, 7, .inl roomF))] t) (va_A [(h0, .inr (3, [.null, .null, .null, .null, .null]))] sz)) 11 822 (va_A [(h0, .inr (3, [.null, .null, .null, .null, .null]))] sz) := by
  refine j_met (y := ⟨"PageScribe$Store", "<init>", "()V"⟩) (b := prog_10_method_1_code) (n := 1) (ret := none) (av := [.ref h0]) (Qc := fun A => va_Qv (fun (u : Nat × Nat × Nat × Nat × Nat × Nat × Nat × Nat) => True) (fun u t => Bw D T A [(h0, .inr (3, [.ref u.1, .ref u.2.1, .ref u.2.2.1, .ref u.2.2.2.1, .ref u.2.2.2.2.1])), (u.1, .inr (4, [.ref u.2.2.2.2.2.1, .ref u.2.2.2.2.2.2.1, .ref u.2.2.2.2.2.2.2, .int 0])), (u.2.1, .inl (T 0, 7, .inl roomF))] t) A) (by decide +kernel) (Nat.le_of_ble_eq_true rfl) (fun p e s m args below meth c A ls F hr hlocks hnm hK hP hD hS hA hN hE hl => ?_)
  obtain ⟨hx, hb, hml, hown, hts⟩ := id F
  have hin := hnm
  have hl : lv_has ls 1 [(0, .ref h0)] := hl
  refine lv_aload_n hx hb d_Store_init_0 rfl (lv_at hl 0 rfl) ?_
  refine j_obj F hl.1 k_1_98 k_1_35 k_1_36 d_Store_init_1 (Nat.le_of_ble_eq_true rfl) (Nat.le_of_ble_eq_true rfl) ?_
  refine lv_aload_n hx hb d_Store_init_4 rfl (lv_at hl 0 rfl) ?_
  refine va_new (ci := 4) (fs := [.null, .null, .null, .int 0]) (C := "PageScribe$Row") (T := F_Row) (N := 4) hx hb hts i_Row t_Row t_Row_ok hown (hts _ k_1_99) (hts _ k_1_100) (hts _ k_1_2) hK hP hD hS hA rfl z_Row (Nat.le_of_ble_eq_true rfl) (Nat.le_of_ble_eq_true rfl) d_Store_init_5 (fun q1 H hP hD hS => ?_)
  have hP : va_P D classes [(h0, .inr (3, [.null, .null, .null, .null, .null])), (q1, .inr (4, [.null, .null, .null, .int 0]))] H := hP
  have hD : va_D A [(h0, .inr (3, [.null, .null, .null, .null, .null])), (q1, .inr (4, [.null, .null, .null, .int 0]))] := hD
  refine lv_dup hx hb d_Store_init_8 rfl ?_
  refine lv_sipush (v := 160) hx hb d_Store_init_9 (by decide) ?_
  refine j_cv (wc := [(q1, .inr (4, [.null, .null, .null, .int 0]))]) (wr := [(h0, .inr (3, [.null, .null, .null, .null, .null]))]) hK hP hD hS hA [1] [0] rfl rfl (by decide) (by decide) (va_runI (As := [.int 160]) (rest := [.ref q1, .ref h0]) F (c_Row_init_Row160 l D T q1 H.size) (j_cI (k := 1) hts k_1_44 k_1_2 k_1_101 k_1_43 rfl (by decide +kernel) ⟨Nat.le_of_ble_eq_true rfl, Nat.le_of_ble_eq_true rfl⟩) (j_preS hK hP hD [1] rfl (by decide) (fun _ _ _ _ h => h) (fun _ _ _ => trivial)) rfl rfl hl.1 rfl (lv_room (Nat.le_of_ble_eq_true rfl)) d_Store_init_12 ⟨Nat.le_of_ble_eq_true rfl, Nat.le_of_ble_eq_true rfl⟩) (fun u1 H locs hw hP hD hS => ?_)
  obtain ⟨a1_1, a2_1, a3_1⟩ := u1
  have hP : va_P D classes [(h0, .inr (3, [.null, .null, .null, .null, .null])), (q1, .inr (4, [.ref a1_1, .ref a2_1, .ref a3_1, .int 0]))] H := hP
  have hD : va_D A [(h0, .inr (3, [.null, .null, .null, .null, .null])), (q1, .inr (4, [.ref a1_1, .ref a2_1, .ref a3_1, .int 0]))] := hD
  refine va_putF (D := D) (ci := 3) (v := .ref q1) (ty := .object "PageScribe$Row") (C := "PageScribe$Store") (T := F_Store) (N := 5) hx hb hts i_Store t_Store t_Store_ok n_Store hown hK hP hD hS 0 rfl rfl 0 (by decide) (hts _ k_1_107) (fun _ h9 => h9) rfl hin rfl (by decide +kernel) rfl rfl (Nat.le_of_ble_eq_true rfl) d_Store_init_15 (fun H locs hP hD hS => ?_)
  have hP : va_P D classes [(h0, .inr (3, [.ref q1, .null, .null, .null, .null])), (q1, .inr (4, [.ref a1_1, .ref a2_1, .ref a3_1, .int 0]))] H := hP
  have hD : va_D A [(h0, .inr (3, [.ref q1, .null, .null, .null, .null])), (q1, .inr (4, [.ref a1_1, .ref a2_1, .ref a3_1, .int 0]))] := hD
  refine lv_aload_n hx hb d_Store_init_18 rfl (lv_at hl 0 rfl) ?_
  refine lv_bipush (v := 7) hx hb d_Store_init_19 (by decide) ?_
  refine j_newa (atype := .int) (ty := .int) F k_1_67 rfl hK hP hD hS hA 0 (T 0) rfl (7, .inl zI) (fun _ => rfl) (by decide +kernel) (by decide +kernel) (by decide +kernel) (Nat.le_of_ble_eq_true rfl) (Nat.le_of_ble_eq_true rfl) d_Store_init_21 (fun q2 H hP hD hS => ?_)
  have hP : va_P D classes [(h0, .inr (3, [.ref q1, .null, .null, .null, .null])), (q1, .inr (4, [.ref a1_1, .ref a2_1, .ref a3_1, .int 0])), (q2, .inl (T 0, 7, .inl zI))] H := hP
  have hD : va_D A [(h0, .inr (3, [.ref q1, .null, .null, .null, .null])), (q1, .inr (4, [.ref a1_1, .ref a2_1, .ref a3_1, .int 0])), (q2, .inl (T 0, 7, .inl zI))] := hD
  refine va_putF (D := D) (ci := 3) (v := .ref q2) (ty := .array .int) (C := "PageScribe$Store") (T := F_Store) (N := 5) hx hb hts i_Store t_Store t_Store_ok n_Store hown hK hP hD hS 0 rfl rfl 1 (by decide) (hts _ k_1_111) (fun _ h9 => h9) rfl hin rfl (by decide +kernel) rfl rfl (Nat.le_of_ble_eq_true rfl) d_Store_init_23 (fun H locs hP hD hS => ?_)
  have hP : va_P D classes [(h0, .inr (3, [.ref q1, .ref q2, .null, .null, .null])), (q1, .inr (4, [.ref a1_1, .ref a2_1, .ref a3_1, .int 0])), (q2, .inl (T 0, 7, .inl zI))] H := hP
  have hD : va_D A [(h0, .inr (3, [.ref q1, .ref q2, .null, .null, .null])), (q1, .inr (4, [.ref a1_1, .ref a2_1, .ref a3_1, .int 0])), (q2, .inl (T 0, 7, .inl zI))] := hD
  refine lv_aload_n hx hb d_Store_init_26 rfl (lv_at hl 0 rfl) ?_
  refine lv_bipush (v := 7) hx hb d_Store_init_27 (by decide) ?_
  refine j_newa (atype := .int) (ty := .int) F k_1_67 rfl hK hP hD hS hA 0 (T 0) rfl (7, .inl zI) (fun _ => rfl) (by decide +kernel) (by decide +kernel) (by decide +kernel) (Nat.le_of_ble_eq_true rfl) (Nat.le_of_ble_eq_true rfl) d_Store_init_29 (fun q3 H hP hD hS => ?_)
  have hP : va_P D classes [(h0, .inr (3, [.ref q1, .ref q2, .null, .null, .null])), (q1, .inr (4, [.ref a1_1, .ref a2_1, .ref a3_1, .int 0])), (q2, .inl (T 0, 7, .inl zI)), (q3, .inl (T 0, 7, .inl zI))] H := hP
  have hD : va_D A [(h0, .inr (3, [.ref q1, .ref q2, .null, .null, .null])), (q1, .inr (4, [.ref a1_1, .ref a2_1, .ref a3_1, .int 0])), (q2, .inl (T 0, 7, .inl zI)), (q3, .inl (T 0, 7, .inl zI))] := hD
  refine va_putF (D := D) (ci := 3) (v := .ref q3) (ty := .array .int) (C := "PageScribe$Store") (T := F_Store) (N := 5) hx hb hts i_Store t_Store t_Store_ok n_Store hown hK hP hD hS 0 rfl rfl 2 (by decide) (hts _ k_1_112) (fun _ h9 => h9) rfl hin rfl (by decide +kernel) rfl rfl (Nat.le_of_ble_eq_true rfl) d_Store_init_31 (fun H locs hP hD hS => ?_)
  have hP : va_P D classes [(h0, .inr (3, [.ref q1, .ref q2, .ref q3, .null, .null])), (q1, .inr (4, [.ref a1_1, .ref a2_1, .ref a3_1, .int 0])), (q2, .inl (T 0, 7, .inl zI)), (q3, .inl (T 0, 7, .inl zI))] H := hP
  have hD : va_D A [(h0, .inr (3, [.ref q1, .ref q2, .ref q3, .null, .null])), (q1, .inr (4, [.ref a1_1, .ref a2_1, .ref a3_1, .int 0])), (q2, .inl (T 0, 7, .inl zI)), (q3, .inl (T 0, 7, .inl zI))] := hD
  refine lv_aload_n hx hb d_Store_init_34 rfl (lv_at hl 0 rfl) ?_
  refine lv_bipush (v := 80) hx hb d_Store_init_35 (by decide) ?_
  refine j_newa (atype := .int) (ty := .int) F k_1_67 rfl hK hP hD hS hA 0 (T 0) rfl (80, .inl zI) (fun _ => rfl) (by decide +kernel) (by decide +kernel) (by decide +kernel) (Nat.le_of_ble_eq_true rfl) (Nat.le_of_ble_eq_true rfl) d_Store_init_37 (fun q4 H hP hD hS => ?_)
  have hP : va_P D classes [(h0, .inr (3, [.ref q1, .ref q2, .ref q3, .null, .null])), (q1, .inr (4, [.ref a1_1, .ref a2_1, .ref a3_1, .int 0])), (q2, .inl (T 0, 7, .inl zI)), (q3, .inl (T 0, 7, .inl zI)), (q4, .inl (T 0, 80, .inl zI))] H := hP
  have hD : va_D A [(h0, .inr (3, [.ref q1, .ref q2, .ref q3, .null, .null])), (q1, .inr (4, [.ref a1_1, .ref a2_1, .ref a3_1, .int 0])), (q2, .inl (T 0, 7, .inl zI)), (q3, .inl (T 0, 7, .inl zI)), (q4, .inl (T 0, 80, .inl zI))] := hD
  refine va_putF (D := D) (ci := 3) (v := .ref q4) (ty := .array .int) (C := "PageScribe$Store") (T := F_Store) (N := 5) hx hb hts i_Store t_Store t_Store_ok n_Store hown hK hP hD hS 0 rfl rfl 3 (by decide) (hts _ k_1_113) (fun _ h9 => h9) rfl hin rfl (by decide +kernel) rfl rfl (Nat.le_of_ble_eq_true rfl) d_Store_init_39 (fun H locs hP hD hS => ?_)
  have hP : va_P D classes [(h0, .inr (3, [.ref q1, .ref q2, .ref q3, .ref q4, .null])), (q1, .inr (4, [.ref a1_1, .ref a2_1, .ref a3_1, .int 0])), (q2, .inl (T 0, 7, .inl zI)), (q3, .inl (T 0, 7, .inl zI)), (q4, .inl (T 0, 80, .inl zI))] H := hP
  have hD : va_D A [(h0, .inr (3, [.ref q1, .ref q2, .ref q3, .ref q4, .null])), (q1, .inr (4, [.ref a1_1, .ref a2_1, .ref a3_1, .int 0])), (q2, .inl (T 0, 7, .inl zI)), (q3, .inl (T 0, 7, .inl zI)), (q4, .inl (T 0, 80, .inl zI))] := hD
  refine lv_aload_n hx hb d_Store_init_42 rfl (lv_at hl 0 rfl) ?_
  refine va_new (ci := 4) (fs := [.null, .null, .null, .int 0]) (C := "PageScribe$Row") (T := F_Row) (N := 4) hx hb hts i_Row t_Row t_Row_ok hown (hts _ k_1_99) (hts _ k_1_100) (hts _ k_1_2) hK hP hD hS hA rfl z_Row (Nat.le_of_ble_eq_true rfl) (Nat.le_of_ble_eq_true rfl) d_Store_init_43 (fun q5 H hP hD hS => ?_)
  have hP : va_P D classes [(h0, .inr (3, [.ref q1, .ref q2, .ref q3, .ref q4, .null])), (q1, .inr (4, [.ref a1_1, .ref a2_1, .ref a3_1, .int 0])), (q2, .inl (T 0, 7, .inl zI)), (q3, .inl (T 0, 7, .inl zI)), (q4, .inl (T 0, 80, .inl zI)), (q5, .inr (4, [.null, .null, .null, .int 0]))] H := hP
  have hD : va_D A [(h0, .inr (3, [.ref q1, .ref q2, .ref q3, .ref q4, .null])), (q1, .inr (4, [.ref a1_1, .ref a2_1, .ref a3_1, .int 0])), (q2, .inl (T 0, 7, .inl zI)), (q3, .inl (T 0, 7, .inl zI)), (q4, .inl (T 0, 80, .inl zI)), (q5, .inr (4, [.null, .null, .null, .int 0]))] := hD
  refine lv_dup hx hb d_Store_init_46 rfl ?_
  refine lv_bipush (v := 80) hx hb d_Store_init_47 (by decide) ?_
  refine j_cv (wc := [(q5, .inr (4, [.null, .null, .null, .int 0]))]) (wr := [(h0, .inr (3, [.ref q1, .ref q2, .ref q3, .ref q4, .null])), (q1, .inr (4, [.ref a1_1, .ref a2_1, .ref a3_1, .int 0])), (q2, .inl (T 0, 7, .inl zI)), (q3, .inl (T 0, 7, .inl zI)), (q4, .inl (T 0, 80, .inl zI))]) hK hP hD hS hA [5] [0, 1, 2, 3, 4] rfl rfl (by decide) (by decide) (va_runI (As := [.int 80]) (rest := [.ref q5, .ref h0]) F (c_Row_init_Row80 l D T q5 H.size) (j_cI (k := 1) hts k_1_44 k_1_2 k_1_101 k_1_43 rfl (by decide +kernel) ⟨Nat.le_of_ble_eq_true rfl, Nat.le_of_ble_eq_true rfl⟩) (j_preS hK hP hD [5] rfl (by decide) (fun _ _ _ _ h => h) (fun _ _ _ => trivial)) rfl rfl hl.1 rfl (lv_room (Nat.le_of_ble_eq_true rfl)) d_Store_init_49 ⟨Nat.le_of_ble_eq_true rfl, Nat.le_of_ble_eq_true rfl⟩) (fun u2 H locs hw hP hD hS => ?_)
  obtain ⟨a1_2, a2_2, a3_2⟩ := u2
  have hP : va_P D classes [(h0, .inr (3, [.ref q1, .ref q2, .ref q3, .ref q4, .null])), (q1, .inr (4, [.ref a1_1, .ref a2_1, .ref a3_1, .int 0])), (q2, .inl (T 0, 7, .inl zI)), (q3, .inl (T 0, 7, .inl zI)), (q4, .inl (T 0, 80, .inl zI)), (q5, .inr (4, [.ref a1_2, .ref a2_2, .ref a3_2, .int 0]))] H := hP
  have hD : va_D A [(h0, .inr (3, [.ref q1, .ref q2, .ref q3, .ref q4, .null])), (q1, .inr (4, [.ref a1_1, .ref a2_1, .ref a3_1, .int 0])), (q2, .inl (T 0, 7, .inl zI)), (q3, .inl (T 0, 7, .inl zI)), (q4, .inl (T 0, 80, .inl zI)), (q5, .inr (4, [.ref a1_2, .ref a2_2, .ref a3_2, .int 0]))] := hD
  refine va_putF (D := D) (ci := 3) (v := .ref q5) (ty := .object "PageScribe$Row") (C := "PageScribe$Store") (T := F_Store) (N := 5) hx hb hts i_Store t_Store t_Store_ok n_Store hown hK hP hD hS 0 rfl rfl 4 (by decide) (hts _ k_1_114) (fun _ h9 => h9) rfl hin rfl (by decide +kernel) rfl rfl (Nat.le_of_ble_eq_true rfl) d_Store_init_52 (fun H locs hP hD hS => ?_)
  have hP : va_P D classes [(h0, .inr (3, [.ref q1, .ref q2, .ref q3, .ref q4, .ref q5])), (q1, .inr (4, [.ref a1_1, .ref a2_1, .ref a3_1, .int 0])), (q2, .inl (T 0, 7, .inl zI)), (q3, .inl (T 0, 7, .inl zI)), (q4, .inl (T 0, 80, .inl zI)), (q5, .inr (4, [.ref a1_2, .ref a2_2, .ref a3_2, .int 0]))] H := hP
  have hD : va_D A [(h0, .inr (3, [.ref q1, .ref q2, .ref q3, .ref q4, .ref q5])), (q1, .inr (4, [.ref a1_1, .ref a2_1, .ref a3_1, .int 0])), (q2, .inl (T 0, 7, .inl zI)), (q3, .inl (T 0, 7, .inl zI)), (q4, .inl (T 0, 80, .inl zI)), (q5, .inr (4, [.ref a1_2, .ref a2_2, .ref a3_2, .int 0]))] := hD
  refine lv_aload_n hx hb d_Store_init_55 rfl (lv_at hl 0 rfl) ?_
  refine va_get (D := D) (ci := 3) (v := .ref q2) (C := "PageScribe$Store") (T := F_Store) (N := 5) hx hb hts i_Store hown hK hP 0 rfl rfl 1 (by decide) (hts _ k_1_111) (fun _ h9 => h9) rfl d_Store_init_56 ?_
  refine lv_iconst (v := 0) hx hb d_Store_init_59 (by decide) ?_
  refine lv_bipush (v := 20) hx hb d_Store_init_60 (by decide) ?_
  refine va_iast hx hb hK hP hD hS 2 0 rfl rfl (by unfold vp_in; decide +kernel) d_Store_init_62 (fun H locs hP hD hS => ?_)
  have hP : va_P D classes [(h0, .inr (3, [.ref q1, .ref q2, .ref q3, .ref q4, .ref q5])), (q1, .inr (4, [.ref a1_1, .ref a2_1, .ref a3_1, .int 0])), (q2, .inl (T 0, 7, .inl (upd zI (0 : Int32).toNatClampNeg 20))), (q3, .inl (T 0, 7, .inl zI)), (q4, .inl (T 0, 80, .inl zI)), (q5, .inr (4, [.ref a1_2, .ref a2_2, .ref a3_2, .int 0]))] H := hP
  have hD : va_D A [(h0, .inr (3, [.ref q1, .ref q2, .ref q3, .ref q4, .ref q5])), (q1, .inr (4, [.ref a1_1, .ref a2_1, .ref a3_1, .int 0])), (q2, .inl (T 0, 7, .inl (upd zI (0 : Int32).toNatClampNeg 20))), (q3, .inl (T 0, 7, .inl zI)), (q4, .inl (T 0, 80, .inl zI)), (q5, .inr (4, [.ref a1_2, .ref a2_2, .ref a3_2, .int 0]))] := hD
  rw [roomF_up] at hP hD
  have hP : va_P D classes [(h0, .inr (3, [.ref q1, .ref q2, .ref q3, .ref q4, .ref q5])), (q1, .inr (4, [.ref a1_1, .ref a2_1, .ref a3_1, .int 0])), (q2, .inl (T 0, 7, .inl roomF)), (q3, .inl (T 0, 7, .inl zI)), (q4, .inl (T 0, 80, .inl zI)), (q5, .inr (4, [.ref a1_2, .ref a2_2, .ref a3_2, .int 0]))] H := hP
  have hD : va_D A [(h0, .inr (3, [.ref q1, .ref q2, .ref q3, .ref q4, .ref q5])), (q1, .inr (4, [.ref a1_1, .ref a2_1, .ref a3_1, .int 0])), (q2, .inl (T 0, 7, .inl roomF)), (q3, .inl (T 0, 7, .inl zI)), (q4, .inl (T 0, 80, .inl zI)), (q5, .inr (4, [.ref a1_2, .ref a2_2, .ref a3_2, .int 0]))] := hD
  have hP9 := hP.sub (ws' := [(h0, .inr (3, [.ref q1, .ref q2, .ref q3, .ref q4, .ref q5])), (q1, .inr (4, [.ref a1_1, .ref a2_1, .ref a3_1, .int 0])), (q2, .inl (T 0, 7, .inl roomF))]) [0, 1, 2] rfl
  have hD9 := hD.sub (ws' := [(h0, .inr (3, [.ref q1, .ref q2, .ref q3, .ref q4, .ref q5])), (q1, .inr (4, [.ref a1_1, .ref a2_1, .ref a3_1, .int 0])), (q2, .inl (T 0, 7, .inl roomF))]) [0, 1, 2] (by decide) rfl
  refine W.widen (k := 11) (n := 822) (Nat.le_of_ble_eq_true rfl) (Nat.le_of_ble_eq_true rfl) ?_
  exact j_vret F hr hlocks hK hS (q1, q2, q3, q4, q5, a1_1, a2_1, a3_1) trivial hP9 hD9 d_Store_init_63
theorem d_Memory_init_0 : decode prog_5_method_1_code 0 = .ok (.aload_n 0, 1) := by decide +kernel
theorem d_Memory_init_1 : decode prog_5_method_1_code 1 = .ok (.invokespecial 3, 3) := by decide +kernel
theorem k_1_92 : Cond.methodLink "PageScribe$Memory" 3 ⟨"java/lang/Object", "<init>", "()V"⟩ ∈ gw := gw_of (tb_1 (List.mem_of_getElem? (i := 92) (by decide +kernel))) (by decide +kernel)
theorem d_Memory_init_4 : decode prog_5_method_1_code 4 = .ok (.aload_n 0, 1) := by decide +kernel
theorem d_Memory_init_5 : decode prog_5_method_1_code 5 = .ok (.new 9, 3) := by decide +kernel
theorem k_1_93 : Cond.classLink "PageScribe$Memory" 9 "PageScribe$Store" ∈ gw := gw_of (tb_1 (List.mem_of_getElem? (i := 93) (by decide +kernel))) (by decide +kernel)
theorem k_1_94 : Cond.instantiable "PageScribe$Store" 5 ∈ gw := gw_of (tb_1 (List.mem_of_getElem? (i := 94) (by decide +kernel))) (by decide +kernel)
theorem k_1_6 : Cond.initialized "PageScribe$Store" ∈ gw := gw_of (tb_1 (List.mem_of_getElem? (i := 6) (by decide +kernel))) (by decide +kernel)
theorem d_Memory_init_8 : decode prog_5_method_1_code 8 = .ok (.dup, 1) := by decide +kernel
theorem d_Memory_init_9 : decode prog_5_method_1_code 9 = .ok (.invokespecial 11, 3) := by decide +kernel
theorem k_1_97 : Cond.code ⟨"PageScribe$Store", "<init>", "()V"⟩ prog_10_method_1_code 1 none ∈ gw := gw_of (tb_1 (List.mem_of_getElem? (i := 97) (by decide +kernel))) (by decide +kernel)
theorem k_1_95 : Cond.methodLink "PageScribe$Memory" 11 ⟨"PageScribe$Store", "<init>", "()V"⟩ ∈ gw := gw_of (tb_1 (List.mem_of_getElem? (i := 95) (by decide +kernel))) (by decide +kernel)
theorem k_1_96 : Cond.instanceMethod ⟨"PageScribe$Store", "<init>", "()V"⟩ ∈ gw := gw_of (tb_1 (List.mem_of_getElem? (i := 96) (by decide +kernel))) (by decide +kernel)
theorem d_Memory_init_12 : decode prog_5_method_1_code 12 = .ok (.putfield 12, 3) := by decide +kernel
theorem k_1_130 : Cond.fieldLink "PageScribe$Memory" 12 "PageScribe$Memory" "store" "LPageScribe$Store;" ∈ gw := gw_of (tb_1 (List.mem_of_getElem? (i := 130) (by decide +kernel))) (by decide +kernel)
theorem d_Memory_init_15 : decode prog_5_method_1_code 15 = .ok (.aload_n 0, 1) := by decide +kernel
theorem d_Memory_init_16 : decode prog_5_method_1_code 16 = .ok (.bipush 6, 2) := by decide +kernel
theorem d_Memory_init_18 : decode prog_5_method_1_code 18 = .ok (.newarray .int, 2) := by decide +kernel
theorem d_Memory_init_20 : decode prog_5_method_1_code 20 = .ok (.putfield 18, 3) := by decide +kernel
theorem k_1_133 : Cond.fieldLink "PageScribe$Memory" 18 "PageScribe$Memory" "scopes" "[I" ∈ gw := gw_of (tb_1 (List.mem_of_getElem? (i := 133) (by decide +kernel))) (by decide +kernel)
theorem d_Memory_init_23 : decode prog_5_method_1_code 23 = .ok (.aload_n 0, 1) := by decide +kernel
theorem d_Memory_init_24 : decode prog_5_method_1_code 24 = .ok (.iconst 1, 1) := by decide +kernel
theorem d_Memory_init_25 : decode prog_5_method_1_code 25 = .ok (.putfield 22, 3) := by decide +kernel
theorem k_1_134 : Cond.fieldLink "PageScribe$Memory" 22 "PageScribe$Memory" "scopeCount" "I" ∈ gw := gw_of (tb_1 (List.mem_of_getElem? (i := 134) (by decide +kernel))) (by decide +kernel)
theorem d_Memory_init_28 : decode prog_5_method_1_code 28 = .ok (.aload_n 0, 1) := by decide +kernel
theorem d_Memory_init_29 : decode prog_5_method_1_code 29 = .ok (.iconst 3, 1) := by decide +kernel
theorem d_Memory_init_30 : decode prog_5_method_1_code 30 = .ok (.anewarray 9, 3) := by decide +kernel
theorem d_Memory_init_33 : decode prog_5_method_1_code 33 = .ok (.putfield 26, 3) := by decide +kernel
theorem k_1_136 : Cond.fieldLink "PageScribe$Memory" 26 "PageScribe$Memory" "kept" "[LPageScribe$Store;" ∈ gw := gw_of (tb_1 (List.mem_of_getElem? (i := 136) (by decide +kernel))) (by decide +kernel)
theorem d_Memory_init_36 : decode prog_5_method_1_code 36 = .ok (.aload_n 0, 1) := by decide +kernel
theorem d_Memory_init_37 : decode prog_5_method_1_code 37 = .ok (.iconst 3, 1) := by decide +kernel
theorem d_Memory_init_38 : decode prog_5_method_1_code 38 = .ok (.newarray .int, 2) := by decide +kernel
theorem d_Memory_init_40 : decode prog_5_method_1_code 40 = .ok (.putfield 30, 3) := by decide +kernel
theorem k_1_137 : Cond.fieldLink "PageScribe$Memory" 30 "PageScribe$Memory" "keptNumbers" "[I" ∈ gw := gw_of (tb_1 (List.mem_of_getElem? (i := 137) (by decide +kernel))) (by decide +kernel)
theorem d_Memory_init_43 : decode prog_5_method_1_code 43 = .ok (.aload_n 0, 1) := by decide +kernel
theorem d_Memory_init_44 : decode prog_5_method_1_code 44 = .ok (.iconst 0, 1) := by decide +kernel
theorem d_Memory_init_45 : decode prog_5_method_1_code 45 = .ok (.putfield 33, 3) := by decide +kernel
theorem k_1_138 : Cond.fieldLink "PageScribe$Memory" 33 "PageScribe$Memory" "openSaves" "I" ∈ gw := gw_of (tb_1 (List.mem_of_getElem? (i := 138) (by decide +kernel))) (by decide +kernel)
theorem d_Memory_init_48 : decode prog_5_method_1_code 48 = .ok (.aload_n 0, 1) := by decide +kernel
theorem d_Memory_init_49 : decode prog_5_method_1_code 49 = .ok (.iconst 0, 1) := by decide +kernel
theorem d_Memory_init_50 : decode prog_5_method_1_code 50 = .ok (.putfield 36, 3) := by decide +kernel
theorem k_1_140 : Cond.fieldLink "PageScribe$Memory" 36 "PageScribe$Memory" "savesMade" "I" ∈ gw := gw_of (tb_1 (List.mem_of_getElem? (i := 140) (by decide +kernel))) (by decide +kernel)
theorem d_Memory_init_53 : decode prog_5_method_1_code 53 = .ok (.aload_n 0, 1) := by decide +kernel
theorem d_Memory_init_54 : decode prog_5_method_1_code 54 = .ok (.aload_n 1, 1) := by decide +kernel
theorem d_Memory_init_55 : decode prog_5_method_1_code 55 = .ok (.putfield 39, 3) := by decide +kernel
theorem k_1_129 : Cond.fieldLink "PageScribe$Memory" 39 "PageScribe$Memory" "stack" "LPageScribe$Stack;" ∈ gw := gw_of (tb_1 (List.mem_of_getElem? (i := 129) (by decide +kernel))) (by decide +kernel)
theorem d_Memory_init_58 : decode prog_5_method_1_code 58 = .ok (.iconst 0, 1) := by decide +kernel
theorem d_Memory_init_59 : decode prog_5_method_1_code 59 = .ok (.istore_n 2, 1) := by decide +kernel
theorem d_Memory_init_60 : decode prog_5_method_1_code 60 = .ok (.iload_n 2, 1) := by decide +kernel
theorem d_Memory_init_61 : decode prog_5_method_1_code 61 = .ok (.iconst 3, 1) := by decide +kernel
theorem d_Memory_init_62 : decode prog_5_method_1_code 62 = .ok (.if_icmp .ge 22, 3) := by decide +kernel
theorem d_Memory_init_65 : decode prog_5_method_1_code 65 = .ok (.aload_n 0, 1) := by decide +kernel
theorem d_Memory_init_66 : decode prog_5_method_1_code 66 = .ok (.getfield 26, 3) := by decide +kernel
theorem d_Memory_init_69 : decode prog_5_method_1_code 69 = .ok (.iload_n 2, 1) := by decide +kernel
theorem d_Memory_init_70 : decode prog_5_method_1_code 70 = .ok (.new 9, 3) := by decide +kernel
theorem d_Memory_init_73 : decode prog_5_method_1_code 73 = .ok (.dup, 1) := by decide +kernel
theorem d_Memory_init_74 : decode prog_5_method_1_code 74 = .ok (.invokespecial 11, 3) := by decide +kernel
theorem d_Memory_init_77 : decode prog_5_method_1_code 77 = .ok (.aastore, 1) := by decide +kernel
theorem d_Memory_init_78 : decode prog_5_method_1_code 78 = .ok (.iinc 2 1, 3) := by decide +kernel
theorem d_Memory_init_81 : decode prog_5_method_1_code 81 = .ok (.goto (-21), 3) := by decide +kernel
theorem d_Memory_init_84 : decode prog_5_method_1_code 84 = .ok (.return_, 1) := by decide +kernel
set_option maxHeartbeats 4000000 in
set_option maxRecDepth 100000 in
theorem c_Memory_init (l : Launch) (D : va_G) (T : Nat → ClassId) (h0 : Nat) (h1 : Nat) (sz : Nat) : Met l ⟨"PageScribe$Memory", "<init>", "(LPageScribe$Stack;)V"⟩ (wy ⟨"PageScribe$Memory", "<init>", "(LPageScribe$Stack;)V"⟩ prog_5_method_1_code 3 none) ({ frames := 4, cells := 51, slots := 3320, locals := 280 }) (va_Pc [.ref h0, .ref h1] (Pw D T [(h0, .inr (2, [.null, .null, .null, .int 0, .null, .null, .int 0, .int 0]))] sz (fun U => va_AO "PageScribe$Store" U))) (va_Qv (fun (u : Nat × Nat × Nat × Nat × Nat × Nat × Nat × Nat × Nat × Nat × Nat × Nat) => True) (fun u t => Bw D T (va_A [(h0, .inr (2, [.null, .null, .null, .int 0, .null, .null, .int 0, .int 0]))] sz) [(h0, .inr (2, [.ref h1, .ref u.1, .ref u.2.1, .int 1, .ref u.2.2.1, .ref u.2.2.2.1, .int 0, .int 0])), (u.1, .inr (3, [.ref u.2.2.2.2.1, .ref u.2.2.2.2.2.1, .ref u.2.2.2.2.2.2.1, .ref u.2.2.2.2.2.2.2.1, .ref u.2.2.2.2.2.2.2.2.1])), (u.2.2.2.2.1, .inr (4, [.ref u.2.2.2.2.2.2.2.2.2.1, .ref u.2.2.2.2.2.2.2.2.2.2.1, .ref u.2.2.2.2.2.2.2.2.2.2.2, .int 0])), (u.2.2.2.2.2.1, .inl (T 0, 7, .inl roomF))] t) (va_A [(h0, .inr (2, [.null, .null, .null, .int 0, .null, .null, .int 0, .int 0]))] sz)) 51 3320 (va_A [(h0, .inr (2, [.null, .null, .null, .int 0, .null, .null, .int 0, .int 0]))] sz) := by
  refine j_met (y := ⟨"PageScribe$Memory", "<init>", "(LPageScribe$Stack;)V"⟩) (b := prog_5_method_1_code) (n := 3) (ret := none) (av := [.ref h0, .ref h1]) (Qc := fun A => va_Qv (fun (u : Nat × Nat × Nat × Nat × Nat × Nat × Nat × Nat × Nat × Nat × Nat × Nat) => True) (fun u t => Bw D T A [(h0, .inr (2, [.ref h1, .ref u.1, .ref u.2.1, .int 1, .ref u.2.2.1, .ref u.2.2.2.1, .int 0, .int 0])), (u.1, .inr (3, [.ref u.2.2.2.2.1, .ref u.2.2.2.2.2.1, .ref u.2.2.2.2.2.2.1, .ref u.2.2.2.2.2.2.2.1, .ref u.2.2.2.2.2.2.2.2.1])), (u.2.2.2.2.1, .inr (4, [.ref u.2.2.2.2.2.2.2.2.2.1, .ref u.2.2.2.2.2.2.2.2.2.2.1, .ref u.2.2.2.2.2.2.2.2.2.2.2, .int 0])), (u.2.2.2.2.2.1, .inl (T 0, 7, .inl roomF))] t) A) (by decide +kernel) (Nat.le_of_ble_eq_true rfl) (fun p e s m args below meth c A ls F hr hlocks hnm hK hP hD hS hA hN hE hl => ?_)
  obtain ⟨hx, hb, hml, hown, hts⟩ := id F
  have hin := hnm
  have hl : lv_has ls 3 [(0, .ref h0), (1, .ref h1)] := hl
  have hAO := hE
  refine lv_aload_n hx hb d_Memory_init_0 rfl (lv_at hl 0 rfl) ?_
  refine j_obj F hl.1 k_1_92 k_1_35 k_1_36 d_Memory_init_1 (Nat.le_of_ble_eq_true rfl) (Nat.le_of_ble_eq_true rfl) ?_
  refine lv_aload_n hx hb d_Memory_init_4 rfl (lv_at hl 0 rfl) ?_
  refine va_new (ci := 3) (fs := [.null, .null, .null, .null, .null]) (C := "PageScribe$Store") (T := F_Store) (N := 5) hx hb hts i_Store t_Store t_Store_ok hown (hts _ k_1_93) (hts _ k_1_94) (hts _ k_1_6) hK hP hD hS hA rfl z_Store (Nat.le_of_ble_eq_true rfl) (Nat.le_of_ble_eq_true rfl) d_Memory_init_5 (fun q1 H hP hD hS => ?_)
  have hP : va_P D classes [(h0, .inr (2, [.null, .null, .null, .int 0, .null, .null, .int 0, .int 0])), (q1, .inr (3, [.null, .null, .null, .null, .null]))] H := hP
  have hD : va_D A [(h0, .inr (2, [.null, .null, .null, .int 0, .null, .null, .int 0, .int 0])), (q1, .inr (3, [.null, .null, .null, .null, .null]))] := hD
  refine lv_dup hx hb d_Memory_init_8 rfl ?_
  refine j_cv (wc := [(q1, .inr (3, [.null, .null, .null, .null, .null]))]) (wr := [(h0, .inr (2, [.null, .null, .null, .int 0, .null, .null, .int 0, .int 0]))]) hK hP hD hS hA [1] [0] rfl rfl (by decide) (by decide) (va_runI (As := []) (rest := [.ref q1, .ref h0]) F (c_Store_init l D T q1 H.size) (j_cI (k := 0) hts k_1_97 k_1_6 k_1_95 k_1_96 rfl (by decide +kernel) ⟨Nat.le_of_ble_eq_true rfl, Nat.le_of_ble_eq_true rfl⟩) (j_preS hK hP hD [1] rfl (by decide) (fun _ _ _ _ h => h) (fun _ _ _ => trivial)) rfl rfl hl.1 rfl (lv_room (Nat.le_of_ble_eq_true rfl)) d_Memory_init_9 ⟨Nat.le_of_ble_eq_true rfl, Nat.le_of_ble_eq_true rfl⟩) (fun u1 H locs hw hP hD hS => ?_)
  obtain ⟨b1_1, b2_1, b3_1, b4_1, b5_1, r1_1, r2_1, r3_1⟩ := u1
  have hP : va_P D classes [(h0, .inr (2, [.null, .null, .null, .int 0, .null, .null, .int 0, .int 0])), (q1, .inr (3, [.ref b1_1, .ref b2_1, .ref b3_1, .ref b4_1, .ref b5_1])), (b1_1, .inr (4, [.ref r1_1, .ref r2_1, .ref r3_1, .int 0])), (b2_1, .inl (T 0, 7, .inl roomF))] H := hP
  have hD : va_D A [(h0, .inr (2, [.null, .null, .null, .int 0, .null, .null, .int 0, .int 0])), (q1, .inr (3, [.ref b1_1, .ref b2_1, .ref b3_1, .ref b4_1, .ref b5_1])), (b1_1, .inr (4, [.ref r1_1, .ref r2_1, .ref r3_1, .int 0])), (b2_1, .inl (T 0, 7, .inl roomF))] := hD
  refine va_putF (D := D) (ci := 2) (v := .ref q1) (ty := .object "PageScribe$Store") (C := "PageScribe$Memory") (T := F_Memory) (N := 8) hx hb hts i_Memory t_Memory t_Memory_ok n_Memory hown hK hP hD hS 0 rfl rfl 1 (by decide) (hts _ k_1_130) (fun _ h9 => h9) rfl hin rfl (by decide +kernel) rfl rfl (Nat.le_of_ble_eq_true rfl) d_Memory_init_12 (fun H locs hP hD hS => ?_)
  have hP : va_P D classes [(h0, .inr (2, [.null, .ref q1, .null, .int 0, .null, .null, .int 0, .int 0])), (q1, .inr (3, [.ref b1_1, .ref b2_1, .ref b3_1, .ref b4_1, .ref b5_1])), (b1_1, .inr (4, [.ref r1_1, .ref r2_1, .ref r3_1, .int 0])), (b2_1, .inl (T 0, 7, .inl roomF))] H := hP
  have hD : va_D A [(h0, .inr (2, [.null, .ref q1, .null, .int 0, .null, .null, .int 0, .int 0])), (q1, .inr (3, [.ref b1_1, .ref b2_1, .ref b3_1, .ref b4_1, .ref b5_1])), (b1_1, .inr (4, [.ref r1_1, .ref r2_1, .ref r3_1, .int 0])), (b2_1, .inl (T 0, 7, .inl roomF))] := hD
  refine lv_aload_n hx hb d_Memory_init_15 rfl (lv_at hl 0 rfl) ?_
  refine lv_bipush (v := 6) hx hb d_Memory_init_16 (by decide) ?_
  refine j_newa (atype := .int) (ty := .int) F k_1_67 rfl hK hP hD hS hA 0 (T 0) rfl (6, .inl zI) (fun _ => rfl) (by decide +kernel) (by decide +kernel) (by decide +kernel) (Nat.le_of_ble_eq_true rfl) (Nat.le_of_ble_eq_true rfl) d_Memory_init_18 (fun q2 H hP hD hS => ?_)
  have hP : va_P D classes [(h0, .inr (2, [.null, .ref q1, .null, .int 0, .null, .null, .int 0, .int 0])), (q1, .inr (3, [.ref b1_1, .ref b2_1, .ref b3_1, .ref b4_1, .ref b5_1])), (b1_1, .inr (4, [.ref r1_1, .ref r2_1, .ref r3_1, .int 0])), (b2_1, .inl (T 0, 7, .inl roomF)), (q2, .inl (T 0, 6, .inl zI))] H := hP
  have hD : va_D A [(h0, .inr (2, [.null, .ref q1, .null, .int 0, .null, .null, .int 0, .int 0])), (q1, .inr (3, [.ref b1_1, .ref b2_1, .ref b3_1, .ref b4_1, .ref b5_1])), (b1_1, .inr (4, [.ref r1_1, .ref r2_1, .ref r3_1, .int 0])), (b2_1, .inl (T 0, 7, .inl roomF)), (q2, .inl (T 0, 6, .inl zI))] := hD
  refine va_putF (D := D) (ci := 2) (v := .ref q2) (ty := .array .int) (C := "PageScribe$Memory") (T := F_Memory) (N := 8) hx hb hts i_Memory t_Memory t_Memory_ok n_Memory hown hK hP hD hS 0 rfl rfl 2 (by decide) (hts _ k_1_133) (fun _ h9 => h9) rfl hin rfl (by decide +kernel) rfl rfl (Nat.le_of_ble_eq_true rfl) d_Memory_init_20 (fun H locs hP hD hS => ?_)
  have hP : va_P D classes [(h0, .inr (2, [.null, .ref q1, .ref q2, .int 0, .null, .null, .int 0, .int 0])), (q1, .inr (3, [.ref b1_1, .ref b2_1, .ref b3_1, .ref b4_1, .ref b5_1])), (b1_1, .inr (4, [.ref r1_1, .ref r2_1, .ref r3_1, .int 0])), (b2_1, .inl (T 0, 7, .inl roomF)), (q2, .inl (T 0, 6, .inl zI))] H := hP
  have hD : va_D A [(h0, .inr (2, [.null, .ref q1, .ref q2, .int 0, .null, .null, .int 0, .int 0])), (q1, .inr (3, [.ref b1_1, .ref b2_1, .ref b3_1, .ref b4_1, .ref b5_1])), (b1_1, .inr (4, [.ref r1_1, .ref r2_1, .ref r3_1, .int 0])), (b2_1, .inl (T 0, 7, .inl roomF)), (q2, .inl (T 0, 6, .inl zI))] := hD
  refine lv_aload_n hx hb d_Memory_init_23 rfl (lv_at hl 0 rfl) ?_
  refine lv_iconst (v := 1) hx hb d_Memory_init_24 (by decide) ?_
  refine va_put (D := D) (ci := 2) (v := .int 1) (ty := .int) (C := "PageScribe$Memory") (T := F_Memory) (N := 8) hx hb hts i_Memory t_Memory t_Memory_ok n_Memory hown hK hP hD hS 0 rfl rfl 3 (by decide) (hts _ k_1_134) (fun _ h9 => h9) rfl (by decide +kernel) rfl rfl (Nat.le_of_ble_eq_true rfl) d_Memory_init_25 (fun H locs hP hD hS => ?_)
  have hP : va_P D classes [(h0, .inr (2, [.null, .ref q1, .ref q2, .int 1, .null, .null, .int 0, .int 0])), (q1, .inr (3, [.ref b1_1, .ref b2_1, .ref b3_1, .ref b4_1, .ref b5_1])), (b1_1, .inr (4, [.ref r1_1, .ref r2_1, .ref r3_1, .int 0])), (b2_1, .inl (T 0, 7, .inl roomF)), (q2, .inl (T 0, 6, .inl zI))] H := hP
  have hD : va_D A [(h0, .inr (2, [.null, .ref q1, .ref q2, .int 1, .null, .null, .int 0, .int 0])), (q1, .inr (3, [.ref b1_1, .ref b2_1, .ref b3_1, .ref b4_1, .ref b5_1])), (b1_1, .inr (4, [.ref r1_1, .ref r2_1, .ref r3_1, .int 0])), (b2_1, .inl (T 0, 7, .inl roomF)), (q2, .inl (T 0, 6, .inl zI))] := hD
  refine lv_aload_n hx hb d_Memory_init_28 rfl (lv_at hl 0 rfl) ?_
  refine lv_iconst (v := 3) hx hb d_Memory_init_29 (by decide) ?_
  refine j_newq (N' := 3) F k_1_93 hAO hK hP hD hS hA (by decide +kernel) (by decide +kernel) (by decide +kernel) (Nat.le_of_ble_eq_true rfl) (Nat.le_of_ble_eq_true rfl) d_Memory_init_30 (fun q3 H hP hD hS => ?_)
  have hP : va_P D classes [(h0, .inr (2, [.null, .ref q1, .ref q2, .int 1, .null, .null, .int 0, .int 0])), (q1, .inr (3, [.ref b1_1, .ref b2_1, .ref b3_1, .ref b4_1, .ref b5_1])), (b1_1, .inr (4, [.ref r1_1, .ref r2_1, .ref r3_1, .int 0])), (b2_1, .inl (T 0, 7, .inl roomF)), (q2, .inl (T 0, 6, .inl zI)), (q3, .inl (T 4, 3, .inr (.inr (.inr (.inr zQ)))))] H := hP
  have hD : va_D A [(h0, .inr (2, [.null, .ref q1, .ref q2, .int 1, .null, .null, .int 0, .int 0])), (q1, .inr (3, [.ref b1_1, .ref b2_1, .ref b3_1, .ref b4_1, .ref b5_1])), (b1_1, .inr (4, [.ref r1_1, .ref r2_1, .ref r3_1, .int 0])), (b2_1, .inl (T 0, 7, .inl roomF)), (q2, .inl (T 0, 6, .inl zI)), (q3, .inl (T 4, 3, .inr (.inr (.inr (.inr zQ)))))] := hD
  refine va_putF (D := D) (ci := 2) (v := .ref q3) (ty := .array (.object "PageScribe$Store")) (C := "PageScribe$Memory") (T := F_Memory) (N := 8) hx hb hts i_Memory t_Memory t_Memory_ok n_Memory hown hK hP hD hS 0 rfl rfl 4 (by decide) (hts _ k_1_136) (fun _ h9 => h9) rfl hin rfl (by decide +kernel) rfl rfl (Nat.le_of_ble_eq_true rfl) d_Memory_init_33 (fun H locs hP hD hS => ?_)
  have hP : va_P D classes [(h0, .inr (2, [.null, .ref q1, .ref q2, .int 1, .ref q3, .null, .int 0, .int 0])), (q1, .inr (3, [.ref b1_1, .ref b2_1, .ref b3_1, .ref b4_1, .ref b5_1])), (b1_1, .inr (4, [.ref r1_1, .ref r2_1, .ref r3_1, .int 0])), (b2_1, .inl (T 0, 7, .inl roomF)), (q2, .inl (T 0, 6, .inl zI)), (q3, .inl (T 4, 3, .inr (.inr (.inr (.inr zQ)))))] H := hP
  have hD : va_D A [(h0, .inr (2, [.null, .ref q1, .ref q2, .int 1, .ref q3, .null, .int 0, .int 0])), (q1, .inr (3, [.ref b1_1, .ref b2_1, .ref b3_1, .ref b4_1, .ref b5_1])), (b1_1, .inr (4, [.ref r1_1, .ref r2_1, .ref r3_1, .int 0])), (b2_1, .inl (T 0, 7, .inl roomF)), (q2, .inl (T 0, 6, .inl zI)), (q3, .inl (T 4, 3, .inr (.inr (.inr (.inr zQ)))))] := hD
  refine lv_aload_n hx hb d_Memory_init_36 rfl (lv_at hl 0 rfl) ?_
  refine lv_iconst (v := 3) hx hb d_Memory_init_37 (by decide) ?_
  refine j_newa (atype := .int) (ty := .int) F k_1_67 rfl hK hP hD hS hA 0 (T 0) rfl (3, .inl zI) (fun _ => rfl) (by decide +kernel) (by decide +kernel) (by decide +kernel) (Nat.le_of_ble_eq_true rfl) (Nat.le_of_ble_eq_true rfl) d_Memory_init_38 (fun q4 H hP hD hS => ?_)
  have hP : va_P D classes [(h0, .inr (2, [.null, .ref q1, .ref q2, .int 1, .ref q3, .null, .int 0, .int 0])), (q1, .inr (3, [.ref b1_1, .ref b2_1, .ref b3_1, .ref b4_1, .ref b5_1])), (b1_1, .inr (4, [.ref r1_1, .ref r2_1, .ref r3_1, .int 0])), (b2_1, .inl (T 0, 7, .inl roomF)), (q2, .inl (T 0, 6, .inl zI)), (q3, .inl (T 4, 3, .inr (.inr (.inr (.inr zQ))))), (q4, .inl (T 0, 3, .inl zI))] H := hP
  have hD : va_D A [(h0, .inr (2, [.null, .ref q1, .ref q2, .int 1, .ref q3, .null, .int 0, .int 0])), (q1, .inr (3, [.ref b1_1, .ref b2_1, .ref b3_1, .ref b4_1, .ref b5_1])), (b1_1, .inr (4, [.ref r1_1, .ref r2_1, .ref r3_1, .int 0])), (b2_1, .inl (T 0, 7, .inl roomF)), (q2, .inl (T 0, 6, .inl zI)), (q3, .inl (T 4, 3, .inr (.inr (.inr (.inr zQ))))), (q4, .inl (T 0, 3, .inl zI))] := hD
  refine va_putF (D := D) (ci := 2) (v := .ref q4) (ty := .array .int) (C := "PageScribe$Memory") (T := F_Memory) (N := 8) hx hb hts i_Memory t_Memory t_Memory_ok n_Memory hown hK hP hD hS 0 rfl rfl 5 (by decide) (hts _ k_1_137) (fun _ h9 => h9) rfl hin rfl (by decide +kernel) rfl rfl (Nat.le_of_ble_eq_true rfl) d_Memory_init_40 (fun H locs hP hD hS => ?_)
  have hP : va_P D classes [(h0, .inr (2, [.null, .ref q1, .ref q2, .int 1, .ref q3, .ref q4, .int 0, .int 0])), (q1, .inr (3, [.ref b1_1, .ref b2_1, .ref b3_1, .ref b4_1, .ref b5_1])), (b1_1, .inr (4, [.ref r1_1, .ref r2_1, .ref r3_1, .int 0])), (b2_1, .inl (T 0, 7, .inl roomF)), (q2, .inl (T 0, 6, .inl zI)), (q3, .inl (T 4, 3, .inr (.inr (.inr (.inr zQ))))), (q4, .inl (T 0, 3, .inl zI))] H := hP
  have hD : va_D A [(h0, .inr (2, [.null, .ref q1, .ref q2, .int 1, .ref q3, .ref q4, .int 0, .int 0])), (q1, .inr (3, [.ref b1_1, .ref b2_1, .ref b3_1, .ref b4_1, .ref b5_1])), (b1_1, .inr (4, [.ref r1_1, .ref r2_1, .ref r3_1, .int 0])), (b2_1, .inl (T 0, 7, .inl roomF)), (q2, .inl (T 0, 6, .inl zI)), (q3, .inl (T 4, 3, .inr (.inr (.inr (.inr zQ))))), (q4, .inl (T 0, 3, .inl zI))] := hD
  refine lv_aload_n hx hb d_Memory_init_43 rfl (lv_at hl 0 rfl) ?_
  refine lv_iconst (v := 0) hx hb d_Memory_init_44 (by decide) ?_
  refine va_put (D := D) (ci := 2) (v := .int 0) (ty := .int) (C := "PageScribe$Memory") (T := F_Memory) (N := 8) hx hb hts i_Memory t_Memory t_Memory_ok n_Memory hown hK hP hD hS 0 rfl rfl 6 (by decide) (hts _ k_1_138) (fun _ h9 => h9) rfl (by decide +kernel) rfl rfl (Nat.le_of_ble_eq_true rfl) d_Memory_init_45 (fun H locs hP hD hS => ?_)
  have hP : va_P D classes [(h0, .inr (2, [.null, .ref q1, .ref q2, .int 1, .ref q3, .ref q4, .int 0, .int 0])), (q1, .inr (3, [.ref b1_1, .ref b2_1, .ref b3_1, .ref b4_1, .ref b5_1])), (b1_1, .inr (4, [.ref r1_1, .ref r2_1, .ref r3_1, .int 0])), (b2_1, .inl (T 0, 7, .inl roomF)), (q2, .inl (T 0, 6, .inl zI)), (q3, .inl (T 4, 3, .inr (.inr (.inr (.inr zQ))))), (q4, .inl (T 0, 3, .inl zI))] H := hP
  have hD : va_D A [(h0, .inr (2, [.null, .ref q1, .ref q2, .int 1, .ref q3, .ref q4, .int 0, .int 0])), (q1, .inr (3, [.ref b1_1, .ref b2_1, .ref b3_1, .ref b4_1, .ref b5_1])), (b1_1, .inr (4, [.ref r1_1, .ref r2_1, .ref r3_1, .int 0])), (b2_1, .inl (T 0, 7, .inl roomF)), (q2, .inl (T 0, 6, .inl zI)), (q3, .inl (T 4, 3, .inr (.inr (.inr (.inr zQ))))), (q4, .inl (T 0, 3, .inl zI))] := hD
  refine lv_aload_n hx hb d_Memory_init_48 rfl (lv_at hl 0 rfl) ?_
  refine lv_iconst (v := 0) hx hb d_Memory_init_49 (by decide) ?_
  refine va_put (D := D) (ci := 2) (v := .int 0) (ty := .int) (C := "PageScribe$Memory") (T := F_Memory) (N := 8) hx hb hts i_Memory t_Memory t_Memory_ok n_Memory hown hK hP hD hS 0 rfl rfl 7 (by decide) (hts _ k_1_140) (fun _ h9 => h9) rfl (by decide +kernel) rfl rfl (Nat.le_of_ble_eq_true rfl) d_Memory_init_50 (fun H locs hP hD hS => ?_)
  have hP : va_P D classes [(h0, .inr (2, [.null, .ref q1, .ref q2, .int 1, .ref q3, .ref q4, .int 0, .int 0])), (q1, .inr (3, [.ref b1_1, .ref b2_1, .ref b3_1, .ref b4_1, .ref b5_1])), (b1_1, .inr (4, [.ref r1_1, .ref r2_1, .ref r3_1, .int 0])), (b2_1, .inl (T 0, 7, .inl roomF)), (q2, .inl (T 0, 6, .inl zI)), (q3, .inl (T 4, 3, .inr (.inr (.inr (.inr zQ))))), (q4, .inl (T 0, 3, .inl zI))] H := hP
  have hD : va_D A [(h0, .inr (2, [.null, .ref q1, .ref q2, .int 1, .ref q3, .ref q4, .int 0, .int 0])), (q1, .inr (3, [.ref b1_1, .ref b2_1, .ref b3_1, .ref b4_1, .ref b5_1])), (b1_1, .inr (4, [.ref r1_1, .ref r2_1, .ref r3_1, .int 0])), (b2_1, .inl (T 0, 7, .inl roomF)), (q2, .inl (T 0, 6, .inl zI)), (q3, .inl (T 4, 3, .inr (.inr (.inr (.inr zQ))))), (q4, .inl (T 0, 3, .inl zI))] := hD
  refine lv_aload_n hx hb d_Memory_init_53 rfl (lv_at hl 0 rfl) ?_
  refine lv_aload_n hx hb d_Memory_init_54 rfl (lv_at hl 1 rfl) ?_
  refine va_putF (D := D) (ci := 2) (v := .ref h1) (ty := .object "PageScribe$Stack") (C := "PageScribe$Memory") (T := F_Memory) (N := 8) hx hb hts i_Memory t_Memory t_Memory_ok n_Memory hown hK hP hD hS 0 rfl rfl 0 (by decide) (hts _ k_1_129) (fun _ h9 => h9) rfl hin rfl (by decide +kernel) rfl rfl (Nat.le_of_ble_eq_true rfl) d_Memory_init_55 (fun H locs hP hD hS => ?_)
  have hP : va_P D classes [(h0, .inr (2, [.ref h1, .ref q1, .ref q2, .int 1, .ref q3, .ref q4, .int 0, .int 0])), (q1, .inr (3, [.ref b1_1, .ref b2_1, .ref b3_1, .ref b4_1, .ref b5_1])), (b1_1, .inr (4, [.ref r1_1, .ref r2_1, .ref r3_1, .int 0])), (b2_1, .inl (T 0, 7, .inl roomF)), (q2, .inl (T 0, 6, .inl zI)), (q3, .inl (T 4, 3, .inr (.inr (.inr (.inr zQ))))), (q4, .inl (T 0, 3, .inl zI))] H := hP
  have hD : va_D A [(h0, .inr (2, [.ref h1, .ref q1, .ref q2, .int 1, .ref q3, .ref q4, .int 0, .int 0])), (q1, .inr (3, [.ref b1_1, .ref b2_1, .ref b3_1, .ref b4_1, .ref b5_1])), (b1_1, .inr (4, [.ref r1_1, .ref r2_1, .ref r3_1, .int 0])), (b2_1, .inl (T 0, 7, .inl roomF)), (q2, .inl (T 0, 6, .inl zI)), (q3, .inl (T 4, 3, .inr (.inr (.inr (.inr zQ))))), (q4, .inl (T 0, 3, .inl zI))] := hD
  refine lv_iconst (v := 0) hx hb d_Memory_init_58 (by decide) ?_
  refine lv_istore_n (lv' := [(2, .int 0), (0, .ref h0), (1, .ref h1)]) hx hb d_Memory_init_59 rfl hl (by decide) rfl (fun ls hl => ?_)
  refine lv_iload_n hx hb d_Memory_init_60 rfl (lv_at hl 0 rfl) ?_
  refine lv_iconst (v := 3) hx hb d_Memory_init_61 (by decide) ?_
  refine lv_icmp_ge (tgt := 84) hx hb d_Memory_init_62 (by decide) (fun c9 => absurd c9 (by decide +kernel)) (fun _ => ?_)
  refine lv_aload_n hx hb d_Memory_init_65 rfl (lv_at hl 1 rfl) ?_
  refine va_get (D := D) (ci := 2) (v := .ref q3) (C := "PageScribe$Memory") (T := F_Memory) (N := 8) hx hb hts i_Memory hown hK hP 0 rfl rfl 4 (by decide) (hts _ k_1_136) (fun _ h9 => h9) rfl d_Memory_init_66 ?_
  refine lv_iload_n hx hb d_Memory_init_69 rfl (lv_at hl 0 rfl) ?_
  refine va_new (ci := 3) (fs := [.null, .null, .null, .null, .null]) (C := "PageScribe$Store") (T := F_Store) (N := 5) hx hb hts i_Store t_Store t_Store_ok hown (hts _ k_1_93) (hts _ k_1_94) (hts _ k_1_6) hK hP hD hS hA rfl z_Store (Nat.le_of_ble_eq_true rfl) (Nat.le_of_ble_eq_true rfl) d_Memory_init_70 (fun q5 H hP hD hS => ?_)
  have hP : va_P D classes [(h0, .inr (2, [.ref h1, .ref q1, .ref q2, .int 1, .ref q3, .ref q4, .int 0, .int 0])), (q1, .inr (3, [.ref b1_1, .ref b2_1, .ref b3_1, .ref b4_1, .ref b5_1])), (b1_1, .inr (4, [.ref r1_1, .ref r2_1, .ref r3_1, .int 0])), (b2_1, .inl (T 0, 7, .inl roomF)), (q2, .inl (T 0, 6, .inl zI)), (q3, .inl (T 4, 3, .inr (.inr (.inr (.inr zQ))))), (q4, .inl (T 0, 3, .inl zI)), (q5, .inr (3, [.null, .null, .null, .null, .null]))] H := hP
  have hD : va_D A [(h0, .inr (2, [.ref h1, .ref q1, .ref q2, .int 1, .ref q3, .ref q4, .int 0, .int 0])), (q1, .inr (3, [.ref b1_1, .ref b2_1, .ref b3_1, .ref b4_1, .ref b5_1])), (b1_1, .inr (4, [.ref r1_1, .ref r2_1, .ref r3_1, .int 0])), (b2_1, .inl (T 0, 7, .inl roomF)), (q2, .inl (T 0, 6, .inl zI)), (q3, .inl (T 4, 3, .inr (.inr (.inr (.inr zQ))))), (q4, .inl (T 0, 3, .inl zI)), (q5, .inr (3, [.null, .null, .null, .null, .null]))] := hD
  refine lv_dup hx hb d_Memory_init_73 rfl ?_
  refine j_cv (wc := [(q5, .inr (3, [.null, .null, .null, .null, .null]))]) (wr := [(h0, .inr (2, [.ref h1, .ref q1, .ref q2, .int 1, .ref q3, .ref q4, .int 0, .int 0])), (q1, .inr (3, [.ref b1_1, .ref b2_1, .ref b3_1, .ref b4_1, .ref b5_1])), (b1_1, .inr (4, [.ref r1_1, .ref r2_1, .ref r3_1, .int 0])), (b2_1, .inl (T 0, 7, .inl roomF)), (q2, .inl (T 0, 6, .inl zI)), (q3, .inl (T 4, 3, .inr (.inr (.inr (.inr zQ))))), (q4, .inl (T 0, 3, .inl zI))]) hK hP hD hS hA [7] [0, 1, 2, 3, 4, 5, 6] rfl rfl (by decide) (by decide) (va_runI (As := []) (rest := [.ref q5, .int 0, .ref q3]) F (c_Store_init l D T q5 H.size) (j_cI (k := 0) hts k_1_97 k_1_6 k_1_95 k_1_96 rfl (by decide +kernel) ⟨Nat.le_of_ble_eq_true rfl, Nat.le_of_ble_eq_true rfl⟩) (j_preS hK hP hD [7] rfl (by decide) (fun _ _ _ _ h => h) (fun _ _ _ => trivial)) rfl rfl hl.1 rfl (lv_room (Nat.le_of_ble_eq_true rfl)) d_Memory_init_74 ⟨Nat.le_of_ble_eq_true rfl, Nat.le_of_ble_eq_true rfl⟩) (fun u2 H locs hw hP hD hS => ?_)
  obtain ⟨b1_2, b2_2, b3_2, b4_2, b5_2, r1_2, r2_2, r3_2⟩ := u2
  have hP : va_P D classes [(h0, .inr (2, [.ref h1, .ref q1, .ref q2, .int 1, .ref q3, .ref q4, .int 0, .int 0])), (q1, .inr (3, [.ref b1_1, .ref b2_1, .ref b3_1, .ref b4_1, .ref b5_1])), (b1_1, .inr (4, [.ref r1_1, .ref r2_1, .ref r3_1, .int 0])), (b2_1, .inl (T 0, 7, .inl roomF)), (q2, .inl (T 0, 6, .inl zI)), (q3, .inl (T 4, 3, .inr (.inr (.inr (.inr zQ))))), (q4, .inl (T 0, 3, .inl zI)), (q5, .inr (3, [.ref b1_2, .ref b2_2, .ref b3_2, .ref b4_2, .ref b5_2])), (b1_2, .inr (4, [.ref r1_2, .ref r2_2, .ref r3_2, .int 0])), (b2_2, .inl (T 0, 7, .inl roomF))] H := hP
  have hD : va_D A [(h0, .inr (2, [.ref h1, .ref q1, .ref q2, .int 1, .ref q3, .ref q4, .int 0, .int 0])), (q1, .inr (3, [.ref b1_1, .ref b2_1, .ref b3_1, .ref b4_1, .ref b5_1])), (b1_1, .inr (4, [.ref r1_1, .ref r2_1, .ref r3_1, .int 0])), (b2_1, .inl (T 0, 7, .inl roomF)), (q2, .inl (T 0, 6, .inl zI)), (q3, .inl (T 4, 3, .inr (.inr (.inr (.inr zQ))))), (q4, .inl (T 0, 3, .inl zI)), (q5, .inr (3, [.ref b1_2, .ref b2_2, .ref b3_2, .ref b4_2, .ref b5_2])), (b1_2, .inr (4, [.ref r1_2, .ref r2_2, .ref r3_2, .int 0])), (b2_2, .inl (T 0, 7, .inl roomF))] := hD
  refine j_astq F hK hP hD hS 5 4 7 3 rfl rfl rfl rfl (by unfold vp_in; decide +kernel) d_Memory_init_77 (fun g1 H locs hP hD hS => ?_)
  have hP : va_P D classes [(h0, .inr (2, [.ref h1, .ref q1, .ref q2, .int 1, .ref q3, .ref q4, .int 0, .int 0])), (q1, .inr (3, [.ref b1_1, .ref b2_1, .ref b3_1, .ref b4_1, .ref b5_1])), (b1_1, .inr (4, [.ref r1_1, .ref r2_1, .ref r3_1, .int 0])), (b2_1, .inl (T 0, 7, .inl roomF)), (q2, .inl (T 0, 6, .inl zI)), (q3, .inl (T 4, 3, .inr (.inr (.inr (.inr g1))))), (q4, .inl (T 0, 3, .inl zI)), (q5, .inr (3, [.ref b1_2, .ref b2_2, .ref b3_2, .ref b4_2, .ref b5_2])), (b1_2, .inr (4, [.ref r1_2, .ref r2_2, .ref r3_2, .int 0])), (b2_2, .inl (T 0, 7, .inl roomF))] H := hP
  have hD : va_D A [(h0, .inr (2, [.ref h1, .ref q1, .ref q2, .int 1, .ref q3, .ref q4, .int 0, .int 0])), (q1, .inr (3, [.ref b1_1, .ref b2_1, .ref b3_1, .ref b4_1, .ref b5_1])), (b1_1, .inr (4, [.ref r1_1, .ref r2_1, .ref r3_1, .int 0])), (b2_1, .inl (T 0, 7, .inl roomF)), (q2, .inl (T 0, 6, .inl zI)), (q3, .inl (T 4, 3, .inr (.inr (.inr (.inr g1))))), (q4, .inl (T 0, 3, .inl zI)), (q5, .inr (3, [.ref b1_2, .ref b2_2, .ref b3_2, .ref b4_2, .ref b5_2])), (b1_2, .inr (4, [.ref r1_2, .ref r2_2, .ref r3_2, .int 0])), (b2_2, .inl (T 0, 7, .inl roomF))] := hD
  have hP := hP.sub (ws' := [(h0, .inr (2, [.ref h1, .ref q1, .ref q2, .int 1, .ref q3, .ref q4, .int 0, .int 0])), (q1, .inr (3, [.ref b1_1, .ref b2_1, .ref b3_1, .ref b4_1, .ref b5_1])), (b1_1, .inr (4, [.ref r1_1, .ref r2_1, .ref r3_1, .int 0])), (b2_1, .inl (T 0, 7, .inl roomF)), (q3, .inl (T 4, 3, .inr (.inr (.inr (.inr g1)))))]) [0, 1, 2, 3, 5] rfl
  have hD := hD.sub (ws' := [(h0, .inr (2, [.ref h1, .ref q1, .ref q2, .int 1, .ref q3, .ref q4, .int 0, .int 0])), (q1, .inr (3, [.ref b1_1, .ref b2_1, .ref b3_1, .ref b4_1, .ref b5_1])), (b1_1, .inr (4, [.ref r1_1, .ref r2_1, .ref r3_1, .int 0])), (b2_1, .inl (T 0, 7, .inl roomF)), (q3, .inl (T 4, 3, .inr (.inr (.inr (.inr g1)))))]) [0, 1, 2, 3, 5] (by decide) rfl
  refine lv_iinc (v := 1) (lv' := [(2, .int 1), (0, .ref h0), (1, .ref h1)]) hx hb d_Memory_init_78 hl (k := 0) rfl (by decide +kernel) (by decide) rfl (fun ls hl => ?_)
  refine lv_goto (tgt := 60) hx hb d_Memory_init_81 (by decide) ?_
  refine lv_iload_n hx hb d_Memory_init_60 rfl (lv_at hl 0 rfl) ?_
  refine lv_iconst (v := 3) hx hb d_Memory_init_61 (by decide) ?_
  refine lv_icmp_ge (tgt := 84) hx hb d_Memory_init_62 (by decide) (fun c9 => absurd c9 (by decide +kernel)) (fun _ => ?_)
  refine lv_aload_n hx hb d_Memory_init_65 rfl (lv_at hl 1 rfl) ?_
  refine va_get (D := D) (ci := 2) (v := .ref q3) (C := "PageScribe$Memory") (T := F_Memory) (N := 8) hx hb hts i_Memory hown hK hP 0 rfl rfl 4 (by decide) (hts _ k_1_136) (fun _ h9 => h9) rfl d_Memory_init_66 ?_
  refine lv_iload_n hx hb d_Memory_init_69 rfl (lv_at hl 0 rfl) ?_
  refine va_new (ci := 3) (fs := [.null, .null, .null, .null, .null]) (C := "PageScribe$Store") (T := F_Store) (N := 5) hx hb hts i_Store t_Store t_Store_ok hown (hts _ k_1_93) (hts _ k_1_94) (hts _ k_1_6) hK hP hD hS hA rfl z_Store (Nat.le_of_ble_eq_true rfl) (Nat.le_of_ble_eq_true rfl) d_Memory_init_70 (fun q6 H hP hD hS => ?_)
  have hP : va_P D classes [(h0, .inr (2, [.ref h1, .ref q1, .ref q2, .int 1, .ref q3, .ref q4, .int 0, .int 0])), (q1, .inr (3, [.ref b1_1, .ref b2_1, .ref b3_1, .ref b4_1, .ref b5_1])), (b1_1, .inr (4, [.ref r1_1, .ref r2_1, .ref r3_1, .int 0])), (b2_1, .inl (T 0, 7, .inl roomF)), (q3, .inl (T 4, 3, .inr (.inr (.inr (.inr g1))))), (q6, .inr (3, [.null, .null, .null, .null, .null]))] H := hP
  have hD : va_D A [(h0, .inr (2, [.ref h1, .ref q1, .ref q2, .int 1, .ref q3, .ref q4, .int 0, .int 0])), (q1, .inr (3, [.ref b1_1, .ref b2_1, .ref b3_1, .ref b4_1, .ref b5_1])), (b1_1, .inr (4, [.ref r1_1, .ref r2_1, .ref r3_1, .int 0])), (b2_1, .inl (T 0, 7, .inl roomF)), (q3, .inl (T 4, 3, .inr (.inr (.inr (.inr g1))))), (q6, .inr (3, [.null, .null, .null, .null, .null]))] := hD
  refine lv_dup hx hb d_Memory_init_73 rfl ?_
  refine j_cv (wc := [(q6, .inr (3, [.null, .null, .null, .null, .null]))]) (wr := [(h0, .inr (2, [.ref h1, .ref q1, .ref q2, .int 1, .ref q3, .ref q4, .int 0, .int 0])), (q1, .inr (3, [.ref b1_1, .ref b2_1, .ref b3_1, .ref b4_1, .ref b5_1])), (b1_1, .inr (4, [.ref r1_1, .ref r2_1, .ref r3_1, .int 0])), (b2_1, .inl (T 0, 7, .inl roomF)), (q3, .inl (T 4, 3, .inr (.inr (.inr (.inr g1)))))]) hK hP hD hS hA [5] [0, 1, 2, 3, 4] rfl rfl (by decide) (by decide) (va_runI (As := []) (rest := [.ref q6, .int 1, .ref q3]) F (c_Store_init l D T q6 H.size) (j_cI (k := 0) hts k_1_97 k_1_6 k_1_95 k_1_96 rfl (by decide +kernel) ⟨Nat.le_of_ble_eq_true rfl, Nat.le_of_ble_eq_true rfl⟩) (j_preS hK hP hD [5] rfl (by decide) (fun _ _ _ _ h => h) (fun _ _ _ => trivial)) rfl rfl hl.1 rfl (lv_room (Nat.le_of_ble_eq_true rfl)) d_Memory_init_74 ⟨Nat.le_of_ble_eq_true rfl, Nat.le_of_ble_eq_true rfl⟩) (fun u3 H locs hw hP hD hS => ?_)
  obtain ⟨b1_3, b2_3, b3_3, b4_3, b5_3, r1_3, r2_3, r3_3⟩ := u3
  have hP : va_P D classes [(h0, .inr (2, [.ref h1, .ref q1, .ref q2, .int 1, .ref q3, .ref q4, .int 0, .int 0])), (q1, .inr (3, [.ref b1_1, .ref b2_1, .ref b3_1, .ref b4_1, .ref b5_1])), (b1_1, .inr (4, [.ref r1_1, .ref r2_1, .ref r3_1, .int 0])), (b2_1, .inl (T 0, 7, .inl roomF)), (q3, .inl (T 4, 3, .inr (.inr (.inr (.inr g1))))), (q6, .inr (3, [.ref b1_3, .ref b2_3, .ref b3_3, .ref b4_3, .ref b5_3])), (b1_3, .inr (4, [.ref r1_3, .ref r2_3, .ref r3_3, .int 0])), (b2_3, .inl (T 0, 7, .inl roomF))] H := hP
  have hD : va_D A [(h0, .inr (2, [.ref h1, .ref q1, .ref q2, .int 1, .ref q3, .ref q4, .int 0, .int 0])), (q1, .inr (3, [.ref b1_1, .ref b2_1, .ref b3_1, .ref b4_1, .ref b5_1])), (b1_1, .inr (4, [.ref r1_1, .ref r2_1, .ref r3_1, .int 0])), (b2_1, .inl (T 0, 7, .inl roomF)), (q3, .inl (T 4, 3, .inr (.inr (.inr (.inr g1))))), (q6, .inr (3, [.ref b1_3, .ref b2_3, .ref b3_3, .ref b4_3, .ref b5_3])), (b1_3, .inr (4, [.ref r1_3, .ref r2_3, .ref r3_3, .int 0])), (b2_3, .inl (T 0, 7, .inl roomF))] := hD
  refine j_astq F hK hP hD hS 4 4 5 3 rfl rfl rfl rfl (by unfold vp_in; decide +kernel) d_Memory_init_77 (fun g2 H locs hP hD hS => ?_)
  have hP : va_P D classes [(h0, .inr (2, [.ref h1, .ref q1, .ref q2, .int 1, .ref q3, .ref q4, .int 0, .int 0])), (q1, .inr (3, [.ref b1_1, .ref b2_1, .ref b3_1, .ref b4_1, .ref b5_1])), (b1_1, .inr (4, [.ref r1_1, .ref r2_1, .ref r3_1, .int 0])), (b2_1, .inl (T 0, 7, .inl roomF)), (q3, .inl (T 4, 3, .inr (.inr (.inr (.inr g2))))), (q6, .inr (3, [.ref b1_3, .ref b2_3, .ref b3_3, .ref b4_3, .ref b5_3])), (b1_3, .inr (4, [.ref r1_3, .ref r2_3, .ref r3_3, .int 0])), (b2_3, .inl (T 0, 7, .inl roomF))] H := hP
  have hD : va_D A [(h0, .inr (2, [.ref h1, .ref q1, .ref q2, .int 1, .ref q3, .ref q4, .int 0, .int 0])), (q1, .inr (3, [.ref b1_1, .ref b2_1, .ref b3_1, .ref b4_1, .ref b5_1])), (b1_1, .inr (4, [.ref r1_1, .ref r2_1, .ref r3_1, .int 0])), (b2_1, .inl (T 0, 7, .inl roomF)), (q3, .inl (T 4, 3, .inr (.inr (.inr (.inr g2))))), (q6, .inr (3, [.ref b1_3, .ref b2_3, .ref b3_3, .ref b4_3, .ref b5_3])), (b1_3, .inr (4, [.ref r1_3, .ref r2_3, .ref r3_3, .int 0])), (b2_3, .inl (T 0, 7, .inl roomF))] := hD
  have hP := hP.sub (ws' := [(h0, .inr (2, [.ref h1, .ref q1, .ref q2, .int 1, .ref q3, .ref q4, .int 0, .int 0])), (q1, .inr (3, [.ref b1_1, .ref b2_1, .ref b3_1, .ref b4_1, .ref b5_1])), (b1_1, .inr (4, [.ref r1_1, .ref r2_1, .ref r3_1, .int 0])), (b2_1, .inl (T 0, 7, .inl roomF)), (q3, .inl (T 4, 3, .inr (.inr (.inr (.inr g2)))))]) [0, 1, 2, 3, 4] rfl
  have hD := hD.sub (ws' := [(h0, .inr (2, [.ref h1, .ref q1, .ref q2, .int 1, .ref q3, .ref q4, .int 0, .int 0])), (q1, .inr (3, [.ref b1_1, .ref b2_1, .ref b3_1, .ref b4_1, .ref b5_1])), (b1_1, .inr (4, [.ref r1_1, .ref r2_1, .ref r3_1, .int 0])), (b2_1, .inl (T 0, 7, .inl roomF)), (q3, .inl (T 4, 3, .inr (.inr (.inr (.inr g2)))))]) [0, 1, 2, 3, 4] (by decide) rfl
  refine lv_iinc (v := 2) (lv' := [(2, .int 2), (0, .ref h0), (1, .ref h1)]) hx hb d_Memory_init_78 hl (k := 0) rfl (by decide +kernel) (by decide) rfl (fun ls hl => ?_)
  refine lv_goto (tgt := 60) hx hb d_Memory_init_81 (by decide) ?_
  refine lv_iload_n hx hb d_Memory_init_60 rfl (lv_at hl 0 rfl) ?_
  refine lv_iconst (v := 3) hx hb d_Memory_init_61 (by decide) ?_
  refine lv_icmp_ge (tgt := 84) hx hb d_Memory_init_62 (by decide) (fun c9 => absurd c9 (by decide +kernel)) (fun _ => ?_)
  refine lv_aload_n hx hb d_Memory_init_65 rfl (lv_at hl 1 rfl) ?_
  refine va_get (D := D) (ci := 2) (v := .ref q3) (C := "PageScribe$Memory") (T := F_Memory) (N := 8) hx hb hts i_Memory hown hK hP 0 rfl rfl 4 (by decide) (hts _ k_1_136) (fun _ h9 => h9) rfl d_Memory_init_66 ?_
  refine lv_iload_n hx hb d_Memory_init_69 rfl (lv_at hl 0 rfl) ?_
  refine va_new (ci := 3) (fs := [.null, .null, .null, .null, .null]) (C := "PageScribe$Store") (T := F_Store) (N := 5) hx hb hts i_Store t_Store t_Store_ok hown (hts _ k_1_93) (hts _ k_1_94) (hts _ k_1_6) hK hP hD hS hA rfl z_Store (Nat.le_of_ble_eq_true rfl) (Nat.le_of_ble_eq_true rfl) d_Memory_init_70 (fun q7 H hP hD hS => ?_)
  have hP : va_P D classes [(h0, .inr (2, [.ref h1, .ref q1, .ref q2, .int 1, .ref q3, .ref q4, .int 0, .int 0])), (q1, .inr (3, [.ref b1_1, .ref b2_1, .ref b3_1, .ref b4_1, .ref b5_1])), (b1_1, .inr (4, [.ref r1_1, .ref r2_1, .ref r3_1, .int 0])), (b2_1, .inl (T 0, 7, .inl roomF)), (q3, .inl (T 4, 3, .inr (.inr (.inr (.inr g2))))), (q7, .inr (3, [.null, .null, .null, .null, .null]))] H := hP
  have hD : va_D A [(h0, .inr (2, [.ref h1, .ref q1, .ref q2, .int 1, .ref q3, .ref q4, .int 0, .int 0])), (q1, .inr (3, [.ref b1_1, .ref b2_1, .ref b3_1, .ref b4_1, .ref b5_1])), (b1_1, .inr (4, [.ref r1_1, .ref r2_1, .ref r3_1, .int 0])), (b2_1, .inl (T 0, 7, .inl roomF)), (q3, .inl (T 4, 3, .inr (.inr (.inr (.inr g2))))), (q7, .inr (3, [.null, .null, .null, .null, .null]))] := hD
  refine lv_dup hx hb d_Memory_init_73 rfl ?_
  refine j_cv (wc := [(q7, .inr (3, [.null, .null, .null, .null, .null]))]) (wr := [(h0, .inr (2, [.ref h1, .ref q1, .ref q2, .int 1, .ref q3, .ref q4, .int 0, .int 0])), (q1, .inr (3, [.ref b1_1, .ref b2_1, .ref b3_1, .ref b4_1, .ref b5_1])), (b1_1, .inr (4, [.ref r1_1, .ref r2_1, .ref r3_1, .int 0])), (b2_1, .inl (T 0, 7, .inl roomF)), (q3, .inl (T 4, 3, .inr (.inr (.inr (.inr g2)))))]) hK hP hD hS hA [5] [0, 1, 2, 3, 4] rfl rfl (by decide) (by decide) (va_runI (As := []) (rest := [.ref q7, .int 2, .ref q3]) F (c_Store_init l D T q7 H.size) (j_cI (k := 0) hts k_1_97 k_1_6 k_1_95 k_1_96 rfl (by decide +kernel) ⟨Nat.le_of_ble_eq_true rfl, Nat.le_of_ble_eq_true rfl⟩) (j_preS hK hP hD [5] rfl (by decide) (fun _ _ _ _ h => h) (fun _ _ _ => trivial)) rfl rfl hl.1 rfl (lv_room (Nat.le_of_ble_eq_true rfl)) d_Memory_init_74 ⟨Nat.le_of_ble_eq_true rfl, Nat.le_of_ble_eq_true rfl⟩) (fun u4 H locs hw hP hD hS => ?_)
  obtain ⟨b1_4, b2_4, b3_4, b4_4, b5_4, r1_4, r2_4, r3_4⟩ := u4
  have hP : va_P D classes [(h0, .inr (2, [.ref h1, .ref q1, .ref q2, .int 1, .ref q3, .ref q4, .int 0, .int 0])), (q1, .inr (3, [.ref b1_1, .ref b2_1, .ref b3_1, .ref b4_1, .ref b5_1])), (b1_1, .inr (4, [.ref r1_1, .ref r2_1, .ref r3_1, .int 0])), (b2_1, .inl (T 0, 7, .inl roomF)), (q3, .inl (T 4, 3, .inr (.inr (.inr (.inr g2))))), (q7, .inr (3, [.ref b1_4, .ref b2_4, .ref b3_4, .ref b4_4, .ref b5_4])), (b1_4, .inr (4, [.ref r1_4, .ref r2_4, .ref r3_4, .int 0])), (b2_4, .inl (T 0, 7, .inl roomF))] H := hP
  have hD : va_D A [(h0, .inr (2, [.ref h1, .ref q1, .ref q2, .int 1, .ref q3, .ref q4, .int 0, .int 0])), (q1, .inr (3, [.ref b1_1, .ref b2_1, .ref b3_1, .ref b4_1, .ref b5_1])), (b1_1, .inr (4, [.ref r1_1, .ref r2_1, .ref r3_1, .int 0])), (b2_1, .inl (T 0, 7, .inl roomF)), (q3, .inl (T 4, 3, .inr (.inr (.inr (.inr g2))))), (q7, .inr (3, [.ref b1_4, .ref b2_4, .ref b3_4, .ref b4_4, .ref b5_4])), (b1_4, .inr (4, [.ref r1_4, .ref r2_4, .ref r3_4, .int 0])), (b2_4, .inl (T 0, 7, .inl roomF))] := hD
  refine j_astq F hK hP hD hS 4 4 5 3 rfl rfl rfl rfl (by unfold vp_in; decide +kernel) d_Memory_init_77 (fun g3 H locs hP hD hS => ?_)
  have hP : va_P D classes [(h0, .inr (2, [.ref h1, .ref q1, .ref q2, .int 1, .ref q3, .ref q4, .int 0, .int 0])), (q1, .inr (3, [.ref b1_1, .ref b2_1, .ref b3_1, .ref b4_1, .ref b5_1])), (b1_1, .inr (4, [.ref r1_1, .ref r2_1, .ref r3_1, .int 0])), (b2_1, .inl (T 0, 7, .inl roomF)), (q3, .inl (T 4, 3, .inr (.inr (.inr (.inr g3))))), (q7, .inr (3, [.ref b1_4, .ref b2_4, .ref b3_4, .ref b4_4, .ref b5_4])), (b1_4, .inr (4, [.ref r1_4, .ref r2_4, .ref r3_4, .int 0])), (b2_4, .inl (T 0, 7, .inl roomF))] H := hP
  have hD : va_D A [(h0, .inr (2, [.ref h1, .ref q1, .ref q2, .int 1, .ref q3, .ref q4, .int 0, .int 0])), (q1, .inr (3, [.ref b1_1, .ref b2_1, .ref b3_1, .ref b4_1, .ref b5_1])), (b1_1, .inr (4, [.ref r1_1, .ref r2_1, .ref r3_1, .int 0])), (b2_1, .inl (T 0, 7, .inl roomF)), (q3, .inl (T 4, 3, .inr (.inr (.inr (.inr g3))))), (q7, .inr (3, [.ref b1_4, .ref b2_4, .ref b3_4, .ref b4_4, .ref b5_4])), (b1_4, .inr (4, [.ref r1_4, .ref r2_4, .ref r3_4, .int 0])), (b2_4, .inl (T 0, 7, .inl roomF))] := hD
  have hP := hP.sub (ws' := [(h0, .inr (2, [.ref h1, .ref q1, .ref q2, .int 1, .ref q3, .ref q4, .int 0, .int 0])), (q1, .inr (3, [.ref b1_1, .ref b2_1, .ref b3_1, .ref b4_1, .ref b5_1])), (b1_1, .inr (4, [.ref r1_1, .ref r2_1, .ref r3_1, .int 0])), (b2_1, .inl (T 0, 7, .inl roomF)), (q3, .inl (T 4, 3, .inr (.inr (.inr (.inr g3)))))]) [0, 1, 2, 3, 4] rfl
  have hD := hD.sub (ws' := [(h0, .inr (2, [.ref h1, .ref q1, .ref q2, .int 1, .ref q3, .ref q4, .int 0, .int 0])), (q1, .inr (3, [.ref b1_1, .ref b2_1, .ref b3_1, .ref b4_1, .ref b5_1])), (b1_1, .inr (4, [.ref r1_1, .ref r2_1, .ref r3_1, .int 0])), (b2_1, .inl (T 0, 7, .inl roomF)), (q3, .inl (T 4, 3, .inr (.inr (.inr (.inr g3)))))]) [0, 1, 2, 3, 4] (by decide) rfl
  refine lv_iinc (v := 3) (lv' := [(2, .int 3), (0, .ref h0), (1, .ref h1)]) hx hb d_Memory_init_78 hl (k := 0) rfl (by decide +kernel) (by decide) rfl (fun ls hl => ?_)
  refine lv_goto (tgt := 60) hx hb d_Memory_init_81 (by decide) ?_
  refine lv_iload_n hx hb d_Memory_init_60 rfl (lv_at hl 0 rfl) ?_
  refine lv_iconst (v := 3) hx hb d_Memory_init_61 (by decide) ?_
  refine lv_icmp_ge (tgt := 84) hx hb d_Memory_init_62 (by decide) (fun _ => ?_) (fun c9 => absurd c9 (by decide +kernel))
  have hP9 := hP.sub (ws' := [(h0, .inr (2, [.ref h1, .ref q1, .ref q2, .int 1, .ref q3, .ref q4, .int 0, .int 0])), (q1, .inr (3, [.ref b1_1, .ref b2_1, .ref b3_1, .ref b4_1, .ref b5_1])), (b1_1, .inr (4, [.ref r1_1, .ref r2_1, .ref r3_1, .int 0])), (b2_1, .inl (T 0, 7, .inl roomF))]) [0, 1, 2, 3] rfl
  have hD9 := hD.sub (ws' := [(h0, .inr (2, [.ref h1, .ref q1, .ref q2, .int 1, .ref q3, .ref q4, .int 0, .int 0])), (q1, .inr (3, [.ref b1_1, .ref b2_1, .ref b3_1, .ref b4_1, .ref b5_1])), (b1_1, .inr (4, [.ref r1_1, .ref r2_1, .ref r3_1, .int 0])), (b2_1, .inl (T 0, 7, .inl roomF))]) [0, 1, 2, 3] (by decide) rfl
  refine W.widen (k := 51) (n := 3320) (Nat.le_of_ble_eq_true rfl) (Nat.le_of_ble_eq_true rfl) ?_
  exact j_vret F hr hlocks hK hS (q1, q2, q3, q4, b1_1, b2_1, b3_1, b4_1, b5_1, r1_1, r2_1, r3_1) trivial hP9 hD9 d_Memory_init_84
theorem d_Reader_init_0 : decode prog_7_method_1_code 0 = .ok (.aload_n 0, 1) := by decide +kernel
theorem d_Reader_init_1 : decode prog_7_method_1_code 1 = .ok (.invokespecial 3, 3) := by decide +kernel
theorem k_1_163 : Cond.methodLink "PageScribe$Reader" 3 ⟨"java/lang/Object", "<init>", "()V"⟩ ∈ gw := gw_of (tb_1 (List.mem_of_getElem? (i := 163) (by decide +kernel))) (by decide +kernel)
theorem d_Reader_init_4 : decode prog_7_method_1_code 4 = .ok (.aload_n 0, 1) := by decide +kernel
theorem d_Reader_init_5 : decode prog_7_method_1_code 5 = .ok (.bipush 120, 2) := by decide +kernel
theorem d_Reader_init_7 : decode prog_7_method_1_code 7 = .ok (.newarray .char, 2) := by decide +kernel
theorem d_Reader_init_9 : decode prog_7_method_1_code 9 = .ok (.putfield 9, 3) := by decide +kernel
theorem k_1_168 : Cond.fieldLink "PageScribe$Reader" 9 "PageScribe$Reader" "text" "[C" ∈ gw := gw_of (tb_1 (List.mem_of_getElem? (i := 168) (by decide +kernel))) (by decide +kernel)
theorem d_Reader_init_12 : decode prog_7_method_1_code 12 = .ok (.aload_n 0, 1) := by decide +kernel
theorem d_Reader_init_13 : decode prog_7_method_1_code 13 = .ok (.iconst 0, 1) := by decide +kernel
theorem d_Reader_init_14 : decode prog_7_method_1_code 14 = .ok (.putfield 15, 3) := by decide +kernel
theorem k_1_169 : Cond.fieldLink "PageScribe$Reader" 15 "PageScribe$Reader" "length" "I" ∈ gw := gw_of (tb_1 (List.mem_of_getElem? (i := 169) (by decide +kernel))) (by decide +kernel)
theorem d_Reader_init_17 : decode prog_7_method_1_code 17 = .ok (.aload_n 0, 1) := by decide +kernel
theorem d_Reader_init_18 : decode prog_7_method_1_code 18 = .ok (.iconst 0, 1) := by decide +kernel
theorem d_Reader_init_19 : decode prog_7_method_1_code 19 = .ok (.putfield 19, 3) := by decide +kernel
theorem k_1_171 : Cond.fieldLink "PageScribe$Reader" 19 "PageScribe$Reader" "place" "I" ∈ gw := gw_of (tb_1 (List.mem_of_getElem? (i := 171) (by decide +kernel))) (by decide +kernel)
theorem d_Reader_init_22 : decode prog_7_method_1_code 22 = .ok (.aload_n 0, 1) := by decide +kernel
theorem d_Reader_init_23 : decode prog_7_method_1_code 23 = .ok (.iconst 0, 1) := by decide +kernel
theorem d_Reader_init_24 : decode prog_7_method_1_code 24 = .ok (.putfield 22, 3) := by decide +kernel
theorem k_1_172 : Cond.fieldLink "PageScribe$Reader" 22 "PageScribe$Reader" "tokenKind" "I" ∈ gw := gw_of (tb_1 (List.mem_of_getElem? (i := 172) (by decide +kernel))) (by decide +kernel)
theorem d_Reader_init_27 : decode prog_7_method_1_code 27 = .ok (.aload_n 0, 1) := by decide +kernel
theorem d_Reader_init_28 : decode prog_7_method_1_code 28 = .ok (.iconst 0, 1) := by decide +kernel
theorem d_Reader_init_29 : decode prog_7_method_1_code 29 = .ok (.putfield 25, 3) := by decide +kernel
theorem k_1_174 : Cond.fieldLink "PageScribe$Reader" 25 "PageScribe$Reader" "tokenNumber" "I" ∈ gw := gw_of (tb_1 (List.mem_of_getElem? (i := 174) (by decide +kernel))) (by decide +kernel)
theorem d_Reader_init_32 : decode prog_7_method_1_code 32 = .ok (.aload_n 0, 1) := by decide +kernel
theorem d_Reader_init_33 : decode prog_7_method_1_code 33 = .ok (.dconst 0, 1) := by decide +kernel
theorem d_Reader_init_34 : decode prog_7_method_1_code 34 = .ok (.putfield 28, 3) := by decide +kernel
theorem k_1_176 : Cond.fieldLink "PageScribe$Reader" 28 "PageScribe$Reader" "tokenReal" "D" ∈ gw := gw_of (tb_1 (List.mem_of_getElem? (i := 176) (by decide +kernel))) (by decide +kernel)
theorem d_Reader_init_37 : decode prog_7_method_1_code 37 = .ok (.aload_n 0, 1) := by decide +kernel
theorem d_Reader_init_38 : decode prog_7_method_1_code 38 = .ok (.new 32, 3) := by decide +kernel
theorem k_1_164 : Cond.classLink "PageScribe$Reader" 32 "PageScribe$Row" ∈ gw := gw_of (tb_1 (List.mem_of_getElem? (i := 164) (by decide +kernel))) (by decide +kernel)
theorem d_Reader_init_41 : decode prog_7_method_1_code 41 = .ok (.dup, 1) := by decide +kernel
theorem d_Reader_init_42 : decode prog_7_method_1_code 42 = .ok (.bipush 120, 2) := by decide +kernel
theorem d_Reader_init_44 : decode prog_7_method_1_code 44 = .ok (.invokespecial 34, 3) := by decide +kernel
theorem k_1_165 : Cond.methodLink "PageScribe$Reader" 34 ⟨"PageScribe$Row", "<init>", "(I)V"⟩ ∈ gw := gw_of (tb_1 (List.mem_of_getElem? (i := 165) (by decide +kernel))) (by decide +kernel)
theorem d_Reader_init_47 : decode prog_7_method_1_code 47 = .ok (.putfield 37, 3) := by decide +kernel
theorem k_1_178 : Cond.fieldLink "PageScribe$Reader" 37 "PageScribe$Reader" "gathered" "LPageScribe$Row;" ∈ gw := gw_of (tb_1 (List.mem_of_getElem? (i := 178) (by decide +kernel))) (by decide +kernel)
theorem d_Reader_init_50 : decode prog_7_method_1_code 50 = .ok (.aload_n 0, 1) := by decide +kernel
theorem d_Reader_init_51 : decode prog_7_method_1_code 51 = .ok (.iconst 4, 1) := by decide +kernel
theorem d_Reader_init_52 : decode prog_7_method_1_code 52 = .ok (.newarray .int, 2) := by decide +kernel
theorem d_Reader_init_54 : decode prog_7_method_1_code 54 = .ok (.putfield 41, 3) := by decide +kernel
theorem k_1_179 : Cond.fieldLink "PageScribe$Reader" 41 "PageScribe$Reader" "begins" "[I" ∈ gw := gw_of (tb_1 (List.mem_of_getElem? (i := 179) (by decide +kernel))) (by decide +kernel)
theorem d_Reader_init_57 : decode prog_7_method_1_code 57 = .ok (.aload_n 0, 1) := by decide +kernel
theorem d_Reader_init_58 : decode prog_7_method_1_code 58 = .ok (.aload_n 1, 1) := by decide +kernel
theorem d_Reader_init_59 : decode prog_7_method_1_code 59 = .ok (.putfield 45, 3) := by decide +kernel
theorem k_1_166 : Cond.fieldLink "PageScribe$Reader" 45 "PageScribe$Reader" "words" "LPageScribe$Words;" ∈ gw := gw_of (tb_1 (List.mem_of_getElem? (i := 166) (by decide +kernel))) (by decide +kernel)
theorem d_Reader_init_62 : decode prog_7_method_1_code 62 = .ok (.aload_n 0, 1) := by decide +kernel
theorem d_Reader_init_63 : decode prog_7_method_1_code 63 = .ok (.aload_n 2, 1) := by decide +kernel
theorem d_Reader_init_64 : decode prog_7_method_1_code 64 = .ok (.putfield 49, 3) := by decide +kernel
theorem k_1_167 : Cond.fieldLink "PageScribe$Reader" 49 "PageScribe$Reader" "store" "LPageScribe$Store;" ∈ gw := gw_of (tb_1 (List.mem_of_getElem? (i := 167) (by decide +kernel))) (by decide +kernel)
theorem d_Reader_init_67 : decode prog_7_method_1_code 67 = .ok (.return_, 1) := by decide +kernel
set_option maxHeartbeats 4000000 in
set_option maxRecDepth 100000 in
theorem c_Reader_init (l : Launch) (D : va_G) (T : Nat → ClassId) (h0 : Nat) (h1 : Nat) (h2 : Nat) (sz : Nat) : Met l ⟨"PageScribe$Reader", "<init>", "(LPageScribe$Words;LPageScribe$Store;)V"⟩ (wy ⟨"PageScribe$Reader", "<init>", "(LPageScribe$Words;LPageScribe$Store;)V"⟩ prog_7_method_1_code 3 none) ({ frames := 2, cells := 6, slots := 488, locals := 140 }) (va_Pc [.ref h0, .ref h1, .ref h2] (Pw D T [(h0, .inr (5, [.null, .null, .null, .int 0, .int 0, .int 0, .int 0, .double 0, .null, .null]))] sz E0)) (va_Qv (fun (u : Nat × Nat × Nat) => True) (fun u t => Bw D T (va_A [(h0, .inr (5, [.null, .null, .null, .int 0, .int 0, .int 0, .int 0, .double 0, .null, .null]))] sz) [(h0, .inr (5, [.ref h1, .ref h2, .ref u.1, .int 0, .int 0, .int 0, .int 0, .double 0, .ref u.2.1, .ref u.2.2])), (u.1, .inl (T 2, 120, .inl zI))] t) (va_A [(h0, .inr (5, [.null, .null, .null, .int 0, .int 0, .int 0, .int 0, .double 0, .null, .null]))] sz)) 6 488 (va_A [(h0, .inr (5, [.null, .null, .null, .int 0, .int 0, .int 0, .int 0, .double 0, .null, .null]))] sz) := by
  refine j_met (y := ⟨"PageScribe$Reader", "<init>", "(LPageScribe$Words;LPageScribe$Store;)V"⟩) (b := prog_7_method_1_code) (n := 3) (ret := none) (av := [.ref h0, .ref h1, .ref h2]) (Qc := fun A => va_Qv (fun (u : Nat × Nat × Nat) => True) (fun u t => Bw D T A [(h0, .inr (5, [.ref h1, .ref h2, .ref u.1, .int 0, .int 0, .int 0, .int 0, .double 0, .ref u.2.1, .ref u.2.2])), (u.1, .inl (T 2, 120, .inl zI))] t) A) (by decide +kernel) (Nat.le_of_ble_eq_true rfl) (fun p e s m args below meth c A ls F hr hlocks hnm hK hP hD hS hA hN hE hl => ?_)
  obtain ⟨hx, hb, hml, hown, hts⟩ := id F
  have hin := hnm
  have hl : lv_has ls 3 [(0, .ref h0), (1, .ref h1), (2, .ref h2)] := hl
  refine lv_aload_n hx hb d_Reader_init_0 rfl (lv_at hl 0 rfl) ?_
  refine j_obj F hl.1 k_1_163 k_1_35 k_1_36 d_Reader_init_1 (Nat.le_of_ble_eq_true rfl) (Nat.le_of_ble_eq_true rfl) ?_
  refine lv_aload_n hx hb d_Reader_init_4 rfl (lv_at hl 0 rfl) ?_
  refine lv_bipush (v := 120) hx hb d_Reader_init_5 (by decide) ?_
  refine j_newa (atype := .char) (ty := .char) F k_1_86 rfl hK hP hD hS hA 2 (T 2) rfl (120, .inl zI) (fun _ => rfl) (by decide +kernel) (by decide +kernel) (by decide +kernel) (Nat.le_of_ble_eq_true rfl) (Nat.le_of_ble_eq_true rfl) d_Reader_init_7 (fun q1 H hP hD hS => ?_)
  have hP : va_P D classes [(h0, .inr (5, [.null, .null, .null, .int 0, .int 0, .int 0, .int 0, .double 0, .null, .null])), (q1, .inl (T 2, 120, .inl zI))] H := hP
  have hD : va_D A [(h0, .inr (5, [.null, .null, .null, .int 0, .int 0, .int 0, .int 0, .double 0, .null, .null])), (q1, .inl (T 2, 120, .inl zI))] := hD
  refine va_putF (D := D) (ci := 5) (v := .ref q1) (ty := .array .char) (C := "PageScribe$Reader") (T := F_Reader) (N := 10) hx hb hts i_Reader t_Reader t_Reader_ok n_Reader hown hK hP hD hS 0 rfl rfl 2 (by decide) (hts _ k_1_168) (fun _ h9 => h9) rfl hin rfl (by decide +kernel) rfl rfl (Nat.le_of_ble_eq_true rfl) d_Reader_init_9 (fun H locs hP hD hS => ?_)
  have hP : va_P D classes [(h0, .inr (5, [.null, .null, .ref q1, .int 0, .int 0, .int 0, .int 0, .double 0, .null, .null])), (q1, .inl (T 2, 120, .inl zI))] H := hP
  have hD : va_D A [(h0, .inr (5, [.null, .null, .ref q1, .int 0, .int 0, .int 0, .int 0, .double 0, .null, .null])), (q1, .inl (T 2, 120, .inl zI))] := hD
  refine lv_aload_n hx hb d_Reader_init_12 rfl (lv_at hl 0 rfl) ?_
  refine lv_iconst (v := 0) hx hb d_Reader_init_13 (by decide) ?_
  refine va_put (D := D) (ci := 5) (v := .int 0) (ty := .int) (C := "PageScribe$Reader") (T := F_Reader) (N := 10) hx hb hts i_Reader t_Reader t_Reader_ok n_Reader hown hK hP hD hS 0 rfl rfl 3 (by decide) (hts _ k_1_169) (fun _ h9 => h9) rfl (by decide +kernel) rfl rfl (Nat.le_of_ble_eq_true rfl) d_Reader_init_14 (fun H locs hP hD hS => ?_)
  have hP : va_P D classes [(h0, .inr (5, [.null, .null, .ref q1, .int 0, .int 0, .int 0, .int 0, .double 0, .null, .null])), (q1, .inl (T 2, 120, .inl zI))] H := hP
  have hD : va_D A [(h0, .inr (5, [.null, .null, .ref q1, .int 0, .int 0, .int 0, .int 0, .double 0, .null, .null])), (q1, .inl (T 2, 120, .inl zI))] := hD
  refine lv_aload_n hx hb d_Reader_init_17 rfl (lv_at hl 0 rfl) ?_
  refine lv_iconst (v := 0) hx hb d_Reader_init_18 (by decide) ?_
  refine va_put (D := D) (ci := 5) (v := .int 0) (ty := .int) (C := "PageScribe$Reader") (T := F_Reader) (N := 10) hx hb hts i_Reader t_Reader t_Reader_ok n_Reader hown hK hP hD hS 0 rfl rfl 4 (by decide) (hts _ k_1_171) (fun _ h9 => h9) rfl (by decide +kernel) rfl rfl (Nat.le_of_ble_eq_true rfl) d_Reader_init_19 (fun H locs hP hD hS => ?_)
  have hP : va_P D classes [(h0, .inr (5, [.null, .null, .ref q1, .int 0, .int 0, .int 0, .int 0, .double 0, .null, .null])), (q1, .inl (T 2, 120, .inl zI))] H := hP
  have hD : va_D A [(h0, .inr (5, [.null, .null, .ref q1, .int 0, .int 0, .int 0, .int 0, .double 0, .null, .null])), (q1, .inl (T 2, 120, .inl zI))] := hD
  refine lv_aload_n hx hb d_Reader_init_22 rfl (lv_at hl 0 rfl) ?_
  refine lv_iconst (v := 0) hx hb d_Reader_init_23 (by decide) ?_
  refine va_put (D := D) (ci := 5) (v := .int 0) (ty := .int) (C := "PageScribe$Reader") (T := F_Reader) (N := 10) hx hb hts i_Reader t_Reader t_Reader_ok n_Reader hown hK hP hD hS 0 rfl rfl 5 (by decide) (hts _ k_1_172) (fun _ h9 => h9) rfl (by decide +kernel) rfl rfl (Nat.le_of_ble_eq_true rfl) d_Reader_init_24 (fun H locs hP hD hS => ?_)
  have hP : va_P D classes [(h0, .inr (5, [.null, .null, .ref q1, .int 0, .int 0, .int 0, .int 0, .double 0, .null, .null])), (q1, .inl (T 2, 120, .inl zI))] H := hP
  have hD : va_D A [(h0, .inr (5, [.null, .null, .ref q1, .int 0, .int 0, .int 0, .int 0, .double 0, .null, .null])), (q1, .inl (T 2, 120, .inl zI))] := hD
  refine lv_aload_n hx hb d_Reader_init_27 rfl (lv_at hl 0 rfl) ?_
  refine lv_iconst (v := 0) hx hb d_Reader_init_28 (by decide) ?_
  refine va_put (D := D) (ci := 5) (v := .int 0) (ty := .int) (C := "PageScribe$Reader") (T := F_Reader) (N := 10) hx hb hts i_Reader t_Reader t_Reader_ok n_Reader hown hK hP hD hS 0 rfl rfl 6 (by decide) (hts _ k_1_174) (fun _ h9 => h9) rfl (by decide +kernel) rfl rfl (Nat.le_of_ble_eq_true rfl) d_Reader_init_29 (fun H locs hP hD hS => ?_)
  have hP : va_P D classes [(h0, .inr (5, [.null, .null, .ref q1, .int 0, .int 0, .int 0, .int 0, .double 0, .null, .null])), (q1, .inl (T 2, 120, .inl zI))] H := hP
  have hD : va_D A [(h0, .inr (5, [.null, .null, .ref q1, .int 0, .int 0, .int 0, .int 0, .double 0, .null, .null])), (q1, .inl (T 2, 120, .inl zI))] := hD
  refine lv_aload_n hx hb d_Reader_init_32 rfl (lv_at hl 0 rfl) ?_
  refine lv_dconst0 hx hb d_Reader_init_33 ?_
  refine va_put (D := D) (ci := 5) (v := .double 0) (ty := .double) (C := "PageScribe$Reader") (T := F_Reader) (N := 10) hx hb hts i_Reader t_Reader t_Reader_ok n_Reader hown hK hP hD hS 0 rfl rfl 7 (by decide) (hts _ k_1_176) (fun _ h9 => h9) rfl (by decide +kernel) rfl rfl (Nat.le_of_ble_eq_true rfl) d_Reader_init_34 (fun H locs hP hD hS => ?_)
  have hP : va_P D classes [(h0, .inr (5, [.null, .null, .ref q1, .int 0, .int 0, .int 0, .int 0, .double 0, .null, .null])), (q1, .inl (T 2, 120, .inl zI))] H := hP
  have hD : va_D A [(h0, .inr (5, [.null, .null, .ref q1, .int 0, .int 0, .int 0, .int 0, .double 0, .null, .null])), (q1, .inl (T 2, 120, .inl zI))] := hD
  refine lv_aload_n hx hb d_Reader_init_37 rfl (lv_at hl 0 rfl) ?_
  refine va_new (ci := 4) (fs := [.null, .null, .null, .int 0]) (C := "PageScribe$Row") (T := F_Row) (N := 4) hx hb hts i_Row t_Row t_Row_ok hown (hts _ k_1_164) (hts _ k_1_100) (hts _ k_1_2) hK hP hD hS hA rfl z_Row (Nat.le_of_ble_eq_true rfl) (Nat.le_of_ble_eq_true rfl) d_Reader_init_38 (fun q2 H hP hD hS => ?_)
  have hP : va_P D classes [(h0, .inr (5, [.null, .null, .ref q1, .int 0, .int 0, .int 0, .int 0, .double 0, .null, .null])), (q1, .inl (T 2, 120, .inl zI)), (q2, .inr (4, [.null, .null, .null, .int 0]))] H := hP
  have hD : va_D A [(h0, .inr (5, [.null, .null, .ref q1, .int 0, .int 0, .int 0, .int 0, .double 0, .null, .null])), (q1, .inl (T 2, 120, .inl zI)), (q2, .inr (4, [.null, .null, .null, .int 0]))] := hD
  refine lv_dup hx hb d_Reader_init_41 rfl ?_
  refine lv_bipush (v := 120) hx hb d_Reader_init_42 (by decide) ?_
  refine j_cv (wc := [(q2, .inr (4, [.null, .null, .null, .int 0]))]) (wr := [(h0, .inr (5, [.null, .null, .ref q1, .int 0, .int 0, .int 0, .int 0, .double 0, .null, .null])), (q1, .inl (T 2, 120, .inl zI))]) hK hP hD hS hA [2] [0, 1] rfl rfl (by decide) (by decide) (va_runI (As := [.int 120]) (rest := [.ref q2, .ref h0]) F (c_Row_init_Row120 l D T q2 H.size) (j_cI (k := 1) hts k_1_44 k_1_2 k_1_165 k_1_43 rfl (by decide +kernel) ⟨Nat.le_of_ble_eq_true rfl, Nat.le_of_ble_eq_true rfl⟩) (j_preS hK hP hD [2] rfl (by decide) (fun _ _ _ _ h => h) (fun _ _ _ => trivial)) rfl rfl hl.1 rfl (lv_room (Nat.le_of_ble_eq_true rfl)) d_Reader_init_44 ⟨Nat.le_of_ble_eq_true rfl, Nat.le_of_ble_eq_true rfl⟩) (fun u1 H locs hw hP hD hS => ?_)
  obtain ⟨a1_1, a2_1, a3_1⟩ := u1
  have hP : va_P D classes [(h0, .inr (5, [.null, .null, .ref q1, .int 0, .int 0, .int 0, .int 0, .double 0, .null, .null])), (q1, .inl (T 2, 120, .inl zI)), (q2, .inr (4, [.ref a1_1, .ref a2_1, .ref a3_1, .int 0]))] H := hP
  have hD : va_D A [(h0, .inr (5, [.null, .null, .ref q1, .int 0, .int 0, .int 0, .int 0, .double 0, .null, .null])), (q1, .inl (T 2, 120, .inl zI)), (q2, .inr (4, [.ref a1_1, .ref a2_1, .ref a3_1, .int 0]))] := hD
  refine va_putF (D := D) (ci := 5) (v := .ref q2) (ty := .object "PageScribe$Row") (C := "PageScribe$Reader") (T := F_Reader) (N := 10) hx hb hts i_Reader t_Reader t_Reader_ok n_Reader hown hK hP hD hS 0 rfl rfl 8 (by decide) (hts _ k_1_178) (fun _ h9 => h9) rfl hin rfl (by decide +kernel) rfl rfl (Nat.le_of_ble_eq_true rfl) d_Reader_init_47 (fun H locs hP hD hS => ?_)
  have hP : va_P D classes [(h0, .inr (5, [.null, .null, .ref q1, .int 0, .int 0, .int 0, .int 0, .double 0, .ref q2, .null])), (q1, .inl (T 2, 120, .inl zI)), (q2, .inr (4, [.ref a1_1, .ref a2_1, .ref a3_1, .int 0]))] H := hP
  have hD : va_D A [(h0, .inr (5, [.null, .null, .ref q1, .int 0, .int 0, .int 0, .int 0, .double 0, .ref q2, .null])), (q1, .inl (T 2, 120, .inl zI)), (q2, .inr (4, [.ref a1_1, .ref a2_1, .ref a3_1, .int 0]))] := hD
  refine lv_aload_n hx hb d_Reader_init_50 rfl (lv_at hl 0 rfl) ?_
  refine lv_iconst (v := 4) hx hb d_Reader_init_51 (by decide) ?_
  refine j_newa (atype := .int) (ty := .int) F k_1_67 rfl hK hP hD hS hA 0 (T 0) rfl (4, .inl zI) (fun _ => rfl) (by decide +kernel) (by decide +kernel) (by decide +kernel) (Nat.le_of_ble_eq_true rfl) (Nat.le_of_ble_eq_true rfl) d_Reader_init_52 (fun q3 H hP hD hS => ?_)
  have hP : va_P D classes [(h0, .inr (5, [.null, .null, .ref q1, .int 0, .int 0, .int 0, .int 0, .double 0, .ref q2, .null])), (q1, .inl (T 2, 120, .inl zI)), (q2, .inr (4, [.ref a1_1, .ref a2_1, .ref a3_1, .int 0])), (q3, .inl (T 0, 4, .inl zI))] H := hP
  have hD : va_D A [(h0, .inr (5, [.null, .null, .ref q1, .int 0, .int 0, .int 0, .int 0, .double 0, .ref q2, .null])), (q1, .inl (T 2, 120, .inl zI)), (q2, .inr (4, [.ref a1_1, .ref a2_1, .ref a3_1, .int 0])), (q3, .inl (T 0, 4, .inl zI))] := hD
  refine va_putF (D := D) (ci := 5) (v := .ref q3) (ty := .array .int) (C := "PageScribe$Reader") (T := F_Reader) (N := 10) hx hb hts i_Reader t_Reader t_Reader_ok n_Reader hown hK hP hD hS 0 rfl rfl 9 (by decide) (hts _ k_1_179) (fun _ h9 => h9) rfl hin rfl (by decide +kernel) rfl rfl (Nat.le_of_ble_eq_true rfl) d_Reader_init_54 (fun H locs hP hD hS => ?_)
  have hP : va_P D classes [(h0, .inr (5, [.null, .null, .ref q1, .int 0, .int 0, .int 0, .int 0, .double 0, .ref q2, .ref q3])), (q1, .inl (T 2, 120, .inl zI)), (q2, .inr (4, [.ref a1_1, .ref a2_1, .ref a3_1, .int 0])), (q3, .inl (T 0, 4, .inl zI))] H := hP
  have hD : va_D A [(h0, .inr (5, [.null, .null, .ref q1, .int 0, .int 0, .int 0, .int 0, .double 0, .ref q2, .ref q3])), (q1, .inl (T 2, 120, .inl zI)), (q2, .inr (4, [.ref a1_1, .ref a2_1, .ref a3_1, .int 0])), (q3, .inl (T 0, 4, .inl zI))] := hD
  refine lv_aload_n hx hb d_Reader_init_57 rfl (lv_at hl 0 rfl) ?_
  refine lv_aload_n hx hb d_Reader_init_58 rfl (lv_at hl 1 rfl) ?_
  refine va_putF (D := D) (ci := 5) (v := .ref h1) (ty := .object "PageScribe$Words") (C := "PageScribe$Reader") (T := F_Reader) (N := 10) hx hb hts i_Reader t_Reader t_Reader_ok n_Reader hown hK hP hD hS 0 rfl rfl 0 (by decide) (hts _ k_1_166) (fun _ h9 => h9) rfl hin rfl (by decide +kernel) rfl rfl (Nat.le_of_ble_eq_true rfl) d_Reader_init_59 (fun H locs hP hD hS => ?_)
  have hP : va_P D classes [(h0, .inr (5, [.ref h1, .null, .ref q1, .int 0, .int 0, .int 0, .int 0, .double 0, .ref q2, .ref q3])), (q1, .inl (T 2, 120, .inl zI)), (q2, .inr (4, [.ref a1_1, .ref a2_1, .ref a3_1, .int 0])), (q3, .inl (T 0, 4, .inl zI))] H := hP
  have hD : va_D A [(h0, .inr (5, [.ref h1, .null, .ref q1, .int 0, .int 0, .int 0, .int 0, .double 0, .ref q2, .ref q3])), (q1, .inl (T 2, 120, .inl zI)), (q2, .inr (4, [.ref a1_1, .ref a2_1, .ref a3_1, .int 0])), (q3, .inl (T 0, 4, .inl zI))] := hD
  refine lv_aload_n hx hb d_Reader_init_62 rfl (lv_at hl 0 rfl) ?_
  refine lv_aload_n hx hb d_Reader_init_63 rfl (lv_at hl 2 rfl) ?_
  refine va_putF (D := D) (ci := 5) (v := .ref h2) (ty := .object "PageScribe$Store") (C := "PageScribe$Reader") (T := F_Reader) (N := 10) hx hb hts i_Reader t_Reader t_Reader_ok n_Reader hown hK hP hD hS 0 rfl rfl 1 (by decide) (hts _ k_1_167) (fun _ h9 => h9) rfl hin rfl (by decide +kernel) rfl rfl (Nat.le_of_ble_eq_true rfl) d_Reader_init_64 (fun H locs hP hD hS => ?_)
  have hP : va_P D classes [(h0, .inr (5, [.ref h1, .ref h2, .ref q1, .int 0, .int 0, .int 0, .int 0, .double 0, .ref q2, .ref q3])), (q1, .inl (T 2, 120, .inl zI)), (q2, .inr (4, [.ref a1_1, .ref a2_1, .ref a3_1, .int 0])), (q3, .inl (T 0, 4, .inl zI))] H := hP
  have hD : va_D A [(h0, .inr (5, [.ref h1, .ref h2, .ref q1, .int 0, .int 0, .int 0, .int 0, .double 0, .ref q2, .ref q3])), (q1, .inl (T 2, 120, .inl zI)), (q2, .inr (4, [.ref a1_1, .ref a2_1, .ref a3_1, .int 0])), (q3, .inl (T 0, 4, .inl zI))] := hD
  have hP9 := hP.sub (ws' := [(h0, .inr (5, [.ref h1, .ref h2, .ref q1, .int 0, .int 0, .int 0, .int 0, .double 0, .ref q2, .ref q3])), (q1, .inl (T 2, 120, .inl zI))]) [0, 1] rfl
  have hD9 := hD.sub (ws' := [(h0, .inr (5, [.ref h1, .ref h2, .ref q1, .int 0, .int 0, .int 0, .int 0, .double 0, .ref q2, .ref q3])), (q1, .inl (T 2, 120, .inl zI))]) [0, 1] (by decide) rfl
  refine W.widen (k := 6) (n := 488) (Nat.le_of_ble_eq_true rfl) (Nat.le_of_ble_eq_true rfl) ?_
  exact j_vret F hr hlocks hK hS (q1, q2, q3) trivial hP9 hD9 d_Reader_init_67
theorem d_Sums_init_0 : decode prog_11_method_1_code 0 = .ok (.aload_n 0, 1) := by decide +kernel
theorem d_Sums_init_1 : decode prog_11_method_1_code 1 = .ok (.invokespecial 3, 3) := by decide +kernel
theorem k_2_7 : Cond.methodLink "PageScribe$Sums" 3 ⟨"java/lang/Object", "<init>", "()V"⟩ ∈ gw := gw_of (tb_2 (List.mem_of_getElem? (i := 7) (by decide +kernel))) (by decide +kernel)
theorem d_Sums_init_4 : decode prog_11_method_1_code 4 = .ok (.aload_n 0, 1) := by decide +kernel
theorem d_Sums_init_5 : decode prog_11_method_1_code 5 = .ok (.aload_n 1, 1) := by decide +kernel
theorem d_Sums_init_6 : decode prog_11_method_1_code 6 = .ok (.putfield 9, 3) := by decide +kernel
theorem k_2_8 : Cond.fieldLink "PageScribe$Sums" 9 "PageScribe$Sums" "stack" "LPageScribe$Stack;" ∈ gw := gw_of (tb_2 (List.mem_of_getElem? (i := 8) (by decide +kernel))) (by decide +kernel)
theorem d_Sums_init_9 : decode prog_11_method_1_code 9 = .ok (.return_, 1) := by decide +kernel
set_option maxHeartbeats 4000000 in
set_option maxRecDepth 100000 in
theorem c_Sums_init (l : Launch) (D : va_G) (T : Nat → ClassId) (h0 : Nat) (h1 : Nat) (sz : Nat) : Met l ⟨"PageScribe$Sums", "<init>", "(LPageScribe$Stack;)V"⟩ (wy ⟨"PageScribe$Sums", "<init>", "(LPageScribe$Stack;)V"⟩ prog_11_method_1_code 2 none) ({ frames := 1, cells := 0, slots := 0, locals := 70 }) (va_Pc [.ref h0, .ref h1] (Pw D T [(h0, .inr (8, [.null]))] sz E0)) (va_Qv (fun (u : Unit) => True) (fun u t => Bw D T (va_A [(h0, .inr (8, [.null]))] sz) [(h0, .inr (8, [.ref h1]))] t) (va_A [(h0, .inr (8, [.null]))] sz)) 0 0 (va_A [(h0, .inr (8, [.null]))] sz) := by
  refine j_met (y := ⟨"PageScribe$Sums", "<init>", "(LPageScribe$Stack;)V"⟩) (b := prog_11_method_1_code) (n := 2) (ret := none) (av := [.ref h0, .ref h1]) (Qc := fun A => va_Qv (fun (u : Unit) => True) (fun u t => Bw D T A [(h0, .inr (8, [.ref h1]))] t) A) (by decide +kernel) (Nat.le_of_ble_eq_true rfl) (fun p e s m args below meth c A ls F hr hlocks hnm hK hP hD hS hA hN hE hl => ?_)
  obtain ⟨hx, hb, hml, hown, hts⟩ := id F
  have hin := hnm
  have hl : lv_has ls 2 [(0, .ref h0), (1, .ref h1)] := hl
  refine lv_aload_n hx hb d_Sums_init_0 rfl (lv_at hl 0 rfl) ?_
  refine j_obj F hl.1 k_2_7 k_1_35 k_1_36 d_Sums_init_1 (Nat.le_of_ble_eq_true rfl) (Nat.le_of_ble_eq_true rfl) ?_
  refine lv_aload_n hx hb d_Sums_init_4 rfl (lv_at hl 0 rfl) ?_
  refine lv_aload_n hx hb d_Sums_init_5 rfl (lv_at hl 1 rfl) ?_
  refine va_putF (D := D) (ci := 8) (v := .ref h1) (ty := .object "PageScribe$Stack") (C := "PageScribe$Sums") (T := F_Sums) (N := 1) hx hb hts i_Sums t_Sums t_Sums_ok n_Sums hown hK hP hD hS 0 rfl rfl 0 (by decide) (hts _ k_2_8) (fun _ h9 => h9) rfl hin rfl (by decide +kernel) rfl rfl (Nat.le_of_ble_eq_true rfl) d_Sums_init_6 (fun H locs hP hD hS => ?_)
  have hP : va_P D classes [(h0, .inr (8, [.ref h1]))] H := hP
  have hD : va_D A [(h0, .inr (8, [.ref h1]))] := hD
  have hP9 := hP.sub (ws' := [(h0, .inr (8, [.ref h1]))]) [0] rfl
  have hD9 := hD.sub (ws' := [(h0, .inr (8, [.ref h1]))]) [0] (by decide) rfl
  refine W.widen (k := 0) (n := 0) (Nat.le_of_ble_eq_true rfl) (Nat.le_of_ble_eq_true rfl) ?_
  exact j_vret F hr hlocks hK hS () trivial hP9 hD9 d_Sums_init_9
theorem d_Truths_init_0 : decode prog_12_method_1_code 0 = .ok (.aload_n 0, 1) := by decide +kernel
theorem d_Truths_init_1 : decode prog_12_method_1_code 1 = .ok (.invokespecial 3, 3) := by decide +kernel
theorem k_2_17 : Cond.methodLink "PageScribe$Truths" 3 ⟨"java/lang/Object", "<init>", "()V"⟩ ∈ gw := gw_of (tb_2 (List.mem_of_getElem? (i := 17) (by decide +kernel))) (by decide +kernel)
theorem d_Truths_init_4 : decode prog_12_method_1_code 4 = .ok (.aload_n 0, 1) := by decide +kernel
theorem d_Truths_init_5 : decode prog_12_method_1_code 5 = .ok (.aload_n 1, 1) := by decide +kernel
theorem d_Truths_init_6 : decode prog_12_method_1_code 6 = .ok (.putfield 9, 3) := by decide +kernel
theorem k_2_18 : Cond.fieldLink "PageScribe$Truths" 9 "PageScribe$Truths" "stack" "LPageScribe$Stack;" ∈ gw := gw_of (tb_2 (List.mem_of_getElem? (i := 18) (by decide +kernel))) (by decide +kernel)
theorem d_Truths_init_9 : decode prog_12_method_1_code 9 = .ok (.return_, 1) := by decide +kernel
set_option maxHeartbeats 4000000 in
set_option maxRecDepth 100000 in
theorem c_Truths_init (l : Launch) (D : va_G) (T : Nat → ClassId) (h0 : Nat) (h1 : Nat) (sz : Nat) : Met l ⟨"PageScribe$Truths", "<init>", "(LPageScribe$Stack;)V"⟩ (wy ⟨"PageScribe$Truths", "<init>", "(LPageScribe$Stack;)V"⟩ prog_12_method_1_code 2 none) ({ frames := 1, cells := 0, slots := 0, locals := 70 }) (va_Pc [.ref h0, .ref h1] (Pw D T [(h0, .inr (9, [.null]))] sz E0)) (va_Qv (fun (u : Unit) => True) (fun u t => Bw D T (va_A [(h0, .inr (9, [.null]))] sz) [(h0, .inr (9, [.ref h1]))] t) (va_A [(h0, .inr (9, [.null]))] sz)) 0 0 (va_A [(h0, .inr (9, [.null]))] sz) := by
  refine j_met (y := ⟨"PageScribe$Truths", "<init>", "(LPageScribe$Stack;)V"⟩) (b := prog_12_method_1_code) (n := 2) (ret := none) (av := [.ref h0, .ref h1]) (Qc := fun A => va_Qv (fun (u : Unit) => True) (fun u t => Bw D T A [(h0, .inr (9, [.ref h1]))] t) A) (by decide +kernel) (Nat.le_of_ble_eq_true rfl) (fun p e s m args below meth c A ls F hr hlocks hnm hK hP hD hS hA hN hE hl => ?_)
  obtain ⟨hx, hb, hml, hown, hts⟩ := id F
  have hin := hnm
  have hl : lv_has ls 2 [(0, .ref h0), (1, .ref h1)] := hl
  refine lv_aload_n hx hb d_Truths_init_0 rfl (lv_at hl 0 rfl) ?_
  refine j_obj F hl.1 k_2_17 k_1_35 k_1_36 d_Truths_init_1 (Nat.le_of_ble_eq_true rfl) (Nat.le_of_ble_eq_true rfl) ?_
  refine lv_aload_n hx hb d_Truths_init_4 rfl (lv_at hl 0 rfl) ?_
  refine lv_aload_n hx hb d_Truths_init_5 rfl (lv_at hl 1 rfl) ?_
  refine va_putF (D := D) (ci := 9) (v := .ref h1) (ty := .object "PageScribe$Stack") (C := "PageScribe$Truths") (T := F_Truths) (N := 1) hx hb hts i_Truths t_Truths t_Truths_ok n_Truths hown hK hP hD hS 0 rfl rfl 0 (by decide) (hts _ k_2_18) (fun _ h9 => h9) rfl hin rfl (by decide +kernel) rfl rfl (Nat.le_of_ble_eq_true rfl) d_Truths_init_6 (fun H locs hP hD hS => ?_)
  have hP : va_P D classes [(h0, .inr (9, [.ref h1]))] H := hP
  have hD : va_D A [(h0, .inr (9, [.ref h1]))] := hD
  have hP9 := hP.sub (ws' := [(h0, .inr (9, [.ref h1]))]) [0] rfl
  have hD9 := hD.sub (ws' := [(h0, .inr (9, [.ref h1]))]) [0] (by decide) rfl
  refine W.widen (k := 0) (n := 0) (Nat.le_of_ble_eq_true rfl) (Nat.le_of_ble_eq_true rfl) ?_
  exact j_vret F hr hlocks hK hS () trivial hP9 hD9 d_Truths_init_9
theorem d_Engine_init_0 : decode prog_4_method_1_code 0 = .ok (.aload_n 0, 1) := by decide +kernel
theorem d_Engine_init_1 : decode prog_4_method_1_code 1 = .ok (.invokespecial 3, 3) := by decide +kernel
theorem k_2_1 : Cond.methodLink "PageScribe$Engine" 3 ⟨"java/lang/Object", "<init>", "()V"⟩ ∈ gw := gw_of (tb_2 (List.mem_of_getElem? (i := 1) (by decide +kernel))) (by decide +kernel)
theorem d_Engine_init_4 : decode prog_4_method_1_code 4 = .ok (.aload_n 0, 1) := by decide +kernel
theorem d_Engine_init_5 : decode prog_4_method_1_code 5 = .ok (.iconst 0, 1) := by decide +kernel
theorem d_Engine_init_6 : decode prog_4_method_1_code 6 = .ok (.putfield 9, 3) := by decide +kernel
theorem k_2_27 : Cond.fieldLink "PageScribe$Engine" 9 "PageScribe$Engine" "fuelGiven" "I" ∈ gw := gw_of (tb_2 (List.mem_of_getElem? (i := 27) (by decide +kernel))) (by decide +kernel)
theorem d_Engine_init_9 : decode prog_4_method_1_code 9 = .ok (.aload_n 0, 1) := by decide +kernel
theorem d_Engine_init_10 : decode prog_4_method_1_code 10 = .ok (.iconst 0, 1) := by decide +kernel
theorem d_Engine_init_11 : decode prog_4_method_1_code 11 = .ok (.putfield 15, 3) := by decide +kernel
theorem k_2_28 : Cond.fieldLink "PageScribe$Engine" 15 "PageScribe$Engine" "stepsDone" "I" ∈ gw := gw_of (tb_2 (List.mem_of_getElem? (i := 28) (by decide +kernel))) (by decide +kernel)
theorem d_Engine_init_14 : decode prog_4_method_1_code 14 = .ok (.aload_n 0, 1) := by decide +kernel
theorem d_Engine_init_15 : decode prog_4_method_1_code 15 = .ok (.iconst 0, 1) := by decide +kernel
theorem d_Engine_init_16 : decode prog_4_method_1_code 16 = .ok (.putfield 18, 3) := by decide +kernel
theorem k_2_30 : Cond.fieldLink "PageScribe$Engine" 18 "PageScribe$Engine" "latestFault" "I" ∈ gw := gw_of (tb_2 (List.mem_of_getElem? (i := 30) (by decide +kernel))) (by decide +kernel)
theorem d_Engine_init_19 : decode prog_4_method_1_code 19 = .ok (.aload_n 0, 1) := by decide +kernel
theorem d_Engine_init_20 : decode prog_4_method_1_code 20 = .ok (.iconst 0, 1) := by decide +kernel
theorem d_Engine_init_21 : decode prog_4_method_1_code 21 = .ok (.putfield 21, 3) := by decide +kernel
theorem k_2_32 : Cond.fieldLink "PageScribe$Engine" 21 "PageScribe$Engine" "underWay" "I" ∈ gw := gw_of (tb_2 (List.mem_of_getElem? (i := 32) (by decide +kernel))) (by decide +kernel)
theorem d_Engine_init_24 : decode prog_4_method_1_code 24 = .ok (.aload_n 0, 1) := by decide +kernel
theorem d_Engine_init_25 : decode prog_4_method_1_code 25 = .ok (.iconst 0, 1) := by decide +kernel
theorem d_Engine_init_26 : decode prog_4_method_1_code 26 = .ok (.putfield 24, 3) := by decide +kernel
theorem k_2_33 : Cond.fieldLink "PageScribe$Engine" 24 "PageScribe$Engine" "reach" "I" ∈ gw := gw_of (tb_2 (List.mem_of_getElem? (i := 33) (by decide +kernel))) (by decide +kernel)
theorem d_Engine_init_29 : decode prog_4_method_1_code 29 = .ok (.aload_n 0, 1) := by decide +kernel
theorem d_Engine_init_30 : decode prog_4_method_1_code 30 = .ok (.iconst 0, 1) := by decide +kernel
theorem d_Engine_init_31 : decode prog_4_method_1_code 31 = .ok (.putfield 27, 3) := by decide +kernel
theorem k_2_34 : Cond.fieldLink "PageScribe$Engine" 27 "PageScribe$Engine" "loops" "I" ∈ gw := gw_of (tb_2 (List.mem_of_getElem? (i := 34) (by decide +kernel))) (by decide +kernel)
theorem d_Engine_init_34 : decode prog_4_method_1_code 34 = .ok (.aload_n 0, 1) := by decide +kernel
theorem d_Engine_init_35 : decode prog_4_method_1_code 35 = .ok (.aload_n 1, 1) := by decide +kernel
theorem d_Engine_init_36 : decode prog_4_method_1_code 36 = .ok (.putfield 30, 3) := by decide +kernel
theorem k_2_22 : Cond.fieldLink "PageScribe$Engine" 30 "PageScribe$Engine" "stack" "LPageScribe$Stack;" ∈ gw := gw_of (tb_2 (List.mem_of_getElem? (i := 22) (by decide +kernel))) (by decide +kernel)
theorem d_Engine_init_39 : decode prog_4_method_1_code 39 = .ok (.aload_n 0, 1) := by decide +kernel
theorem d_Engine_init_40 : decode prog_4_method_1_code 40 = .ok (.aload_n 2, 1) := by decide +kernel
theorem d_Engine_init_41 : decode prog_4_method_1_code 41 = .ok (.putfield 34, 3) := by decide +kernel
theorem k_2_23 : Cond.fieldLink "PageScribe$Engine" 34 "PageScribe$Engine" "memory" "LPageScribe$Memory;" ∈ gw := gw_of (tb_2 (List.mem_of_getElem? (i := 23) (by decide +kernel))) (by decide +kernel)
theorem d_Engine_init_44 : decode prog_4_method_1_code 44 = .ok (.aload_n 0, 1) := by decide +kernel
theorem d_Engine_init_45 : decode prog_4_method_1_code 45 = .ok (.aload_n 3, 1) := by decide +kernel
theorem d_Engine_init_46 : decode prog_4_method_1_code 46 = .ok (.putfield 38, 3) := by decide +kernel
theorem k_2_24 : Cond.fieldLink "PageScribe$Engine" 38 "PageScribe$Engine" "canvas" "LPageScribe$Canvas;" ∈ gw := gw_of (tb_2 (List.mem_of_getElem? (i := 24) (by decide +kernel))) (by decide +kernel)
theorem d_Engine_init_49 : decode prog_4_method_1_code 49 = .ok (.aload_n 0, 1) := by decide +kernel
theorem d_Engine_init_50 : decode prog_4_method_1_code 50 = .ok (.new 42, 3) := by decide +kernel
theorem k_2_2 : Cond.classLink "PageScribe$Engine" 42 "PageScribe$Sums" ∈ gw := gw_of (tb_2 (List.mem_of_getElem? (i := 2) (by decide +kernel))) (by decide +kernel)
theorem k_2_3 : Cond.instantiable "PageScribe$Sums" 1 ∈ gw := gw_of (tb_2 (List.mem_of_getElem? (i := 3) (by decide +kernel))) (by decide +kernel)
theorem k_1_10 : Cond.initialized "PageScribe$Sums" ∈ gw := gw_of (tb_1 (List.mem_of_getElem? (i := 10) (by decide +kernel))) (by decide +kernel)
theorem d_Engine_init_53 : decode prog_4_method_1_code 53 = .ok (.dup, 1) := by decide +kernel
theorem d_Engine_init_54 : decode prog_4_method_1_code 54 = .ok (.aload_n 1, 1) := by decide +kernel
theorem d_Engine_init_55 : decode prog_4_method_1_code 55 = .ok (.invokespecial 44, 3) := by decide +kernel
theorem k_2_6 : Cond.code ⟨"PageScribe$Sums", "<init>", "(LPageScribe$Stack;)V"⟩ prog_11_method_1_code 2 none ∈ gw := gw_of (tb_2 (List.mem_of_getElem? (i := 6) (by decide +kernel))) (by decide +kernel)
theorem k_2_4 : Cond.methodLink "PageScribe$Engine" 44 ⟨"PageScribe$Sums", "<init>", "(LPageScribe$Stack;)V"⟩ ∈ gw := gw_of (tb_2 (List.mem_of_getElem? (i := 4) (by decide +kernel))) (by decide +kernel)
theorem k_2_5 : Cond.instanceMethod ⟨"PageScribe$Sums", "<init>", "(LPageScribe$Stack;)V"⟩ ∈ gw := gw_of (tb_2 (List.mem_of_getElem? (i := 5) (by decide +kernel))) (by decide +kernel)
theorem d_Engine_init_58 : decode prog_4_method_1_code 58 = .ok (.putfield 47, 3) := by decide +kernel
theorem k_2_25 : Cond.fieldLink "PageScribe$Engine" 47 "PageScribe$Engine" "sums" "LPageScribe$Sums;" ∈ gw := gw_of (tb_2 (List.mem_of_getElem? (i := 25) (by decide +kernel))) (by decide +kernel)
theorem d_Engine_init_61 : decode prog_4_method_1_code 61 = .ok (.aload_n 0, 1) := by decide +kernel
theorem d_Engine_init_62 : decode prog_4_method_1_code 62 = .ok (.new 51, 3) := by decide +kernel
theorem k_2_12 : Cond.classLink "PageScribe$Engine" 51 "PageScribe$Truths" ∈ gw := gw_of (tb_2 (List.mem_of_getElem? (i := 12) (by decide +kernel))) (by decide +kernel)
theorem k_2_13 : Cond.instantiable "PageScribe$Truths" 1 ∈ gw := gw_of (tb_2 (List.mem_of_getElem? (i := 13) (by decide +kernel))) (by decide +kernel)
theorem k_1_11 : Cond.initialized "PageScribe$Truths" ∈ gw := gw_of (tb_1 (List.mem_of_getElem? (i := 11) (by decide +kernel))) (by decide +kernel)
theorem d_Engine_init_65 : decode prog_4_method_1_code 65 = .ok (.dup, 1) := by decide +kernel
theorem d_Engine_init_66 : decode prog_4_method_1_code 66 = .ok (.aload_n 1, 1) := by decide +kernel
theorem d_Engine_init_67 : decode prog_4_method_1_code 67 = .ok (.invokespecial 53, 3) := by decide +kernel
theorem k_2_16 : Cond.code ⟨"PageScribe$Truths", "<init>", "(LPageScribe$Stack;)V"⟩ prog_12_method_1_code 2 none ∈ gw := gw_of (tb_2 (List.mem_of_getElem? (i := 16) (by decide +kernel))) (by decide +kernel)
theorem k_2_14 : Cond.methodLink "PageScribe$Engine" 53 ⟨"PageScribe$Truths", "<init>", "(LPageScribe$Stack;)V"⟩ ∈ gw := gw_of (tb_2 (List.mem_of_getElem? (i := 14) (by decide +kernel))) (by decide +kernel)
theorem k_2_15 : Cond.instanceMethod ⟨"PageScribe$Truths", "<init>", "(LPageScribe$Stack;)V"⟩ ∈ gw := gw_of (tb_2 (List.mem_of_getElem? (i := 15) (by decide +kernel))) (by decide +kernel)
theorem d_Engine_init_70 : decode prog_4_method_1_code 70 = .ok (.putfield 54, 3) := by decide +kernel
theorem k_2_26 : Cond.fieldLink "PageScribe$Engine" 54 "PageScribe$Engine" "truths" "LPageScribe$Truths;" ∈ gw := gw_of (tb_2 (List.mem_of_getElem? (i := 26) (by decide +kernel))) (by decide +kernel)
theorem d_Engine_init_73 : decode prog_4_method_1_code 73 = .ok (.return_, 1) := by decide +kernel
set_option maxHeartbeats 4000000 in
set_option maxRecDepth 100000 in
theorem c_Engine_init (l : Launch) (D : va_G) (T : Nat → ClassId) (h0 : Nat) (h1 : Nat) (h2 : Nat) (h3 : Nat) (sz : Nat) : Met l ⟨"PageScribe$Engine", "<init>", "(LPageScribe$Stack;LPageScribe$Memory;LPageScribe$Canvas;)V"⟩ (wy ⟨"PageScribe$Engine", "<init>", "(LPageScribe$Stack;LPageScribe$Memory;LPageScribe$Canvas;)V"⟩ prog_4_method_1_code 4 none) ({ frames := 2, cells := 2, slots := 2, locals := 140 }) (va_Pc [.ref h0, .ref h1, .ref h2, .ref h3] (Pw D T [(h0, .inr (7, [.null, .null, .null, .null, .null, .int 0, .int 0, .int 0, .int 0, .int 0, .int 0]))] sz E0)) (va_Qv (fun (u : Nat × Nat) => True) (fun u t => Bw D T (va_A [(h0, .inr (7, [.null, .null, .null, .null, .null, .int 0, .int 0, .int 0, .int 0, .int 0, .int 0]))] sz) [(h0, .inr (7, [.ref h1, .ref h2, .ref h3, .ref u.1, .ref u.2, .int 0, .int 0, .int 0, .int 0, .int 0, .int 0]))] t) (va_A [(h0, .inr (7, [.null, .null, .null, .null, .null, .int 0, .int 0, .int 0, .int 0, .int 0, .int 0]))] sz)) 2 2 (va_A [(h0, .inr (7, [.null, .null, .null, .null, .null, .int 0, .int 0, .int 0, .int 0, .int 0, .int 0]))] sz) := by
  refine j_met (y := ⟨"PageScribe$Engine", "<init>", "(LPageScribe$Stack;LPageScribe$Memory;LPageScribe$Canvas;)V"⟩) (b := prog_4_method_1_code) (n := 4) (ret := none) (av := [.ref h0, .ref h1, .ref h2, .ref h3]) (Qc := fun A => va_Qv (fun (u : Nat × Nat) => True) (fun u t => Bw D T A [(h0, .inr (7, [.ref h1, .ref h2, .ref h3, .ref u.1, .ref u.2, .int 0, .int 0, .int 0, .int 0, .int 0, .int 0]))] t) A) (by decide +kernel) (Nat.le_of_ble_eq_true rfl) (fun p e s m args below meth c A ls F hr hlocks hnm hK hP hD hS hA hN hE hl => ?_)
  obtain ⟨hx, hb, hml, hown, hts⟩ := id F
  have hin := hnm
  have hl : lv_has ls 4 [(0, .ref h0), (1, .ref h1), (2, .ref h2), (3, .ref h3)] := hl
  refine lv_aload_n hx hb d_Engine_init_0 rfl (lv_at hl 0 rfl) ?_
  refine j_obj F hl.1 k_2_1 k_1_35 k_1_36 d_Engine_init_1 (Nat.le_of_ble_eq_true rfl) (Nat.le_of_ble_eq_true rfl) ?_
  refine lv_aload_n hx hb d_Engine_init_4 rfl (lv_at hl 0 rfl) ?_
  refine lv_iconst (v := 0) hx hb d_Engine_init_5 (by decide) ?_
  refine va_put (D := D) (ci := 7) (v := .int 0) (ty := .int) (C := "PageScribe$Engine") (T := F_Engine) (N := 11) hx hb hts i_Engine t_Engine t_Engine_ok n_Engine hown hK hP hD hS 0 rfl rfl 5 (by decide) (hts _ k_2_27) (fun _ h9 => h9) rfl (by decide +kernel) rfl rfl (Nat.le_of_ble_eq_true rfl) d_Engine_init_6 (fun H locs hP hD hS => ?_)
  have hP : va_P D classes [(h0, .inr (7, [.null, .null, .null, .null, .null, .int 0, .int 0, .int 0, .int 0, .int 0, .int 0]))] H := hP
  have hD : va_D A [(h0, .inr (7, [.null, .null, .null, .null, .null, .int 0, .int 0, .int 0, .int 0, .int 0, .int 0]))] := hD
  refine lv_aload_n hx hb d_Engine_init_9 rfl (lv_at hl 0 rfl) ?_
  refine lv_iconst (v := 0) hx hb d_Engine_init_10 (by decide) ?_
  refine va_put (D := D) (ci := 7) (v := .int 0) (ty := .int) (C := "PageScribe$Engine") (T := F_Engine) (N := 11) hx hb hts i_Engine t_Engine t_Engine_ok n_Engine hown hK hP hD hS 0 rfl rfl 6 (by decide) (hts _ k_2_28) (fun _ h9 => h9) rfl (by decide +kernel) rfl rfl (Nat.le_of_ble_eq_true rfl) d_Engine_init_11 (fun H locs hP hD hS => ?_)
  have hP : va_P D classes [(h0, .inr (7, [.null, .null, .null, .null, .null, .int 0, .int 0, .int 0, .int 0, .int 0, .int 0]))] H := hP
  have hD : va_D A [(h0, .inr (7, [.null, .null, .null, .null, .null, .int 0, .int 0, .int 0, .int 0, .int 0, .int 0]))] := hD
  refine lv_aload_n hx hb d_Engine_init_14 rfl (lv_at hl 0 rfl) ?_
  refine lv_iconst (v := 0) hx hb d_Engine_init_15 (by decide) ?_
  refine va_put (D := D) (ci := 7) (v := .int 0) (ty := .int) (C := "PageScribe$Engine") (T := F_Engine) (N := 11) hx hb hts i_Engine t_Engine t_Engine_ok n_Engine hown hK hP hD hS 0 rfl rfl 7 (by decide) (hts _ k_2_30) (fun _ h9 => h9) rfl (by decide +kernel) rfl rfl (Nat.le_of_ble_eq_true rfl) d_Engine_init_16 (fun H locs hP hD hS => ?_)
  have hP : va_P D classes [(h0, .inr (7, [.null, .null, .null, .null, .null, .int 0, .int 0, .int 0, .int 0, .int 0, .int 0]))] H := hP
  have hD : va_D A [(h0, .inr (7, [.null, .null, .null, .null, .null, .int 0, .int 0, .int 0, .int 0, .int 0, .int 0]))] := hD
  refine lv_aload_n hx hb d_Engine_init_19 rfl (lv_at hl 0 rfl) ?_
  refine lv_iconst (v := 0) hx hb d_Engine_init_20 (by decide) ?_
  refine va_put (D := D) (ci := 7) (v := .int 0) (ty := .int) (C := "PageScribe$Engine") (T := F_Engine) (N := 11) hx hb hts i_Engine t_Engine t_Engine_ok n_Engine hown hK hP hD hS 0 rfl rfl 8 (by decide) (hts _ k_2_32) (fun _ h9 => h9) rfl (by decide +kernel) rfl rfl (Nat.le_of_ble_eq_true rfl) d_Engine_init_21 (fun H locs hP hD hS => ?_)
  have hP : va_P D classes [(h0, .inr (7, [.null, .null, .null, .null, .null, .int 0, .int 0, .int 0, .int 0, .int 0, .int 0]))] H := hP
  have hD : va_D A [(h0, .inr (7, [.null, .null, .null, .null, .null, .int 0, .int 0, .int 0, .int 0, .int 0, .int 0]))] := hD
  refine lv_aload_n hx hb d_Engine_init_24 rfl (lv_at hl 0 rfl) ?_
  refine lv_iconst (v := 0) hx hb d_Engine_init_25 (by decide) ?_
  refine va_put (D := D) (ci := 7) (v := .int 0) (ty := .int) (C := "PageScribe$Engine") (T := F_Engine) (N := 11) hx hb hts i_Engine t_Engine t_Engine_ok n_Engine hown hK hP hD hS 0 rfl rfl 9 (by decide) (hts _ k_2_33) (fun _ h9 => h9) rfl (by decide +kernel) rfl rfl (Nat.le_of_ble_eq_true rfl) d_Engine_init_26 (fun H locs hP hD hS => ?_)
  have hP : va_P D classes [(h0, .inr (7, [.null, .null, .null, .null, .null, .int 0, .int 0, .int 0, .int 0, .int 0, .int 0]))] H := hP
  have hD : va_D A [(h0, .inr (7, [.null, .null, .null, .null, .null, .int 0, .int 0, .int 0, .int 0, .int 0, .int 0]))] := hD
  refine lv_aload_n hx hb d_Engine_init_29 rfl (lv_at hl 0 rfl) ?_
  refine lv_iconst (v := 0) hx hb d_Engine_init_30 (by decide) ?_
  refine va_put (D := D) (ci := 7) (v := .int 0) (ty := .int) (C := "PageScribe$Engine") (T := F_Engine) (N := 11) hx hb hts i_Engine t_Engine t_Engine_ok n_Engine hown hK hP hD hS 0 rfl rfl 10 (by decide) (hts _ k_2_34) (fun _ h9 => h9) rfl (by decide +kernel) rfl rfl (Nat.le_of_ble_eq_true rfl) d_Engine_init_31 (fun H locs hP hD hS => ?_)
  have hP : va_P D classes [(h0, .inr (7, [.null, .null, .null, .null, .null, .int 0, .int 0, .int 0, .int 0, .int 0, .int 0]))] H := hP
  have hD : va_D A [(h0, .inr (7, [.null, .null, .null, .null, .null, .int 0, .int 0, .int 0, .int 0, .int 0, .int 0]))] := hD
  refine lv_aload_n hx hb d_Engine_init_34 rfl (lv_at hl 0 rfl) ?_
  refine lv_aload_n hx hb d_Engine_init_35 rfl (lv_at hl 1 rfl) ?_
  refine va_putF (D := D) (ci := 7) (v := .ref h1) (ty := .object "PageScribe$Stack") (C := "PageScribe$Engine") (T := F_Engine) (N := 11) hx hb hts i_Engine t_Engine t_Engine_ok n_Engine hown hK hP hD hS 0 rfl rfl 0 (by decide) (hts _ k_2_22) (fun _ h9 => h9) rfl hin rfl (by decide +kernel) rfl rfl (Nat.le_of_ble_eq_true rfl) d_Engine_init_36 (fun H locs hP hD hS => ?_)
  have hP : va_P D classes [(h0, .inr (7, [.ref h1, .null, .null, .null, .null, .int 0, .int 0, .int 0, .int 0, .int 0, .int 0]))] H := hP
  have hD : va_D A [(h0, .inr (7, [.ref h1, .null, .null, .null, .null, .int 0, .int 0, .int 0, .int 0, .int 0, .int 0]))] := hD
  refine lv_aload_n hx hb d_Engine_init_39 rfl (lv_at hl 0 rfl) ?_
  refine lv_aload_n hx hb d_Engine_init_40 rfl (lv_at hl 2 rfl) ?_
  refine va_putF (D := D) (ci := 7) (v := .ref h2) (ty := .object "PageScribe$Memory") (C := "PageScribe$Engine") (T := F_Engine) (N := 11) hx hb hts i_Engine t_Engine t_Engine_ok n_Engine hown hK hP hD hS 0 rfl rfl 1 (by decide) (hts _ k_2_23) (fun _ h9 => h9) rfl hin rfl (by decide +kernel) rfl rfl (Nat.le_of_ble_eq_true rfl) d_Engine_init_41 (fun H locs hP hD hS => ?_)
  have hP : va_P D classes [(h0, .inr (7, [.ref h1, .ref h2, .null, .null, .null, .int 0, .int 0, .int 0, .int 0, .int 0, .int 0]))] H := hP
  have hD : va_D A [(h0, .inr (7, [.ref h1, .ref h2, .null, .null, .null, .int 0, .int 0, .int 0, .int 0, .int 0, .int 0]))] := hD
  refine lv_aload_n hx hb d_Engine_init_44 rfl (lv_at hl 0 rfl) ?_
  refine lv_aload_n hx hb d_Engine_init_45 rfl (lv_at hl 3 rfl) ?_
  refine va_putF (D := D) (ci := 7) (v := .ref h3) (ty := .object "PageScribe$Canvas") (C := "PageScribe$Engine") (T := F_Engine) (N := 11) hx hb hts i_Engine t_Engine t_Engine_ok n_Engine hown hK hP hD hS 0 rfl rfl 2 (by decide) (hts _ k_2_24) (fun _ h9 => h9) rfl hin rfl (by decide +kernel) rfl rfl (Nat.le_of_ble_eq_true rfl) d_Engine_init_46 (fun H locs hP hD hS => ?_)
  have hP : va_P D classes [(h0, .inr (7, [.ref h1, .ref h2, .ref h3, .null, .null, .int 0, .int 0, .int 0, .int 0, .int 0, .int 0]))] H := hP
  have hD : va_D A [(h0, .inr (7, [.ref h1, .ref h2, .ref h3, .null, .null, .int 0, .int 0, .int 0, .int 0, .int 0, .int 0]))] := hD
  refine lv_aload_n hx hb d_Engine_init_49 rfl (lv_at hl 0 rfl) ?_
  refine va_new (ci := 8) (fs := [.null]) (C := "PageScribe$Sums") (T := F_Sums) (N := 1) hx hb hts i_Sums t_Sums t_Sums_ok hown (hts _ k_2_2) (hts _ k_2_3) (hts _ k_1_10) hK hP hD hS hA rfl z_Sums (Nat.le_of_ble_eq_true rfl) (Nat.le_of_ble_eq_true rfl) d_Engine_init_50 (fun q1 H hP hD hS => ?_)
  have hP : va_P D classes [(h0, .inr (7, [.ref h1, .ref h2, .ref h3, .null, .null, .int 0, .int 0, .int 0, .int 0, .int 0, .int 0])), (q1, .inr (8, [.null]))] H := hP
  have hD : va_D A [(h0, .inr (7, [.ref h1, .ref h2, .ref h3, .null, .null, .int 0, .int 0, .int 0, .int 0, .int 0, .int 0])), (q1, .inr (8, [.null]))] := hD
  refine lv_dup hx hb d_Engine_init_53 rfl ?_
  refine lv_aload_n hx hb d_Engine_init_54 rfl (lv_at hl 1 rfl) ?_
  refine j_cv (wc := [(q1, .inr (8, [.null]))]) (wr := [(h0, .inr (7, [.ref h1, .ref h2, .ref h3, .null, .null, .int 0, .int 0, .int 0, .int 0, .int 0, .int 0]))]) hK hP hD hS hA [1] [0] rfl rfl (by decide) (by decide) (va_runI (As := [.ref h1]) (rest := [.ref q1, .ref h0]) F (c_Sums_init l D T q1 h1 H.size) (j_cI (k := 1) hts k_2_6 k_1_10 k_2_4 k_2_5 rfl (by decide +kernel) ⟨Nat.le_of_ble_eq_true rfl, Nat.le_of_ble_eq_true rfl⟩) (j_preS hK hP hD [1] rfl (by decide) (fun _ _ _ _ h => h) (fun _ _ _ => trivial)) rfl rfl hl.1 rfl (lv_room (Nat.le_of_ble_eq_true rfl)) d_Engine_init_55 ⟨Nat.le_of_ble_eq_true rfl, Nat.le_of_ble_eq_true rfl⟩) (fun u1 H locs hw hP hD hS => ?_)
  have hP : va_P D classes [(h0, .inr (7, [.ref h1, .ref h2, .ref h3, .null, .null, .int 0, .int 0, .int 0, .int 0, .int 0, .int 0])), (q1, .inr (8, [.ref h1]))] H := hP
  have hD : va_D A [(h0, .inr (7, [.ref h1, .ref h2, .ref h3, .null, .null, .int 0, .int 0, .int 0, .int 0, .int 0, .int 0])), (q1, .inr (8, [.ref h1]))] := hD
  refine va_putF (D := D) (ci := 7) (v := .ref q1) (ty := .object "PageScribe$Sums") (C := "PageScribe$Engine") (T := F_Engine) (N := 11) hx hb hts i_Engine t_Engine t_Engine_ok n_Engine hown hK hP hD hS 0 rfl rfl 3 (by decide) (hts _ k_2_25) (fun _ h9 => h9) rfl hin rfl (by decide +kernel) rfl rfl (Nat.le_of_ble_eq_true rfl) d_Engine_init_58 (fun H locs hP hD hS => ?_)
  have hP : va_P D classes [(h0, .inr (7, [.ref h1, .ref h2, .ref h3, .ref q1, .null, .int 0, .int 0, .int 0, .int 0, .int 0, .int 0])), (q1, .inr (8, [.ref h1]))] H := hP
  have hD : va_D A [(h0, .inr (7, [.ref h1, .ref h2, .ref h3, .ref q1, .null, .int 0, .int 0, .int 0, .int 0, .int 0, .int 0])), (q1, .inr (8, [.ref h1]))] := hD
  refine lv_aload_n hx hb d_Engine_init_61 rfl (lv_at hl 0 rfl) ?_
  refine va_new (ci := 9) (fs := [.null]) (C := "PageScribe$Truths") (T := F_Truths) (N := 1) hx hb hts i_Truths t_Truths t_Truths_ok hown (hts _ k_2_12) (hts _ k_2_13) (hts _ k_1_11) hK hP hD hS hA rfl z_Truths (Nat.le_of_ble_eq_true rfl) (Nat.le_of_ble_eq_true rfl) d_Engine_init_62 (fun q2 H hP hD hS => ?_)
  have hP : va_P D classes [(h0, .inr (7, [.ref h1, .ref h2, .ref h3, .ref q1, .null, .int 0, .int 0, .int 0, .int 0, .int 0, .int 0])), (q1, .inr (8, [.ref h1])), (q2, .inr (9, [.null]))] H := hP
  have hD : va_D A [(h0, .inr (7, [.ref h1, .ref h2, .ref h3, .ref q1, .null, .int 0, .int 0, .int 0, .int 0, .int 0, .int 0])), (q1, .inr (8, [.ref h1])), (q2, .inr (9, [.null]))] := hD
  refine lv_dup hx hb d_Engine_init_65 rfl ?_
  refine lv_aload_n hx hb d_Engine_init_66 rfl (lv_at hl 1 rfl) ?_
  refine j_cv (wc := [(q2, .inr (9, [.null]))]) (wr := [(h0, .inr (7, [.ref h1, .ref h2, .ref h3, .ref q1, .null, .int 0, .int 0, .int 0, .int 0, .int 0, .int 0])), (q1, .inr (8, [.ref h1]))]) hK hP hD hS hA [2] [0, 1] rfl rfl (by decide) (by decide) (va_runI (As := [.ref h1]) (rest := [.ref q2, .ref h0]) F (c_Truths_init l D T q2 h1 H.size) (j_cI (k := 1) hts k_2_16 k_1_11 k_2_14 k_2_15 rfl (by decide +kernel) ⟨Nat.le_of_ble_eq_true rfl, Nat.le_of_ble_eq_true rfl⟩) (j_preS hK hP hD [2] rfl (by decide) (fun _ _ _ _ h => h) (fun _ _ _ => trivial)) rfl rfl hl.1 rfl (lv_room (Nat.le_of_ble_eq_true rfl)) d_Engine_init_67 ⟨Nat.le_of_ble_eq_true rfl, Nat.le_of_ble_eq_true rfl⟩) (fun u2 H locs hw hP hD hS => ?_)
  have hP : va_P D classes [(h0, .inr (7, [.ref h1, .ref h2, .ref h3, .ref q1, .null, .int 0, .int 0, .int 0, .int 0, .int 0, .int 0])), (q1, .inr (8, [.ref h1])), (q2, .inr (9, [.ref h1]))] H := hP
  have hD : va_D A [(h0, .inr (7, [.ref h1, .ref h2, .ref h3, .ref q1, .null, .int 0, .int 0, .int 0, .int 0, .int 0, .int 0])), (q1, .inr (8, [.ref h1])), (q2, .inr (9, [.ref h1]))] := hD
  refine va_putF (D := D) (ci := 7) (v := .ref q2) (ty := .object "PageScribe$Truths") (C := "PageScribe$Engine") (T := F_Engine) (N := 11) hx hb hts i_Engine t_Engine t_Engine_ok n_Engine hown hK hP hD hS 0 rfl rfl 4 (by decide) (hts _ k_2_26) (fun _ h9 => h9) rfl hin rfl (by decide +kernel) rfl rfl (Nat.le_of_ble_eq_true rfl) d_Engine_init_70 (fun H locs hP hD hS => ?_)
  have hP : va_P D classes [(h0, .inr (7, [.ref h1, .ref h2, .ref h3, .ref q1, .ref q2, .int 0, .int 0, .int 0, .int 0, .int 0, .int 0])), (q1, .inr (8, [.ref h1])), (q2, .inr (9, [.ref h1]))] H := hP
  have hD : va_D A [(h0, .inr (7, [.ref h1, .ref h2, .ref h3, .ref q1, .ref q2, .int 0, .int 0, .int 0, .int 0, .int 0, .int 0])), (q1, .inr (8, [.ref h1])), (q2, .inr (9, [.ref h1]))] := hD
  have hP9 := hP.sub (ws' := [(h0, .inr (7, [.ref h1, .ref h2, .ref h3, .ref q1, .ref q2, .int 0, .int 0, .int 0, .int 0, .int 0, .int 0]))]) [0] rfl
  have hD9 := hD.sub (ws' := [(h0, .inr (7, [.ref h1, .ref h2, .ref h3, .ref q1, .ref q2, .int 0, .int 0, .int 0, .int 0, .int 0, .int 0]))]) [0] (by decide) rfl
  refine W.widen (k := 2) (n := 2) (Nat.le_of_ble_eq_true rfl) (Nat.le_of_ble_eq_true rfl) ?_
  exact j_vret F hr hlocks hK hS (q1, q2) trivial hP9 hD9 d_Engine_init_73
/-- so many columns (rows) as a page has -/
def colOf (p : Int32) : Int32 := if p < 1 ∨ 24 < p then 16 else p
def rowOf (p : Int32) : Int32 := if p < 1 ∨ 16 < p then 12 else p
theorem colOf_in (p : Int32) : ∃ C : Nat, colOf p = nI C ∧ 1 ≤ C ∧ C ≤ 24 := by
  unfold colOf
  split
  · exact ⟨16, by decide +kernel, by omega, by omega⟩
  · rename_i h
    have h1 : ¬ p < 1 := fun q => h (Or.inl q)
    have h2 : ¬ (24 : Int32) < p := fun q => h (Or.inr q)
    have h0 : ¬ p < 0 := fun q => h1 (Int32.lt_trans q (by decide +kernel))
    obtain ⟨C, hC, rfl⟩ := nI_of h0
    refine ⟨C, rfl, ?_, ?_⟩
    · rcases Nat.eq_zero_or_pos C with z | z
      · subst z; exact absurd (show nI 0 < 1 by decide +kernel) h1
      · exact z
    · rcases Nat.lt_or_ge 24 C with z | z
      · exact absurd (show nI 24 < nI C from nI_lt z hC) h2
      · exact z
theorem rowOf_in (p : Int32) : ∃ C : Nat, rowOf p = nI C ∧ 1 ≤ C ∧ C ≤ 16 := by
  unfold rowOf
  split
  · exact ⟨12, by decide +kernel, by omega, by omega⟩
  · rename_i h
    have h1 : ¬ p < 1 := fun q => h (Or.inl q)
    have h2 : ¬ (16 : Int32) < p := fun q => h (Or.inr q)
    have h0 : ¬ p < 0 := fun q => h1 (Int32.lt_trans q (by decide +kernel))
    obtain ⟨C, hC, rfl⟩ := nI_of h0
    refine ⟨C, rfl, ?_, ?_⟩
    · rcases Nat.eq_zero_or_pos C with z | z
      · subst z; exact absurd (show nI 0 < 1 by decide +kernel) h1
      · exact z
    · rcases Nat.lt_or_ge 16 C with z | z
      · exact absurd (show nI 16 < nI C from nI_lt z hC) h2
      · exact z
theorem d_Canvas_init_0 : decode prog_3_method_1_code 0 = .ok (.aload_n 0, 1) := by decide +kernel
theorem d_Canvas_init_1 : decode prog_3_method_1_code 1 = .ok (.invokespecial 3, 3) := by decide +kernel
theorem k_1_206 : Cond.methodLink "PageScribe$Canvas" 3 ⟨"java/lang/Object", "<init>", "()V"⟩ ∈ gw := gw_of (tb_1 (List.mem_of_getElem? (i := 206) (by decide +kernel))) (by decide +kernel)
theorem d_Canvas_init_4 : decode prog_3_method_1_code 4 = .ok (.aload_n 0, 1) := by decide +kernel
theorem d_Canvas_init_5 : decode prog_3_method_1_code 5 = .ok (.fconst 1, 1) := by decide +kernel
theorem d_Canvas_init_6 : decode prog_3_method_1_code 6 = .ok (.putfield 9, 3) := by decide +kernel
theorem k_1_211 : Cond.fieldLink "PageScribe$Canvas" 9 "PageScribe$Canvas" "gray" "F" ∈ gw := gw_of (tb_1 (List.mem_of_getElem? (i := 211) (by decide +kernel))) (by decide +kernel)
theorem d_Canvas_init_9 : decode prog_3_method_1_code 9 = .ok (.aload_n 0, 1) := by decide +kernel
theorem d_Canvas_init_10 : decode prog_3_method_1_code 10 = .ok (.bipush 30, 2) := by decide +kernel
theorem d_Canvas_init_12 : decode prog_3_method_1_code 12 = .ok (.newarray .double, 2) := by decide +kernel
theorem d_Canvas_init_14 : decode prog_3_method_1_code 14 = .ok (.putfield 15, 3) := by decide +kernel
theorem k_1_212 : Cond.fieldLink "PageScribe$Canvas" 15 "PageScribe$Canvas" "across" "[D" ∈ gw := gw_of (tb_1 (List.mem_of_getElem? (i := 212) (by decide +kernel))) (by decide +kernel)
theorem d_Canvas_init_17 : decode prog_3_method_1_code 17 = .ok (.aload_n 0, 1) := by decide +kernel
theorem d_Canvas_init_18 : decode prog_3_method_1_code 18 = .ok (.bipush 30, 2) := by decide +kernel
theorem d_Canvas_init_20 : decode prog_3_method_1_code 20 = .ok (.newarray .double, 2) := by decide +kernel
theorem d_Canvas_init_22 : decode prog_3_method_1_code 22 = .ok (.putfield 19, 3) := by decide +kernel
theorem k_1_213 : Cond.fieldLink "PageScribe$Canvas" 19 "PageScribe$Canvas" "along" "[D" ∈ gw := gw_of (tb_1 (List.mem_of_getElem? (i := 213) (by decide +kernel))) (by decide +kernel)
theorem d_Canvas_init_25 : decode prog_3_method_1_code 25 = .ok (.aload_n 0, 1) := by decide +kernel
theorem d_Canvas_init_26 : decode prog_3_method_1_code 26 = .ok (.bipush 30, 2) := by decide +kernel
theorem d_Canvas_init_28 : decode prog_3_method_1_code 28 = .ok (.newarray .int, 2) := by decide +kernel
theorem d_Canvas_init_30 : decode prog_3_method_1_code 30 = .ok (.putfield 22, 3) := by decide +kernel
theorem k_1_214 : Cond.fieldLink "PageScribe$Canvas" 22 "PageScribe$Canvas" "begins" "[I" ∈ gw := gw_of (tb_1 (List.mem_of_getElem? (i := 214) (by decide +kernel))) (by decide +kernel)
theorem d_Canvas_init_33 : decode prog_3_method_1_code 33 = .ok (.aload_n 0, 1) := by decide +kernel
theorem d_Canvas_init_34 : decode prog_3_method_1_code 34 = .ok (.iconst 0, 1) := by decide +kernel
theorem d_Canvas_init_35 : decode prog_3_method_1_code 35 = .ok (.putfield 26, 3) := by decide +kernel
theorem k_1_215 : Cond.fieldLink "PageScribe$Canvas" 26 "PageScribe$Canvas" "points" "I" ∈ gw := gw_of (tb_1 (List.mem_of_getElem? (i := 215) (by decide +kernel))) (by decide +kernel)
theorem d_Canvas_init_38 : decode prog_3_method_1_code 38 = .ok (.aload_n 0, 1) := by decide +kernel
theorem d_Canvas_init_39 : decode prog_3_method_1_code 39 = .ok (.aload_n 1, 1) := by decide +kernel
theorem d_Canvas_init_40 : decode prog_3_method_1_code 40 = .ok (.putfield 30, 3) := by decide +kernel
theorem k_1_207 : Cond.fieldLink "PageScribe$Canvas" 30 "PageScribe$Canvas" "stack" "LPageScribe$Stack;" ∈ gw := gw_of (tb_1 (List.mem_of_getElem? (i := 207) (by decide +kernel))) (by decide +kernel)
theorem d_Canvas_init_43 : decode prog_3_method_1_code 43 = .ok (.aload_n 0, 1) := by decide +kernel
theorem d_Canvas_init_61 : decode prog_3_method_1_code 61 = .ok (.putfield 34, 3) := by decide +kernel
theorem k_1_208 : Cond.fieldLink "PageScribe$Canvas" 34 "PageScribe$Canvas" "columns" "I" ∈ gw := gw_of (tb_1 (List.mem_of_getElem? (i := 208) (by decide +kernel))) (by decide +kernel)
theorem d_Canvas_init_64 : decode prog_3_method_1_code 64 = .ok (.aload_n 0, 1) := by decide +kernel
theorem d_Canvas_init_82 : decode prog_3_method_1_code 82 = .ok (.putfield 37, 3) := by decide +kernel
theorem k_1_209 : Cond.fieldLink "PageScribe$Canvas" 37 "PageScribe$Canvas" "rows" "I" ∈ gw := gw_of (tb_1 (List.mem_of_getElem? (i := 209) (by decide +kernel))) (by decide +kernel)
theorem d_Canvas_init_85 : decode prog_3_method_1_code 85 = .ok (.aload_n 0, 1) := by decide +kernel
theorem d_Canvas_init_86 : decode prog_3_method_1_code 86 = .ok (.aload_n 0, 1) := by decide +kernel
theorem d_Canvas_init_87 : decode prog_3_method_1_code 87 = .ok (.getfield 34, 3) := by decide +kernel
theorem d_Canvas_init_90 : decode prog_3_method_1_code 90 = .ok (.aload_n 0, 1) := by decide +kernel
theorem d_Canvas_init_91 : decode prog_3_method_1_code 91 = .ok (.getfield 37, 3) := by decide +kernel
theorem d_Canvas_init_94 : decode prog_3_method_1_code 94 = .ok (.imul, 1) := by decide +kernel
theorem d_Canvas_init_95 : decode prog_3_method_1_code 95 = .ok (.newarray .int, 2) := by decide +kernel
theorem d_Canvas_init_97 : decode prog_3_method_1_code 97 = .ok (.putfield 40, 3) := by decide +kernel
theorem k_1_210 : Cond.fieldLink "PageScribe$Canvas" 40 "PageScribe$Canvas" "levels" "[I" ∈ gw := gw_of (tb_1 (List.mem_of_getElem? (i := 210) (by decide +kernel))) (by decide +kernel)
theorem d_Canvas_init_100 : decode prog_3_method_1_code 100 = .ok (.return_, 1) := by decide +kernel
theorem d_Canvas_init_65 : decode prog_3_method_1_code 65 = .ok (.iload_n 3, 1) := by decide +kernel
theorem d_Canvas_init_66 : decode prog_3_method_1_code 66 = .ok (.iconst 1, 1) := by decide +kernel
theorem d_Canvas_init_67 : decode prog_3_method_1_code 67 = .ok (.if_icmp .lt 13, 3) := by decide +kernel
theorem d_Canvas_init_80 : decode prog_3_method_1_code 80 = .ok (.bipush 12, 2) := by decide +kernel
theorem d_Canvas_init_70 : decode prog_3_method_1_code 70 = .ok (.iload_n 3, 1) := by decide +kernel
theorem d_Canvas_init_71 : decode prog_3_method_1_code 71 = .ok (.bipush 16, 2) := by decide +kernel
theorem d_Canvas_init_73 : decode prog_3_method_1_code 73 = .ok (.if_icmp .gt 7, 3) := by decide +kernel
theorem d_Canvas_init_76 : decode prog_3_method_1_code 76 = .ok (.iload_n 3, 1) := by decide +kernel
theorem d_Canvas_init_77 : decode prog_3_method_1_code 77 = .ok (.goto 5, 3) := by decide +kernel
theorem d_Canvas_init_44 : decode prog_3_method_1_code 44 = .ok (.iload_n 2, 1) := by decide +kernel
theorem d_Canvas_init_45 : decode prog_3_method_1_code 45 = .ok (.iconst 1, 1) := by decide +kernel
theorem d_Canvas_init_46 : decode prog_3_method_1_code 46 = .ok (.if_icmp .lt 13, 3) := by decide +kernel
theorem d_Canvas_init_59 : decode prog_3_method_1_code 59 = .ok (.bipush 16, 2) := by decide +kernel
theorem d_Canvas_init_49 : decode prog_3_method_1_code 49 = .ok (.iload_n 2, 1) := by decide +kernel
theorem d_Canvas_init_50 : decode prog_3_method_1_code 50 = .ok (.bipush 24, 2) := by decide +kernel
theorem d_Canvas_init_52 : decode prog_3_method_1_code 52 = .ok (.if_icmp .gt 7, 3) := by decide +kernel
theorem d_Canvas_init_55 : decode prog_3_method_1_code 55 = .ok (.iload_n 2, 1) := by decide +kernel
theorem d_Canvas_init_56 : decode prog_3_method_1_code 56 = .ok (.goto 5, 3) := by decide +kernel
set_option maxHeartbeats 4000000 in
set_option maxRecDepth 100000 in
theorem c_Canvas_init (l : Launch) (D : va_G) (T : Nat → ClassId) (h0 : Nat) (h1 : Nat) (p0 : Int32) (p1 : Int32) (sz : Nat) : Met l ⟨"PageScribe$Canvas", "<init>", "(LPageScribe$Stack;II)V"⟩ (wy ⟨"PageScribe$Canvas", "<init>", "(LPageScribe$Stack;II)V"⟩ prog_3_method_1_code 4 none) ({ frames := 1, cells := 4, slots := 474, locals := 70 }) (va_Pc [.ref h0, .ref h1, .int p0, .int p1] (Pw D T [(h0, .inr (6, [.null, .int 0, .int 0, .null, .float 0, .null, .null, .null, .int 0]))] sz E0)) (va_Qv (fun (u : Nat × Nat × Nat × Nat × Nat × Nat) => nI u.1 = colOf p0 ∧ nI u.2.1 = rowOf p1 ∧ u.1 ≤ 24 ∧ u.2.1 ≤ 16) (fun u t => Bw D T (va_A [(h0, .inr (6, [.null, .int 0, .int 0, .null, .float 0, .null, .null, .null, .int 0]))] sz) [(h0, .inr (6, [.ref h1, .int (nI u.1), .int (nI u.2.1), .ref u.2.2.1, .float 0x3f800000, .ref u.2.2.2.1, .ref u.2.2.2.2.1, .ref u.2.2.2.2.2, .int 0])), (u.2.2.1, .inl (T 0, (u.1 * u.2.1), .inl zI))] t) (va_A [(h0, .inr (6, [.null, .int 0, .int 0, .null, .float 0, .null, .null, .null, .int 0]))] sz)) 4 474 (va_A [(h0, .inr (6, [.null, .int 0, .int 0, .null, .float 0, .null, .null, .null, .int 0]))] sz) := by
  refine j_met (y := ⟨"PageScribe$Canvas", "<init>", "(LPageScribe$Stack;II)V"⟩) (b := prog_3_method_1_code) (n := 4) (ret := none) (av := [.ref h0, .ref h1, .int p0, .int p1]) (Qc := fun A => va_Qv (fun (u : Nat × Nat × Nat × Nat × Nat × Nat) => nI u.1 = colOf p0 ∧ nI u.2.1 = rowOf p1 ∧ u.1 ≤ 24 ∧ u.2.1 ≤ 16) (fun u t => Bw D T A [(h0, .inr (6, [.ref h1, .int (nI u.1), .int (nI u.2.1), .ref u.2.2.1, .float 0x3f800000, .ref u.2.2.2.1, .ref u.2.2.2.2.1, .ref u.2.2.2.2.2, .int 0])), (u.2.2.1, .inl (T 0, (u.1 * u.2.1), .inl zI))] t) A) (by decide +kernel) (Nat.le_of_ble_eq_true rfl) (fun p e s m args below meth c A ls F hr hlocks hnm hK hP hD hS hA hN hE hl => ?_)
  obtain ⟨hx, hb, hml, hown, hts⟩ := id F
  have hin := hnm
  have hl : lv_has ls 4 [(0, .ref h0), (1, .ref h1), (2, .int p0), (3, .int p1)] := hl
  refine lv_aload_n hx hb d_Canvas_init_0 rfl (lv_at hl 0 rfl) ?_
  refine j_obj F hl.1 k_1_206 k_1_35 k_1_36 d_Canvas_init_1 (Nat.le_of_ble_eq_true rfl) (Nat.le_of_ble_eq_true rfl) ?_
  refine lv_aload_n hx hb d_Canvas_init_4 rfl (lv_at hl 0 rfl) ?_
  refine lv_fconst1 hx hb d_Canvas_init_5 ?_
  refine va_put (D := D) (ci := 6) (v := .float 0x3f800000) (ty := .float) (C := "PageScribe$Canvas") (T := F_Canvas) (N := 9) hx hb hts i_Canvas t_Canvas t_Canvas_ok n_Canvas hown hK hP hD hS 0 rfl rfl 4 (by decide) (hts _ k_1_211) (fun _ h9 => h9) rfl (by decide +kernel) rfl rfl (Nat.le_of_ble_eq_true rfl) d_Canvas_init_6 (fun H locs hP hD hS => ?_)
  have hP : va_P D classes [(h0, .inr (6, [.null, .int 0, .int 0, .null, .float 0x3f800000, .null, .null, .null, .int 0]))] H := hP
  have hD : va_D A [(h0, .inr (6, [.null, .int 0, .int 0, .null, .float 0x3f800000, .null, .null, .null, .int 0]))] := hD
  refine lv_aload_n hx hb d_Canvas_init_9 rfl (lv_at hl 0 rfl) ?_
  refine lv_bipush (v := 30) hx hb d_Canvas_init_10 (by decide) ?_
  refine j_newa (atype := .double) (ty := .double) F k_1_68 rfl hK hP hD hS hA 3 (T 3) rfl (30, .inr (.inr (.inr (.inl zD)))) (fun _ => rfl) (by decide +kernel) (by decide +kernel) (by decide +kernel) (Nat.le_of_ble_eq_true rfl) (Nat.le_of_ble_eq_true rfl) d_Canvas_init_12 (fun q1 H hP hD hS => ?_)
  have hP : va_P D classes [(h0, .inr (6, [.null, .int 0, .int 0, .null, .float 0x3f800000, .null, .null, .null, .int 0])), (q1, .inl (T 3, 30, .inr (.inr (.inr (.inl zD)))))] H := hP
  have hD : va_D A [(h0, .inr (6, [.null, .int 0, .int 0, .null, .float 0x3f800000, .null, .null, .null, .int 0])), (q1, .inl (T 3, 30, .inr (.inr (.inr (.inl zD)))))] := hD
  refine va_putF (D := D) (ci := 6) (v := .ref q1) (ty := .array .double) (C := "PageScribe$Canvas") (T := F_Canvas) (N := 9) hx hb hts i_Canvas t_Canvas t_Canvas_ok n_Canvas hown hK hP hD hS 0 rfl rfl 5 (by decide) (hts _ k_1_212) (fun _ h9 => h9) rfl hin rfl (by decide +kernel) rfl rfl (Nat.le_of_ble_eq_true rfl) d_Canvas_init_14 (fun H locs hP hD hS => ?_)
  have hP : va_P D classes [(h0, .inr (6, [.null, .int 0, .int 0, .null, .float 0x3f800000, .ref q1, .null, .null, .int 0])), (q1, .inl (T 3, 30, .inr (.inr (.inr (.inl zD)))))] H := hP
  have hD : va_D A [(h0, .inr (6, [.null, .int 0, .int 0, .null, .float 0x3f800000, .ref q1, .null, .null, .int 0])), (q1, .inl (T 3, 30, .inr (.inr (.inr (.inl zD)))))] := hD
  refine lv_aload_n hx hb d_Canvas_init_17 rfl (lv_at hl 0 rfl) ?_
  refine lv_bipush (v := 30) hx hb d_Canvas_init_18 (by decide) ?_
  refine j_newa (atype := .double) (ty := .double) F k_1_68 rfl hK hP hD hS hA 3 (T 3) rfl (30, .inr (.inr (.inr (.inl zD)))) (fun _ => rfl) (by decide +kernel) (by decide +kernel) (by decide +kernel) (Nat.le_of_ble_eq_true rfl) (Nat.le_of_ble_eq_true rfl) d_Canvas_init_20 (fun q2 H hP hD hS => ?_)
  have hP : va_P D classes [(h0, .inr (6, [.null, .int 0, .int 0, .null, .float 0x3f800000, .ref q1, .null, .null, .int 0])), (q1, .inl (T 3, 30, .inr (.inr (.inr (.inl zD))))), (q2, .inl (T 3, 30, .inr (.inr (.inr (.inl zD)))))] H := hP
  have hD : va_D A [(h0, .inr (6, [.null, .int 0, .int 0, .null, .float 0x3f800000, .ref q1, .null, .null, .int 0])), (q1, .inl (T 3, 30, .inr (.inr (.inr (.inl zD))))), (q2, .inl (T 3, 30, .inr (.inr (.inr (.inl zD)))))] := hD
  refine va_putF (D := D) (ci := 6) (v := .ref q2) (ty := .array .double) (C := "PageScribe$Canvas") (T := F_Canvas) (N := 9) hx hb hts i_Canvas t_Canvas t_Canvas_ok n_Canvas hown hK hP hD hS 0 rfl rfl 6 (by decide) (hts _ k_1_213) (fun _ h9 => h9) rfl hin rfl (by decide +kernel) rfl rfl (Nat.le_of_ble_eq_true rfl) d_Canvas_init_22 (fun H locs hP hD hS => ?_)
  have hP : va_P D classes [(h0, .inr (6, [.null, .int 0, .int 0, .null, .float 0x3f800000, .ref q1, .ref q2, .null, .int 0])), (q1, .inl (T 3, 30, .inr (.inr (.inr (.inl zD))))), (q2, .inl (T 3, 30, .inr (.inr (.inr (.inl zD)))))] H := hP
  have hD : va_D A [(h0, .inr (6, [.null, .int 0, .int 0, .null, .float 0x3f800000, .ref q1, .ref q2, .null, .int 0])), (q1, .inl (T 3, 30, .inr (.inr (.inr (.inl zD))))), (q2, .inl (T 3, 30, .inr (.inr (.inr (.inl zD)))))] := hD
  refine lv_aload_n hx hb d_Canvas_init_25 rfl (lv_at hl 0 rfl) ?_
  refine lv_bipush (v := 30) hx hb d_Canvas_init_26 (by decide) ?_
  refine j_newa (atype := .int) (ty := .int) F k_1_67 rfl hK hP hD hS hA 0 (T 0) rfl (30, .inl zI) (fun _ => rfl) (by decide +kernel) (by decide +kernel) (by decide +kernel) (Nat.le_of_ble_eq_true rfl) (Nat.le_of_ble_eq_true rfl) d_Canvas_init_28 (fun q3 H hP hD hS => ?_)
  have hP : va_P D classes [(h0, .inr (6, [.null, .int 0, .int 0, .null, .float 0x3f800000, .ref q1, .ref q2, .null, .int 0])), (q1, .inl (T 3, 30, .inr (.inr (.inr (.inl zD))))), (q2, .inl (T 3, 30, .inr (.inr (.inr (.inl zD))))), (q3, .inl (T 0, 30, .inl zI))] H := hP
  have hD : va_D A [(h0, .inr (6, [.null, .int 0, .int 0, .null, .float 0x3f800000, .ref q1, .ref q2, .null, .int 0])), (q1, .inl (T 3, 30, .inr (.inr (.inr (.inl zD))))), (q2, .inl (T 3, 30, .inr (.inr (.inr (.inl zD))))), (q3, .inl (T 0, 30, .inl zI))] := hD
  refine va_putF (D := D) (ci := 6) (v := .ref q3) (ty := .array .int) (C := "PageScribe$Canvas") (T := F_Canvas) (N := 9) hx hb hts i_Canvas t_Canvas t_Canvas_ok n_Canvas hown hK hP hD hS 0 rfl rfl 7 (by decide) (hts _ k_1_214) (fun _ h9 => h9) rfl hin rfl (by decide +kernel) rfl rfl (Nat.le_of_ble_eq_true rfl) d_Canvas_init_30 (fun H locs hP hD hS => ?_)
  have hP : va_P D classes [(h0, .inr (6, [.null, .int 0, .int 0, .null, .float 0x3f800000, .ref q1, .ref q2, .ref q3, .int 0])), (q1, .inl (T 3, 30, .inr (.inr (.inr (.inl zD))))), (q2, .inl (T 3, 30, .inr (.inr (.inr (.inl zD))))), (q3, .inl (T 0, 30, .inl zI))] H := hP
  have hD : va_D A [(h0, .inr (6, [.null, .int 0, .int 0, .null, .float 0x3f800000, .ref q1, .ref q2, .ref q3, .int 0])), (q1, .inl (T 3, 30, .inr (.inr (.inr (.inl zD))))), (q2, .inl (T 3, 30, .inr (.inr (.inr (.inl zD))))), (q3, .inl (T 0, 30, .inl zI))] := hD
  refine lv_aload_n hx hb d_Canvas_init_33 rfl (lv_at hl 0 rfl) ?_
  refine lv_iconst (v := 0) hx hb d_Canvas_init_34 (by decide) ?_
  refine va_put (D := D) (ci := 6) (v := .int 0) (ty := .int) (C := "PageScribe$Canvas") (T := F_Canvas) (N := 9) hx hb hts i_Canvas t_Canvas t_Canvas_ok n_Canvas hown hK hP hD hS 0 rfl rfl 8 (by decide) (hts _ k_1_215) (fun _ h9 => h9) rfl (by decide +kernel) rfl rfl (Nat.le_of_ble_eq_true rfl) d_Canvas_init_35 (fun H locs hP hD hS => ?_)
  have hP : va_P D classes [(h0, .inr (6, [.null, .int 0, .int 0, .null, .float 0x3f800000, .ref q1, .ref q2, .ref q3, .int 0])), (q1, .inl (T 3, 30, .inr (.inr (.inr (.inl zD))))), (q2, .inl (T 3, 30, .inr (.inr (.inr (.inl zD))))), (q3, .inl (T 0, 30, .inl zI))] H := hP
  have hD : va_D A [(h0, .inr (6, [.null, .int 0, .int 0, .null, .float 0x3f800000, .ref q1, .ref q2, .ref q3, .int 0])), (q1, .inl (T 3, 30, .inr (.inr (.inr (.inl zD))))), (q2, .inl (T 3, 30, .inr (.inr (.inr (.inl zD))))), (q3, .inl (T 0, 30, .inl zI))] := hD
  refine lv_aload_n hx hb d_Canvas_init_38 rfl (lv_at hl 0 rfl) ?_
  refine lv_aload_n hx hb d_Canvas_init_39 rfl (lv_at hl 1 rfl) ?_
  refine va_putF (D := D) (ci := 6) (v := .ref h1) (ty := .object "PageScribe$Stack") (C := "PageScribe$Canvas") (T := F_Canvas) (N := 9) hx hb hts i_Canvas t_Canvas t_Canvas_ok n_Canvas hown hK hP hD hS 0 rfl rfl 0 (by decide) (hts _ k_1_207) (fun _ h9 => h9) rfl hin rfl (by decide +kernel) rfl rfl (Nat.le_of_ble_eq_true rfl) d_Canvas_init_40 (fun H locs hP hD hS => ?_)
  have hP : va_P D classes [(h0, .inr (6, [.ref h1, .int 0, .int 0, .null, .float 0x3f800000, .ref q1, .ref q2, .ref q3, .int 0])), (q1, .inl (T 3, 30, .inr (.inr (.inr (.inl zD))))), (q2, .inl (T 3, 30, .inr (.inr (.inr (.inl zD))))), (q3, .inl (T 0, 30, .inl zI))] H := hP
  have hD : va_D A [(h0, .inr (6, [.ref h1, .int 0, .int 0, .null, .float 0x3f800000, .ref q1, .ref q2, .ref q3, .int 0])), (q1, .inl (T 3, 30, .inr (.inr (.inr (.inl zD))))), (q2, .inl (T 3, 30, .inr (.inr (.inr (.inl zD))))), (q3, .inl (T 0, 30, .inl zI))] := hD
  refine lv_aload_n hx hb d_Canvas_init_43 rfl (lv_at hl 0 rfl) ?_
  refine j_join (α := Int32) (fun v => v = colOf p0) (fun v => F0 m 61 ls (.int v :: [.ref h0])) (fun v hv => ?_) (fun key => ?_)
  · obtain ⟨C, hC, hC1, hC2⟩ := colOf_in p0
    rw [hC] at hv
    subst hv
    refine va_putF (D := D) (ci := 6) (v := .int (nI C)) (ty := .int) (C := "PageScribe$Canvas") (T := F_Canvas) (N := 9) hx hb hts i_Canvas t_Canvas t_Canvas_ok n_Canvas hown hK hP hD hS 0 rfl rfl 1 (by decide) (hts _ k_1_208) (fun _ h9 => h9) rfl hin rfl (by decide +kernel) rfl rfl (Nat.le_of_ble_eq_true rfl) d_Canvas_init_61 (fun H locs hP hD hS => ?_)
    have hP : va_P D classes [(h0, .inr (6, [.ref h1, .int (nI C), .int 0, .null, .float 0x3f800000, .ref q1, .ref q2, .ref q3, .int 0])), (q1, .inl (T 3, 30, .inr (.inr (.inr (.inl zD))))), (q2, .inl (T 3, 30, .inr (.inr (.inr (.inl zD))))), (q3, .inl (T 0, 30, .inl zI))] H := hP
    have hD : va_D A [(h0, .inr (6, [.ref h1, .int (nI C), .int 0, .null, .float 0x3f800000, .ref q1, .ref q2, .ref q3, .int 0])), (q1, .inl (T 3, 30, .inr (.inr (.inr (.inl zD))))), (q2, .inl (T 3, 30, .inr (.inr (.inr (.inl zD))))), (q3, .inl (T 0, 30, .inl zI))] := hD
    refine lv_aload_n hx hb d_Canvas_init_64 rfl (lv_at hl 0 rfl) ?_
    refine j_join (α := Int32) (fun v => v = rowOf p1) (fun v => F0 m 82 ls (.int v :: [.ref h0])) (fun v hv => ?_) (fun key => ?_)
    · obtain ⟨Rr, hRr, hRr1, hRr2⟩ := rowOf_in p1
      rw [hRr] at hv
      subst hv
      refine va_putF (D := D) (ci := 6) (v := .int (nI Rr)) (ty := .int) (C := "PageScribe$Canvas") (T := F_Canvas) (N := 9) hx hb hts i_Canvas t_Canvas t_Canvas_ok n_Canvas hown hK hP hD hS 0 rfl rfl 2 (by decide) (hts _ k_1_209) (fun _ h9 => h9) rfl hin rfl (by decide +kernel) rfl rfl (Nat.le_of_ble_eq_true rfl) d_Canvas_init_82 (fun H locs hP hD hS => ?_)
      have hP : va_P D classes [(h0, .inr (6, [.ref h1, .int (nI C), .int (nI Rr), .null, .float 0x3f800000, .ref q1, .ref q2, .ref q3, .int 0])), (q1, .inl (T 3, 30, .inr (.inr (.inr (.inl zD))))), (q2, .inl (T 3, 30, .inr (.inr (.inr (.inl zD))))), (q3, .inl (T 0, 30, .inl zI))] H := hP
      have hD : va_D A [(h0, .inr (6, [.ref h1, .int (nI C), .int (nI Rr), .null, .float 0x3f800000, .ref q1, .ref q2, .ref q3, .int 0])), (q1, .inl (T 3, 30, .inr (.inr (.inr (.inl zD))))), (q2, .inl (T 3, 30, .inr (.inr (.inr (.inl zD))))), (q3, .inl (T 0, 30, .inl zI))] := hD
      refine lv_aload_n hx hb d_Canvas_init_85 rfl (lv_at hl 0 rfl) ?_
      refine lv_aload_n hx hb d_Canvas_init_86 rfl (lv_at hl 0 rfl) ?_
      refine va_get (D := D) (ci := 6) (v := .int (nI C)) (C := "PageScribe$Canvas") (T := F_Canvas) (N := 9) hx hb hts i_Canvas hown hK hP 0 rfl rfl 1 (by decide) (hts _ k_1_208) (fun _ h9 => h9) rfl d_Canvas_init_87 ?_
      refine lv_aload_n hx hb d_Canvas_init_90 rfl (lv_at hl 0 rfl) ?_
      refine va_get (D := D) (ci := 6) (v := .int (nI Rr)) (C := "PageScribe$Canvas") (T := F_Canvas) (N := 9) hx hb hts i_Canvas hown hK hP 0 rfl rfl 2 (by decide) (hts _ k_1_209) (fun _ h9 => h9) rfl d_Canvas_init_91 ?_
      refine lv_imul hx hb d_Canvas_init_94 ?_
      refine j_eqi (y := (nI (C * Rr))) (pk_mul C Rr) ?_
      refine j_newa (atype := .int) (ty := .int) F k_1_67 rfl hK hP hD hS hA 0 (T 0) rfl ((C * Rr), .inl zI) (fun _ => rfl) (nI_pos (n := C * Rr) (by have := Nat.mul_le_mul hC2 hRr2; omega)) (nI_clamp (n := C * Rr) (by have := Nat.mul_le_mul hC2 hRr2; omega)) (by have := Nat.mul_le_mul hC2 hRr2; show C * Rr * 4 ≤ _; omega) (Nat.le_of_ble_eq_true rfl) (by have := Nat.mul_le_mul hC2 hRr2; show 0 + 30 + 30 + 30 + C * Rr ≤ 474; omega) d_Canvas_init_95 (fun q4 H hP hD hS => ?_)
      have hP : va_P D classes [(h0, .inr (6, [.ref h1, .int (nI C), .int (nI Rr), .null, .float 0x3f800000, .ref q1, .ref q2, .ref q3, .int 0])), (q1, .inl (T 3, 30, .inr (.inr (.inr (.inl zD))))), (q2, .inl (T 3, 30, .inr (.inr (.inr (.inl zD))))), (q3, .inl (T 0, 30, .inl zI)), (q4, .inl (T 0, (C * Rr), .inl zI))] H := hP
      have hD : va_D A [(h0, .inr (6, [.ref h1, .int (nI C), .int (nI Rr), .null, .float 0x3f800000, .ref q1, .ref q2, .ref q3, .int 0])), (q1, .inl (T 3, 30, .inr (.inr (.inr (.inl zD))))), (q2, .inl (T 3, 30, .inr (.inr (.inr (.inl zD))))), (q3, .inl (T 0, 30, .inl zI)), (q4, .inl (T 0, (C * Rr), .inl zI))] := hD
      refine va_putF (D := D) (ci := 6) (v := .ref q4) (ty := .array .int) (C := "PageScribe$Canvas") (T := F_Canvas) (N := 9) hx hb hts i_Canvas t_Canvas t_Canvas_ok n_Canvas hown hK hP hD hS 0 rfl rfl 3 (by decide) (hts _ k_1_210) (fun _ h9 => h9) rfl hin rfl (by decide +kernel) rfl rfl (Nat.le_of_ble_eq_true rfl) d_Canvas_init_97 (fun H locs hP hD hS => ?_)
      have hP : va_P D classes [(h0, .inr (6, [.ref h1, .int (nI C), .int (nI Rr), .ref q4, .float 0x3f800000, .ref q1, .ref q2, .ref q3, .int 0])), (q1, .inl (T 3, 30, .inr (.inr (.inr (.inl zD))))), (q2, .inl (T 3, 30, .inr (.inr (.inr (.inl zD))))), (q3, .inl (T 0, 30, .inl zI)), (q4, .inl (T 0, (C * Rr), .inl zI))] H := hP
      have hD : va_D A [(h0, .inr (6, [.ref h1, .int (nI C), .int (nI Rr), .ref q4, .float 0x3f800000, .ref q1, .ref q2, .ref q3, .int 0])), (q1, .inl (T 3, 30, .inr (.inr (.inr (.inl zD))))), (q2, .inl (T 3, 30, .inr (.inr (.inr (.inl zD))))), (q3, .inl (T 0, 30, .inl zI)), (q4, .inl (T 0, (C * Rr), .inl zI))] := hD
      have hP9 := hP.sub (ws' := [(h0, .inr (6, [.ref h1, .int (nI C), .int (nI Rr), .ref q4, .float 0x3f800000, .ref q1, .ref q2, .ref q3, .int 0])), (q4, .inl (T 0, (C * Rr), .inl zI))]) [0, 4] rfl
      have hD9 := hD.sub (ws' := [(h0, .inr (6, [.ref h1, .int (nI C), .int (nI Rr), .ref q4, .float 0x3f800000, .ref q1, .ref q2, .ref q3, .int 0])), (q4, .inl (T 0, (C * Rr), .inl zI))]) [0, 4] (by decide) rfl
      have hCR : C * Rr ≤ 24 * 16 := Nat.mul_le_mul hC2 hRr2
      refine W.widen (k := 4) (n := 474) (by omega) (by omega) ?_
      exact j_vret F hr hlocks hK hS (C, Rr, q4, q1, q2, q3) ⟨hC.symm, hRr.symm, hC2, hRr2⟩ hP9 hD9 d_Canvas_init_100
    · refine lv_iload_n hx hb d_Canvas_init_65 rfl (lv_at hl 3 rfl) ?_
      refine lv_iconst (v := 1) hx hb d_Canvas_init_66 (by decide) ?_
      refine lv_icmp_lt (tgt := 80) hx hb d_Canvas_init_67 (by decide) (fun c_67 => ?_) (fun c_67 => ?_)
      · refine lv_bipush (v := 12) hx hb d_Canvas_init_80 (by decide) ?_
        exact key _ (by first | exact (if_pos (Or.inl c_67)).symm | exact (if_pos (Or.inr c_73)).symm | exact (if_neg (fun q => q.elim (fun z => c_67 z) (fun z => c_73 z))).symm)
      · refine lv_iload_n hx hb d_Canvas_init_70 rfl (lv_at hl 3 rfl) ?_
        refine lv_bipush (v := 16) hx hb d_Canvas_init_71 (by decide) ?_
        refine lv_icmp_gt (tgt := 80) hx hb d_Canvas_init_73 (by decide) (fun c_73 => ?_) (fun c_73 => ?_)
        · refine lv_bipush (v := 12) hx hb d_Canvas_init_80 (by decide) ?_
          exact key _ (by first | exact (if_pos (Or.inl c_67)).symm | exact (if_pos (Or.inr c_73)).symm | exact (if_neg (fun q => q.elim (fun z => c_67 z) (fun z => c_73 z))).symm)
        · refine lv_iload_n hx hb d_Canvas_init_76 rfl (lv_at hl 3 rfl) ?_
          refine lv_goto (tgt := 82) hx hb d_Canvas_init_77 (by decide) ?_
          exact key _ (by first | exact (if_pos (Or.inl c_67)).symm | exact (if_pos (Or.inr c_73)).symm | exact (if_neg (fun q => q.elim (fun z => c_67 z) (fun z => c_73 z))).symm)
  · refine lv_iload_n hx hb d_Canvas_init_44 rfl (lv_at hl 2 rfl) ?_
    refine lv_iconst (v := 1) hx hb d_Canvas_init_45 (by decide) ?_
    refine lv_icmp_lt (tgt := 59) hx hb d_Canvas_init_46 (by decide) (fun c_46 => ?_) (fun c_46 => ?_)
    · refine lv_bipush (v := 16) hx hb d_Canvas_init_59 (by decide) ?_
      exact key _ (by first | exact (if_pos (Or.inl c_46)).symm | exact (if_pos (Or.inr c_52)).symm | exact (if_neg (fun q => q.elim (fun z => c_46 z) (fun z => c_52 z))).symm)
    · refine lv_iload_n hx hb d_Canvas_init_49 rfl (lv_at hl 2 rfl) ?_
      refine lv_bipush (v := 24) hx hb d_Canvas_init_50 (by decide) ?_
      refine lv_icmp_gt (tgt := 59) hx hb d_Canvas_init_52 (by decide) (fun c_52 => ?_) (fun c_52 => ?_)
      · refine lv_bipush (v := 16) hx hb d_Canvas_init_59 (by decide) ?_
        exact key _ (by first | exact (if_pos (Or.inl c_46)).symm | exact (if_pos (Or.inr c_52)).symm | exact (if_neg (fun q => q.elim (fun z => c_46 z) (fun z => c_52 z))).symm)
      · refine lv_iload_n hx hb d_Canvas_init_55 rfl (lv_at hl 2 rfl) ?_
        refine lv_goto (tgt := 61) hx hb d_Canvas_init_56 (by decide) ?_
        exact key _ (by first | exact (if_pos (Or.inl c_46)).symm | exact (if_pos (Or.inr c_52)).symm | exact (if_neg (fun q => q.elim (fun z => c_46 z) (fun z => c_52 z))).symm)
