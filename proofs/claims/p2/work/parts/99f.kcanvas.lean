theorem d_Reader_init_0 : decode prog_7_method_1_code 0 = .ok (.aload_n 0, 1) := by decide +kernel
theorem d_Reader_init_1 : decode prog_7_method_1_code 1 = .ok (.invokespecial 3, 3) := by decide +kernel
theorem k_1_163 : Cond.methodLink "PageScribe$Reader" 3 ⟨"java/lang/Object", "<init>", "()V"⟩ ∈ gw := gw_of (tb_1 (List.mem_of_getElem? (i := 163) (by decide +kernel))) (by decide +kernel)
theorem d_Reader_init_4 : decode prog_7_method_1_code 4 = .ok (.aload_n 0, 1) := by decide +kernel
theorem d_Reader_init_5 : decode prog_7_method_1_code 5 = .ok (.bipush 120, 2) := by decide +kernel
theorem d_Reader_init_7 : decode prog_7_method_1_code 7 = .ok (.newarray .char, 2) := by decide +kernel
theorem d_Reader_init_9 : decode prog_7_method_1_code 9 = .ok (.putfield 9, 3) := by decide +kernel
theorem d_Reader_init_12 : decode prog_7_method_1_code 12 = .ok (.aload_n 0, 1) := by decide +kernel
theorem d_Reader_init_13 : decode prog_7_method_1_code 13 = .ok (.iconst 0, 1) := by decide +kernel
theorem d_Reader_init_14 : decode prog_7_method_1_code 14 = .ok (.putfield 15, 3) := by decide +kernel
theorem d_Reader_init_17 : decode prog_7_method_1_code 17 = .ok (.aload_n 0, 1) := by decide +kernel
theorem d_Reader_init_18 : decode prog_7_method_1_code 18 = .ok (.iconst 0, 1) := by decide +kernel
theorem d_Reader_init_19 : decode prog_7_method_1_code 19 = .ok (.putfield 19, 3) := by decide +kernel
theorem d_Reader_init_22 : decode prog_7_method_1_code 22 = .ok (.aload_n 0, 1) := by decide +kernel
theorem d_Reader_init_23 : decode prog_7_method_1_code 23 = .ok (.iconst 0, 1) := by decide +kernel
theorem d_Reader_init_24 : decode prog_7_method_1_code 24 = .ok (.putfield 22, 3) := by decide +kernel
theorem d_Reader_init_27 : decode prog_7_method_1_code 27 = .ok (.aload_n 0, 1) := by decide +kernel
theorem d_Reader_init_28 : decode prog_7_method_1_code 28 = .ok (.iconst 0, 1) := by decide +kernel
theorem d_Reader_init_29 : decode prog_7_method_1_code 29 = .ok (.putfield 25, 3) := by decide +kernel
theorem d_Reader_init_32 : decode prog_7_method_1_code 32 = .ok (.aload_n 0, 1) := by decide +kernel
theorem d_Reader_init_33 : decode prog_7_method_1_code 33 = .ok (.dconst 0, 1) := by decide +kernel
theorem d_Reader_init_34 : decode prog_7_method_1_code 34 = .ok (.putfield 28, 3) := by decide +kernel
theorem d_Reader_init_37 : decode prog_7_method_1_code 37 = .ok (.aload_n 0, 1) := by decide +kernel
theorem d_Reader_init_38 : decode prog_7_method_1_code 38 = .ok (.new 32, 3) := by decide +kernel
theorem k_1_164 : Cond.classLink "PageScribe$Reader" 32 "PageScribe$Row" ∈ gw := gw_of (tb_1 (List.mem_of_getElem? (i := 164) (by decide +kernel))) (by decide +kernel)
theorem d_Reader_init_41 : decode prog_7_method_1_code 41 = .ok (.dup, 1) := by decide +kernel
theorem d_Reader_init_42 : decode prog_7_method_1_code 42 = .ok (.bipush 120, 2) := by decide +kernel
theorem d_Reader_init_44 : decode prog_7_method_1_code 44 = .ok (.invokespecial 34, 3) := by decide +kernel
theorem k_1_165 : Cond.methodLink "PageScribe$Reader" 34 ⟨"PageScribe$Row", "<init>", "(I)V"⟩ ∈ gw := gw_of (tb_1 (List.mem_of_getElem? (i := 165) (by decide +kernel))) (by decide +kernel)
theorem d_Reader_init_47 : decode prog_7_method_1_code 47 = .ok (.putfield 37, 3) := by decide +kernel
theorem d_Reader_init_50 : decode prog_7_method_1_code 50 = .ok (.aload_n 0, 1) := by decide +kernel
theorem d_Reader_init_51 : decode prog_7_method_1_code 51 = .ok (.iconst 4, 1) := by decide +kernel
theorem d_Reader_init_52 : decode prog_7_method_1_code 52 = .ok (.newarray .int, 2) := by decide +kernel
theorem d_Reader_init_54 : decode prog_7_method_1_code 54 = .ok (.putfield 41, 3) := by decide +kernel
theorem d_Reader_init_57 : decode prog_7_method_1_code 57 = .ok (.aload_n 0, 1) := by decide +kernel
theorem d_Reader_init_58 : decode prog_7_method_1_code 58 = .ok (.aload_n 1, 1) := by decide +kernel
theorem d_Reader_init_59 : decode prog_7_method_1_code 59 = .ok (.putfield 45, 3) := by decide +kernel
theorem d_Reader_init_62 : decode prog_7_method_1_code 62 = .ok (.aload_n 0, 1) := by decide +kernel
theorem d_Reader_init_63 : decode prog_7_method_1_code 63 = .ok (.aload_n 2, 1) := by decide +kernel
theorem d_Reader_init_64 : decode prog_7_method_1_code 64 = .ok (.putfield 49, 3) := by decide +kernel
theorem d_Reader_init_67 : decode prog_7_method_1_code 67 = .ok (.return_, 1) := by decide +kernel
set_option maxHeartbeats 4000000 in
set_option maxRecDepth 100000 in
theorem i_Reader_init (l : Launch) (D : va_G) (T : Nat → ClassId) (h0 : Nat) (h1 : Nat) (h2 : Nat) (sz : Nat) : Met l ⟨"PageScribe$Reader", "<init>", "(LPageScribe$Words;LPageScribe$Store;)V"⟩ (wy ⟨"PageScribe$Reader", "<init>", "(LPageScribe$Words;LPageScribe$Store;)V"⟩ prog_7_method_1_code 3 none) ({ frames := 2, cells := 6, slots := 488, locals := 140 }) (va_Pc [.ref h0, .ref h1, .ref h2] (Pw D T [(h0, .inr (5, [.null, .null, .null, .int 0, .int 0, .int 0, .int 0, .double 0, .null, .null]))] sz E0)) (va_Qv (fun (u : (Nat → Nat)) => True) (fun u t => Bw D T (va_A [(h0, .inr (5, [.null, .null, .null, .int 0, .int 0, .int 0, .int 0, .double 0, .null, .null]))] sz) [(h0, .inr (5, [.ref h1, .ref h2, .ref (u 61), .int 0, .int 0, .int 0, .int 0, .double 0, .ref (u 62), .ref (u 66)])), ((u 61), .inl (T 2, 120, .inl zI)), ((u 62), .inr (4, [.ref (u 63), .ref (u 64), .ref (u 65), .int 0])), ((u 63), .inl (T 0, 120, .inl zI)), ((u 64), .inl (T 0, 120, .inl zI)), ((u 65), .inl (T 3, 120, .inr (.inr (.inr (.inl zD))))), ((u 66), .inl (T 0, 4, .inl zI))] t) (va_A [(h0, .inr (5, [.null, .null, .null, .int 0, .int 0, .int 0, .int 0, .double 0, .null, .null]))] sz)) 6 488 (va_A [(h0, .inr (5, [.null, .null, .null, .int 0, .int 0, .int 0, .int 0, .double 0, .null, .null]))] sz) := by
  refine j_met (y := ⟨"PageScribe$Reader", "<init>", "(LPageScribe$Words;LPageScribe$Store;)V"⟩) (b := prog_7_method_1_code) (n := 3) (ret := none) (av := [.ref h0, .ref h1, .ref h2]) (Qc := fun A => va_Qv (fun (u : (Nat → Nat)) => True) (fun u t => Bw D T A [(h0, .inr (5, [.ref h1, .ref h2, .ref (u 61), .int 0, .int 0, .int 0, .int 0, .double 0, .ref (u 62), .ref (u 66)])), ((u 61), .inl (T 2, 120, .inl zI)), ((u 62), .inr (4, [.ref (u 63), .ref (u 64), .ref (u 65), .int 0])), ((u 63), .inl (T 0, 120, .inl zI)), ((u 64), .inl (T 0, 120, .inl zI)), ((u 65), .inl (T 3, 120, .inr (.inr (.inr (.inl zD))))), ((u 66), .inl (T 0, 4, .inl zI))] t) A) (by decide +kernel) (Nat.le_of_ble_eq_true rfl) (fun p e s m args below meth c A ls F hr hlocks hnm hK hP hD hS hA hN hE hl => ?_)
  obtain ⟨hx, hb, hml, hown, hts⟩ := id F
  have hin := hnm
  have hl : lv_has ls 3 [(0, .ref h0), (1, .ref h1), (2, .ref h2)] := hl
  refine lv_aload_n hx hb d_Reader_init_0 rfl (lv_at hl 0 rfl) ?_
  refine j_obj F hl.1 k_1_163 k_1_35 k_1_36 d_Reader_init_1 (Nat.le_of_ble_eq_true rfl) (Nat.le_of_ble_eq_true rfl) ?_
  refine lv_aload_n hx hb d_Reader_init_4 rfl (lv_at hl 0 rfl) ?_
  refine lv_bipush (v := 120) hx hb d_Reader_init_5 (by decide +kernel) ?_
  refine j_newa (atype := .char) (ty := .char) F k_1_86 rfl hK hP hD hS hA 2 (T 2) rfl (120, .inl zI) (fun _ => rfl) (by decide +kernel) (by decide +kernel) (by decide +kernel) (Nat.le_of_ble_eq_true rfl) (Nat.le_of_ble_eq_true rfl) d_Reader_init_7 (fun q1 H hP hD hS => ?_)
  have hP : va_P D classes [(h0, .inr (5, [.null, .null, .null, .int 0, .int 0, .int 0, .int 0, .double 0, .null, .null])), (q1, .inl (T 2, 120, .inl zI))] H := hP
  have hD : va_D A [(h0, .inr (5, [.null, .null, .null, .int 0, .int 0, .int 0, .int 0, .double 0, .null, .null])), (q1, .inl (T 2, 120, .inl zI))] := hD
  refine va_putF (D := D) (ci := 5) (v := .ref q1) (ty := .array .char) (C := "PageScribe$Reader") (T := F_Reader) (N := 10) hx hb hts i_Reader t_Reader t_Reader_ok n_Reader hown hK hP hD hS 0 rfl rfl 2 (by decide +kernel) (hts _ k_1_168) (fun _ h9 => h9) rfl hin rfl (by decide +kernel) rfl rfl (Nat.le_of_ble_eq_true rfl) d_Reader_init_9 (fun H locs hP hD hS => ?_)
  have hP : va_P D classes [(h0, .inr (5, [.null, .null, .ref q1, .int 0, .int 0, .int 0, .int 0, .double 0, .null, .null])), (q1, .inl (T 2, 120, .inl zI))] H := hP
  have hD : va_D A [(h0, .inr (5, [.null, .null, .ref q1, .int 0, .int 0, .int 0, .int 0, .double 0, .null, .null])), (q1, .inl (T 2, 120, .inl zI))] := hD
  refine lv_aload_n hx hb d_Reader_init_12 rfl (lv_at hl 0 rfl) ?_
  refine lv_iconst (v := 0) hx hb d_Reader_init_13 (by decide +kernel) ?_
  refine va_put (D := D) (ci := 5) (v := .int 0) (ty := .int) (C := "PageScribe$Reader") (T := F_Reader) (N := 10) hx hb hts i_Reader t_Reader t_Reader_ok n_Reader hown hK hP hD hS 0 rfl rfl 3 (by decide +kernel) (hts _ k_1_169) (fun _ h9 => h9) rfl (by decide +kernel) rfl rfl (Nat.le_of_ble_eq_true rfl) d_Reader_init_14 (fun H locs hP hD hS => ?_)
  have hP : va_P D classes [(h0, .inr (5, [.null, .null, .ref q1, .int 0, .int 0, .int 0, .int 0, .double 0, .null, .null])), (q1, .inl (T 2, 120, .inl zI))] H := hP
  have hD : va_D A [(h0, .inr (5, [.null, .null, .ref q1, .int 0, .int 0, .int 0, .int 0, .double 0, .null, .null])), (q1, .inl (T 2, 120, .inl zI))] := hD
  refine lv_aload_n hx hb d_Reader_init_17 rfl (lv_at hl 0 rfl) ?_
  refine lv_iconst (v := 0) hx hb d_Reader_init_18 (by decide +kernel) ?_
  refine va_put (D := D) (ci := 5) (v := .int 0) (ty := .int) (C := "PageScribe$Reader") (T := F_Reader) (N := 10) hx hb hts i_Reader t_Reader t_Reader_ok n_Reader hown hK hP hD hS 0 rfl rfl 4 (by decide +kernel) (hts _ k_1_171) (fun _ h9 => h9) rfl (by decide +kernel) rfl rfl (Nat.le_of_ble_eq_true rfl) d_Reader_init_19 (fun H locs hP hD hS => ?_)
  have hP : va_P D classes [(h0, .inr (5, [.null, .null, .ref q1, .int 0, .int 0, .int 0, .int 0, .double 0, .null, .null])), (q1, .inl (T 2, 120, .inl zI))] H := hP
  have hD : va_D A [(h0, .inr (5, [.null, .null, .ref q1, .int 0, .int 0, .int 0, .int 0, .double 0, .null, .null])), (q1, .inl (T 2, 120, .inl zI))] := hD
  refine lv_aload_n hx hb d_Reader_init_22 rfl (lv_at hl 0 rfl) ?_
  refine lv_iconst (v := 0) hx hb d_Reader_init_23 (by decide +kernel) ?_
  refine va_put (D := D) (ci := 5) (v := .int 0) (ty := .int) (C := "PageScribe$Reader") (T := F_Reader) (N := 10) hx hb hts i_Reader t_Reader t_Reader_ok n_Reader hown hK hP hD hS 0 rfl rfl 5 (by decide +kernel) (hts _ k_1_172) (fun _ h9 => h9) rfl (by decide +kernel) rfl rfl (Nat.le_of_ble_eq_true rfl) d_Reader_init_24 (fun H locs hP hD hS => ?_)
  have hP : va_P D classes [(h0, .inr (5, [.null, .null, .ref q1, .int 0, .int 0, .int 0, .int 0, .double 0, .null, .null])), (q1, .inl (T 2, 120, .inl zI))] H := hP
  have hD : va_D A [(h0, .inr (5, [.null, .null, .ref q1, .int 0, .int 0, .int 0, .int 0, .double 0, .null, .null])), (q1, .inl (T 2, 120, .inl zI))] := hD
  refine lv_aload_n hx hb d_Reader_init_27 rfl (lv_at hl 0 rfl) ?_
  refine lv_iconst (v := 0) hx hb d_Reader_init_28 (by decide +kernel) ?_
  refine va_put (D := D) (ci := 5) (v := .int 0) (ty := .int) (C := "PageScribe$Reader") (T := F_Reader) (N := 10) hx hb hts i_Reader t_Reader t_Reader_ok n_Reader hown hK hP hD hS 0 rfl rfl 6 (by decide +kernel) (hts _ k_1_174) (fun _ h9 => h9) rfl (by decide +kernel) rfl rfl (Nat.le_of_ble_eq_true rfl) d_Reader_init_29 (fun H locs hP hD hS => ?_)
  have hP : va_P D classes [(h0, .inr (5, [.null, .null, .ref q1, .int 0, .int 0, .int 0, .int 0, .double 0, .null, .null])), (q1, .inl (T 2, 120, .inl zI))] H := hP
  have hD : va_D A [(h0, .inr (5, [.null, .null, .ref q1, .int 0, .int 0, .int 0, .int 0, .double 0, .null, .null])), (q1, .inl (T 2, 120, .inl zI))] := hD
  refine lv_aload_n hx hb d_Reader_init_32 rfl (lv_at hl 0 rfl) ?_
  refine lv_dconst0 hx hb d_Reader_init_33 ?_
  refine va_put (D := D) (ci := 5) (v := .double 0) (ty := .double) (C := "PageScribe$Reader") (T := F_Reader) (N := 10) hx hb hts i_Reader t_Reader t_Reader_ok n_Reader hown hK hP hD hS 0 rfl rfl 7 (by decide +kernel) (hts _ k_1_176) (fun _ h9 => h9) rfl (by decide +kernel) rfl rfl (Nat.le_of_ble_eq_true rfl) d_Reader_init_34 (fun H locs hP hD hS => ?_)
  have hP : va_P D classes [(h0, .inr (5, [.null, .null, .ref q1, .int 0, .int 0, .int 0, .int 0, .double 0, .null, .null])), (q1, .inl (T 2, 120, .inl zI))] H := hP
  have hD : va_D A [(h0, .inr (5, [.null, .null, .ref q1, .int 0, .int 0, .int 0, .int 0, .double 0, .null, .null])), (q1, .inl (T 2, 120, .inl zI))] := hD
  refine lv_aload_n hx hb d_Reader_init_37 rfl (lv_at hl 0 rfl) ?_
  refine va_new (ci := 4) (fs := [.null, .null, .null, .int 0]) (C := "PageScribe$Row") (T := F_Row) (N := 4) hx hb hts i_Row t_Row t_Row_ok hown (hts _ k_1_164) (hts _ k_1_100) (hts _ k_1_2) hK hP hD hS hA rfl z_Row (Nat.le_of_ble_eq_true rfl) (Nat.le_of_ble_eq_true rfl) d_Reader_init_38 (fun q2 H hP hD hS => ?_)
  have hP : va_P D classes [(h0, .inr (5, [.null, .null, .ref q1, .int 0, .int 0, .int 0, .int 0, .double 0, .null, .null])), (q1, .inl (T 2, 120, .inl zI)), (q2, .inr (4, [.null, .null, .null, .int 0]))] H := hP
  have hD : va_D A [(h0, .inr (5, [.null, .null, .ref q1, .int 0, .int 0, .int 0, .int 0, .double 0, .null, .null])), (q1, .inl (T 2, 120, .inl zI)), (q2, .inr (4, [.null, .null, .null, .int 0]))] := hD
  refine lv_dup hx hb d_Reader_init_41 rfl ?_
  refine lv_bipush (v := 120) hx hb d_Reader_init_42 (by decide +kernel) ?_
  refine j_cv (wc := [(q2, .inr (4, [.null, .null, .null, .int 0]))]) (wr := [(h0, .inr (5, [.null, .null, .ref q1, .int 0, .int 0, .int 0, .int 0, .double 0, .null, .null])), (q1, .inl (T 2, 120, .inl zI))]) hK hP hD hS hA [2] [0, 1] rfl rfl (by decide +kernel) (by decide +kernel) (va_runI (As := [.int 120]) (rest := [.ref q2, .ref h0]) F (i_Row_init_Row120 l D T q2 H.size) (j_cI (k := 1) hts k_1_44 k_1_2 k_1_165 k_1_43 rfl (by decide +kernel) ⟨Nat.le_of_ble_eq_true rfl, Nat.le_of_ble_eq_true rfl⟩) (j_preS hK hP hD [2] rfl (by decide +kernel) (fun _ _ _ _ h => h) (fun _ _ _ => trivial)) rfl rfl hl.1 rfl (lv_room (Nat.le_of_ble_eq_true rfl)) d_Reader_init_44 ⟨Nat.le_of_ble_eq_true rfl, Nat.le_of_ble_eq_true rfl⟩) (fun u1 H locs hw hP hD hS => ?_)
  obtain ⟨a1_1, a2_1, a3_1⟩ := u1
  have hP : va_P D classes [(h0, .inr (5, [.null, .null, .ref q1, .int 0, .int 0, .int 0, .int 0, .double 0, .null, .null])), (q1, .inl (T 2, 120, .inl zI)), (q2, .inr (4, [.ref a1_1, .ref a2_1, .ref a3_1, .int 0])), (a1_1, .inl (T 0, 120, .inl zI)), (a2_1, .inl (T 0, 120, .inl zI)), (a3_1, .inl (T 3, 120, .inr (.inr (.inr (.inl zD)))))] H := hP
  have hD : va_D A [(h0, .inr (5, [.null, .null, .ref q1, .int 0, .int 0, .int 0, .int 0, .double 0, .null, .null])), (q1, .inl (T 2, 120, .inl zI)), (q2, .inr (4, [.ref a1_1, .ref a2_1, .ref a3_1, .int 0])), (a1_1, .inl (T 0, 120, .inl zI)), (a2_1, .inl (T 0, 120, .inl zI)), (a3_1, .inl (T 3, 120, .inr (.inr (.inr (.inl zD)))))] := hD
  refine va_putF (D := D) (ci := 5) (v := .ref q2) (ty := .object "PageScribe$Row") (C := "PageScribe$Reader") (T := F_Reader) (N := 10) hx hb hts i_Reader t_Reader t_Reader_ok n_Reader hown hK hP hD hS 0 rfl rfl 8 (by decide +kernel) (hts _ k_1_178) (fun _ h9 => h9) rfl hin rfl (by decide +kernel) rfl rfl (Nat.le_of_ble_eq_true rfl) d_Reader_init_47 (fun H locs hP hD hS => ?_)
  have hP : va_P D classes [(h0, .inr (5, [.null, .null, .ref q1, .int 0, .int 0, .int 0, .int 0, .double 0, .ref q2, .null])), (q1, .inl (T 2, 120, .inl zI)), (q2, .inr (4, [.ref a1_1, .ref a2_1, .ref a3_1, .int 0])), (a1_1, .inl (T 0, 120, .inl zI)), (a2_1, .inl (T 0, 120, .inl zI)), (a3_1, .inl (T 3, 120, .inr (.inr (.inr (.inl zD)))))] H := hP
  have hD : va_D A [(h0, .inr (5, [.null, .null, .ref q1, .int 0, .int 0, .int 0, .int 0, .double 0, .ref q2, .null])), (q1, .inl (T 2, 120, .inl zI)), (q2, .inr (4, [.ref a1_1, .ref a2_1, .ref a3_1, .int 0])), (a1_1, .inl (T 0, 120, .inl zI)), (a2_1, .inl (T 0, 120, .inl zI)), (a3_1, .inl (T 3, 120, .inr (.inr (.inr (.inl zD)))))] := hD
  refine lv_aload_n hx hb d_Reader_init_50 rfl (lv_at hl 0 rfl) ?_
  refine lv_iconst (v := 4) hx hb d_Reader_init_51 (by decide +kernel) ?_
  refine j_newa (atype := .int) (ty := .int) F k_1_67 rfl hK hP hD hS hA 0 (T 0) rfl (4, .inl zI) (fun _ => rfl) (by decide +kernel) (by decide +kernel) (by decide +kernel) (Nat.le_of_ble_eq_true rfl) (Nat.le_of_ble_eq_true rfl) d_Reader_init_52 (fun q3 H hP hD hS => ?_)
  have hP : va_P D classes [(h0, .inr (5, [.null, .null, .ref q1, .int 0, .int 0, .int 0, .int 0, .double 0, .ref q2, .null])), (q1, .inl (T 2, 120, .inl zI)), (q2, .inr (4, [.ref a1_1, .ref a2_1, .ref a3_1, .int 0])), (a1_1, .inl (T 0, 120, .inl zI)), (a2_1, .inl (T 0, 120, .inl zI)), (a3_1, .inl (T 3, 120, .inr (.inr (.inr (.inl zD))))), (q3, .inl (T 0, 4, .inl zI))] H := hP
  have hD : va_D A [(h0, .inr (5, [.null, .null, .ref q1, .int 0, .int 0, .int 0, .int 0, .double 0, .ref q2, .null])), (q1, .inl (T 2, 120, .inl zI)), (q2, .inr (4, [.ref a1_1, .ref a2_1, .ref a3_1, .int 0])), (a1_1, .inl (T 0, 120, .inl zI)), (a2_1, .inl (T 0, 120, .inl zI)), (a3_1, .inl (T 3, 120, .inr (.inr (.inr (.inl zD))))), (q3, .inl (T 0, 4, .inl zI))] := hD
  refine va_putF (D := D) (ci := 5) (v := .ref q3) (ty := .array .int) (C := "PageScribe$Reader") (T := F_Reader) (N := 10) hx hb hts i_Reader t_Reader t_Reader_ok n_Reader hown hK hP hD hS 0 rfl rfl 9 (by decide +kernel) (hts _ k_1_179) (fun _ h9 => h9) rfl hin rfl (by decide +kernel) rfl rfl (Nat.le_of_ble_eq_true rfl) d_Reader_init_54 (fun H locs hP hD hS => ?_)
  have hP : va_P D classes [(h0, .inr (5, [.null, .null, .ref q1, .int 0, .int 0, .int 0, .int 0, .double 0, .ref q2, .ref q3])), (q1, .inl (T 2, 120, .inl zI)), (q2, .inr (4, [.ref a1_1, .ref a2_1, .ref a3_1, .int 0])), (a1_1, .inl (T 0, 120, .inl zI)), (a2_1, .inl (T 0, 120, .inl zI)), (a3_1, .inl (T 3, 120, .inr (.inr (.inr (.inl zD))))), (q3, .inl (T 0, 4, .inl zI))] H := hP
  have hD : va_D A [(h0, .inr (5, [.null, .null, .ref q1, .int 0, .int 0, .int 0, .int 0, .double 0, .ref q2, .ref q3])), (q1, .inl (T 2, 120, .inl zI)), (q2, .inr (4, [.ref a1_1, .ref a2_1, .ref a3_1, .int 0])), (a1_1, .inl (T 0, 120, .inl zI)), (a2_1, .inl (T 0, 120, .inl zI)), (a3_1, .inl (T 3, 120, .inr (.inr (.inr (.inl zD))))), (q3, .inl (T 0, 4, .inl zI))] := hD
  refine lv_aload_n hx hb d_Reader_init_57 rfl (lv_at hl 0 rfl) ?_
  refine lv_aload_n hx hb d_Reader_init_58 rfl (lv_at hl 1 rfl) ?_
  refine va_putF (D := D) (ci := 5) (v := .ref h1) (ty := .object "PageScribe$Words") (C := "PageScribe$Reader") (T := F_Reader) (N := 10) hx hb hts i_Reader t_Reader t_Reader_ok n_Reader hown hK hP hD hS 0 rfl rfl 0 (by decide +kernel) (hts _ k_1_166) (fun _ h9 => h9) rfl hin rfl (by decide +kernel) rfl rfl (Nat.le_of_ble_eq_true rfl) d_Reader_init_59 (fun H locs hP hD hS => ?_)
  have hP : va_P D classes [(h0, .inr (5, [.ref h1, .null, .ref q1, .int 0, .int 0, .int 0, .int 0, .double 0, .ref q2, .ref q3])), (q1, .inl (T 2, 120, .inl zI)), (q2, .inr (4, [.ref a1_1, .ref a2_1, .ref a3_1, .int 0])), (a1_1, .inl (T 0, 120, .inl zI)), (a2_1, .inl (T 0, 120, .inl zI)), (a3_1, .inl (T 3, 120, .inr (.inr (.inr (.inl zD))))), (q3, .inl (T 0, 4, .inl zI))] H := hP
  have hD : va_D A [(h0, .inr (5, [.ref h1, .null, .ref q1, .int 0, .int 0, .int 0, .int 0, .double 0, .ref q2, .ref q3])), (q1, .inl (T 2, 120, .inl zI)), (q2, .inr (4, [.ref a1_1, .ref a2_1, .ref a3_1, .int 0])), (a1_1, .inl (T 0, 120, .inl zI)), (a2_1, .inl (T 0, 120, .inl zI)), (a3_1, .inl (T 3, 120, .inr (.inr (.inr (.inl zD))))), (q3, .inl (T 0, 4, .inl zI))] := hD
  refine lv_aload_n hx hb d_Reader_init_62 rfl (lv_at hl 0 rfl) ?_
  refine lv_aload_n hx hb d_Reader_init_63 rfl (lv_at hl 2 rfl) ?_
  refine va_putF (D := D) (ci := 5) (v := .ref h2) (ty := .object "PageScribe$Store") (C := "PageScribe$Reader") (T := F_Reader) (N := 10) hx hb hts i_Reader t_Reader t_Reader_ok n_Reader hown hK hP hD hS 0 rfl rfl 1 (by decide +kernel) (hts _ k_1_167) (fun _ h9 => h9) rfl hin rfl (by decide +kernel) rfl rfl (Nat.le_of_ble_eq_true rfl) d_Reader_init_64 (fun H locs hP hD hS => ?_)
  have hP : va_P D classes [(h0, .inr (5, [.ref h1, .ref h2, .ref q1, .int 0, .int 0, .int 0, .int 0, .double 0, .ref q2, .ref q3])), (q1, .inl (T 2, 120, .inl zI)), (q2, .inr (4, [.ref a1_1, .ref a2_1, .ref a3_1, .int 0])), (a1_1, .inl (T 0, 120, .inl zI)), (a2_1, .inl (T 0, 120, .inl zI)), (a3_1, .inl (T 3, 120, .inr (.inr (.inr (.inl zD))))), (q3, .inl (T 0, 4, .inl zI))] H := hP
  have hD : va_D A [(h0, .inr (5, [.ref h1, .ref h2, .ref q1, .int 0, .int 0, .int 0, .int 0, .double 0, .ref q2, .ref q3])), (q1, .inl (T 2, 120, .inl zI)), (q2, .inr (4, [.ref a1_1, .ref a2_1, .ref a3_1, .int 0])), (a1_1, .inl (T 0, 120, .inl zI)), (a2_1, .inl (T 0, 120, .inl zI)), (a3_1, .inl (T 3, 120, .inr (.inr (.inr (.inl zD))))), (q3, .inl (T 0, 4, .inl zI))] := hD
  have hP9 := hP.sub (ws' := [(h0, .inr (5, [.ref h1, .ref h2, .ref q1, .int 0, .int 0, .int 0, .int 0, .double 0, .ref q2, .ref q3])), (q1, .inl (T 2, 120, .inl zI)), (q2, .inr (4, [.ref a1_1, .ref a2_1, .ref a3_1, .int 0])), (a1_1, .inl (T 0, 120, .inl zI)), (a2_1, .inl (T 0, 120, .inl zI)), (a3_1, .inl (T 3, 120, .inr (.inr (.inr (.inl zD))))), (q3, .inl (T 0, 4, .inl zI))]) [0, 1, 2, 3, 4, 5, 6] rfl
  have hD9 := hD.sub (ws' := [(h0, .inr (5, [.ref h1, .ref h2, .ref q1, .int 0, .int 0, .int 0, .int 0, .double 0, .ref q2, .ref q3])), (q1, .inl (T 2, 120, .inl zI)), (q2, .inr (4, [.ref a1_1, .ref a2_1, .ref a3_1, .int 0])), (a1_1, .inl (T 0, 120, .inl zI)), (a2_1, .inl (T 0, 120, .inl zI)), (a3_1, .inl (T 3, 120, .inr (.inr (.inr (.inl zD))))), (q3, .inl (T 0, 4, .inl zI))]) [0, 1, 2, 3, 4, 5, 6] (by decide +kernel) rfl
  refine W.widen (k := 6) (n := 488) (Nat.le_of_ble_eq_true rfl) (Nat.le_of_ble_eq_true rfl) ?_
  exact j_vret F hr hlocks hK hS ((fun i => [0, 0, 0, 0, 0, 0, 0, 0, 0, 0, 0, 0, 0, 0, 0, 0, 0, 0, 0, 0, 0, 0, 0, 0, 0, 0, 0, 0, 0, 0, 0, 0, 0, 0, 0, 0, 0, 0, 0, 0, 0, 0, 0, 0, 0, 0, 0, 0, 0, 0, 0, 0, 0, 0, 0, 0, 0, 0, 0, 0, 0, q1, q2, a1_1, a2_1, a3_1, q3].getD i 0)) trivial hP9 hD9 d_Reader_init_67
theorem d_Sums_init_0 : decode prog_11_method_1_code 0 = .ok (.aload_n 0, 1) := by decide +kernel
theorem d_Sums_init_1 : decode prog_11_method_1_code 1 = .ok (.invokespecial 3, 3) := by decide +kernel
theorem k_2_7 : Cond.methodLink "PageScribe$Sums" 3 ⟨"java/lang/Object", "<init>", "()V"⟩ ∈ gw := gw_of (tb_2 (List.mem_of_getElem? (i := 7) (by decide +kernel))) (by decide +kernel)
theorem d_Sums_init_4 : decode prog_11_method_1_code 4 = .ok (.aload_n 0, 1) := by decide +kernel
theorem d_Sums_init_5 : decode prog_11_method_1_code 5 = .ok (.aload_n 1, 1) := by decide +kernel
theorem d_Sums_init_6 : decode prog_11_method_1_code 6 = .ok (.putfield 9, 3) := by decide +kernel
theorem d_Sums_init_9 : decode prog_11_method_1_code 9 = .ok (.return_, 1) := by decide +kernel
set_option maxHeartbeats 4000000 in
set_option maxRecDepth 100000 in
theorem i_Sums_init (l : Launch) (D : va_G) (T : Nat → ClassId) (h0 : Nat) (h1 : Nat) (sz : Nat) : Met l ⟨"PageScribe$Sums", "<init>", "(LPageScribe$Stack;)V"⟩ (wy ⟨"PageScribe$Sums", "<init>", "(LPageScribe$Stack;)V"⟩ prog_11_method_1_code 2 none) ({ frames := 1, cells := 0, slots := 0, locals := 70 }) (va_Pc [.ref h0, .ref h1] (Pw D T [(h0, .inr (8, [.null]))] sz E0)) (va_Qv (fun (u : Unit) => True) (fun u t => Bw D T (va_A [(h0, .inr (8, [.null]))] sz) [(h0, .inr (8, [.ref h1]))] t) (va_A [(h0, .inr (8, [.null]))] sz)) 0 0 (va_A [(h0, .inr (8, [.null]))] sz) := by
  refine j_met (y := ⟨"PageScribe$Sums", "<init>", "(LPageScribe$Stack;)V"⟩) (b := prog_11_method_1_code) (n := 2) (ret := none) (av := [.ref h0, .ref h1]) (Qc := fun A => va_Qv (fun (u : Unit) => True) (fun u t => Bw D T A [(h0, .inr (8, [.ref h1]))] t) A) (by decide +kernel) (Nat.le_of_ble_eq_true rfl) (fun p e s m args below meth c A ls F hr hlocks hnm hK hP hD hS hA hN hE hl => ?_)
  obtain ⟨hx, hb, hml, hown, hts⟩ := id F
  have hin := hnm
  have hl : lv_has ls 2 [(0, .ref h0), (1, .ref h1)] := hl
  refine lv_aload_n hx hb d_Sums_init_0 rfl (lv_at hl 0 rfl) ?_
  refine j_obj F hl.1 k_2_7 k_1_35 k_1_36 d_Sums_init_1 (Nat.le_of_ble_eq_true rfl) (Nat.le_of_ble_eq_true rfl) ?_
  refine lv_aload_n hx hb d_Sums_init_4 rfl (lv_at hl 0 rfl) ?_
  refine lv_aload_n hx hb d_Sums_init_5 rfl (lv_at hl 1 rfl) ?_
  refine va_putF (D := D) (ci := 8) (v := .ref h1) (ty := .object "PageScribe$Stack") (C := "PageScribe$Sums") (T := F_Sums) (N := 1) hx hb hts i_Sums t_Sums t_Sums_ok n_Sums hown hK hP hD hS 0 rfl rfl 0 (by decide +kernel) (hts _ k_2_8) (fun _ h9 => h9) rfl hin rfl (by decide +kernel) rfl rfl (Nat.le_of_ble_eq_true rfl) d_Sums_init_6 (fun H locs hP hD hS => ?_)
  have hP : va_P D classes [(h0, .inr (8, [.ref h1]))] H := hP
  have hD : va_D A [(h0, .inr (8, [.ref h1]))] := hD
  have hP9 := hP.sub (ws' := [(h0, .inr (8, [.ref h1]))]) [0] rfl
  have hD9 := hD.sub (ws' := [(h0, .inr (8, [.ref h1]))]) [0] (by decide +kernel) rfl
  refine W.widen (k := 0) (n := 0) (Nat.le_of_ble_eq_true rfl) (Nat.le_of_ble_eq_true rfl) ?_
  exact j_vret F hr hlocks hK hS () trivial hP9 hD9 d_Sums_init_9
theorem d_Truths_init_0 : decode prog_12_method_1_code 0 = .ok (.aload_n 0, 1) := by decide +kernel
theorem d_Truths_init_1 : decode prog_12_method_1_code 1 = .ok (.invokespecial 3, 3) := by decide +kernel
theorem k_2_17 : Cond.methodLink "PageScribe$Truths" 3 ⟨"java/lang/Object", "<init>", "()V"⟩ ∈ gw := gw_of (tb_2 (List.mem_of_getElem? (i := 17) (by decide +kernel))) (by decide +kernel)
theorem d_Truths_init_4 : decode prog_12_method_1_code 4 = .ok (.aload_n 0, 1) := by decide +kernel
theorem d_Truths_init_5 : decode prog_12_method_1_code 5 = .ok (.aload_n 1, 1) := by decide +kernel
theorem d_Truths_init_6 : decode prog_12_method_1_code 6 = .ok (.putfield 9, 3) := by decide +kernel
theorem d_Truths_init_9 : decode prog_12_method_1_code 9 = .ok (.return_, 1) := by decide +kernel
set_option maxHeartbeats 4000000 in
set_option maxRecDepth 100000 in
theorem i_Truths_init (l : Launch) (D : va_G) (T : Nat → ClassId) (h0 : Nat) (h1 : Nat) (sz : Nat) : Met l ⟨"PageScribe$Truths", "<init>", "(LPageScribe$Stack;)V"⟩ (wy ⟨"PageScribe$Truths", "<init>", "(LPageScribe$Stack;)V"⟩ prog_12_method_1_code 2 none) ({ frames := 1, cells := 0, slots := 0, locals := 70 }) (va_Pc [.ref h0, .ref h1] (Pw D T [(h0, .inr (9, [.null]))] sz E0)) (va_Qv (fun (u : Unit) => True) (fun u t => Bw D T (va_A [(h0, .inr (9, [.null]))] sz) [(h0, .inr (9, [.ref h1]))] t) (va_A [(h0, .inr (9, [.null]))] sz)) 0 0 (va_A [(h0, .inr (9, [.null]))] sz) := by
  refine j_met (y := ⟨"PageScribe$Truths", "<init>", "(LPageScribe$Stack;)V"⟩) (b := prog_12_method_1_code) (n := 2) (ret := none) (av := [.ref h0, .ref h1]) (Qc := fun A => va_Qv (fun (u : Unit) => True) (fun u t => Bw D T A [(h0, .inr (9, [.ref h1]))] t) A) (by decide +kernel) (Nat.le_of_ble_eq_true rfl) (fun p e s m args below meth c A ls F hr hlocks hnm hK hP hD hS hA hN hE hl => ?_)
  obtain ⟨hx, hb, hml, hown, hts⟩ := id F
  have hin := hnm
  have hl : lv_has ls 2 [(0, .ref h0), (1, .ref h1)] := hl
  refine lv_aload_n hx hb d_Truths_init_0 rfl (lv_at hl 0 rfl) ?_
  refine j_obj F hl.1 k_2_17 k_1_35 k_1_36 d_Truths_init_1 (Nat.le_of_ble_eq_true rfl) (Nat.le_of_ble_eq_true rfl) ?_
  refine lv_aload_n hx hb d_Truths_init_4 rfl (lv_at hl 0 rfl) ?_
  refine lv_aload_n hx hb d_Truths_init_5 rfl (lv_at hl 1 rfl) ?_
  refine va_putF (D := D) (ci := 9) (v := .ref h1) (ty := .object "PageScribe$Stack") (C := "PageScribe$Truths") (T := F_Truths) (N := 1) hx hb hts i_Truths t_Truths t_Truths_ok n_Truths hown hK hP hD hS 0 rfl rfl 0 (by decide +kernel) (hts _ k_2_18) (fun _ h9 => h9) rfl hin rfl (by decide +kernel) rfl rfl (Nat.le_of_ble_eq_true rfl) d_Truths_init_6 (fun H locs hP hD hS => ?_)
  have hP : va_P D classes [(h0, .inr (9, [.ref h1]))] H := hP
  have hD : va_D A [(h0, .inr (9, [.ref h1]))] := hD
  have hP9 := hP.sub (ws' := [(h0, .inr (9, [.ref h1]))]) [0] rfl
  have hD9 := hD.sub (ws' := [(h0, .inr (9, [.ref h1]))]) [0] (by decide +kernel) rfl
  refine W.widen (k := 0) (n := 0) (Nat.le_of_ble_eq_true rfl) (Nat.le_of_ble_eq_true rfl) ?_
  exact j_vret F hr hlocks hK hS () trivial hP9 hD9 d_Truths_init_9
theorem d_Engine_init_0 : decode prog_4_method_1_code 0 = .ok (.aload_n 0, 1) := by decide +kernel
theorem d_Engine_init_1 : decode prog_4_method_1_code 1 = .ok (.invokespecial 3, 3) := by decide +kernel
theorem k_2_1 : Cond.methodLink "PageScribe$Engine" 3 ⟨"java/lang/Object", "<init>", "()V"⟩ ∈ gw := gw_of (tb_2 (List.mem_of_getElem? (i := 1) (by decide +kernel))) (by decide +kernel)
theorem d_Engine_init_4 : decode prog_4_method_1_code 4 = .ok (.aload_n 0, 1) := by decide +kernel
theorem d_Engine_init_5 : decode prog_4_method_1_code 5 = .ok (.iconst 0, 1) := by decide +kernel
theorem d_Engine_init_6 : decode prog_4_method_1_code 6 = .ok (.putfield 9, 3) := by decide +kernel
theorem d_Engine_init_9 : decode prog_4_method_1_code 9 = .ok (.aload_n 0, 1) := by decide +kernel
theorem d_Engine_init_10 : decode prog_4_method_1_code 10 = .ok (.iconst 0, 1) := by decide +kernel
theorem d_Engine_init_11 : decode prog_4_method_1_code 11 = .ok (.putfield 15, 3) := by decide +kernel
theorem d_Engine_init_14 : decode prog_4_method_1_code 14 = .ok (.aload_n 0, 1) := by decide +kernel
theorem d_Engine_init_15 : decode prog_4_method_1_code 15 = .ok (.iconst 0, 1) := by decide +kernel
theorem d_Engine_init_16 : decode prog_4_method_1_code 16 = .ok (.putfield 18, 3) := by decide +kernel
theorem d_Engine_init_19 : decode prog_4_method_1_code 19 = .ok (.aload_n 0, 1) := by decide +kernel
theorem d_Engine_init_20 : decode prog_4_method_1_code 20 = .ok (.iconst 0, 1) := by decide +kernel
theorem d_Engine_init_21 : decode prog_4_method_1_code 21 = .ok (.putfield 21, 3) := by decide +kernel
theorem d_Engine_init_24 : decode prog_4_method_1_code 24 = .ok (.aload_n 0, 1) := by decide +kernel
theorem d_Engine_init_25 : decode prog_4_method_1_code 25 = .ok (.iconst 0, 1) := by decide +kernel
theorem d_Engine_init_26 : decode prog_4_method_1_code 26 = .ok (.putfield 24, 3) := by decide +kernel
theorem d_Engine_init_29 : decode prog_4_method_1_code 29 = .ok (.aload_n 0, 1) := by decide +kernel
theorem d_Engine_init_30 : decode prog_4_method_1_code 30 = .ok (.iconst 0, 1) := by decide +kernel
theorem d_Engine_init_31 : decode prog_4_method_1_code 31 = .ok (.putfield 27, 3) := by decide +kernel
theorem d_Engine_init_34 : decode prog_4_method_1_code 34 = .ok (.aload_n 0, 1) := by decide +kernel
theorem d_Engine_init_35 : decode prog_4_method_1_code 35 = .ok (.aload_n 1, 1) := by decide +kernel
theorem d_Engine_init_36 : decode prog_4_method_1_code 36 = .ok (.putfield 30, 3) := by decide +kernel
theorem d_Engine_init_39 : decode prog_4_method_1_code 39 = .ok (.aload_n 0, 1) := by decide +kernel
theorem d_Engine_init_40 : decode prog_4_method_1_code 40 = .ok (.aload_n 2, 1) := by decide +kernel
theorem d_Engine_init_41 : decode prog_4_method_1_code 41 = .ok (.putfield 34, 3) := by decide +kernel
theorem d_Engine_init_44 : decode prog_4_method_1_code 44 = .ok (.aload_n 0, 1) := by decide +kernel
theorem d_Engine_init_45 : decode prog_4_method_1_code 45 = .ok (.aload_n 3, 1) := by decide +kernel
theorem d_Engine_init_46 : decode prog_4_method_1_code 46 = .ok (.putfield 38, 3) := by decide +kernel
theorem d_Engine_init_49 : decode prog_4_method_1_code 49 = .ok (.aload_n 0, 1) := by decide +kernel
theorem d_Engine_init_50 : decode prog_4_method_1_code 50 = .ok (.new 42, 3) := by decide +kernel
theorem k_2_2 : Cond.classLink "PageScribe$Engine" 42 "PageScribe$Sums" ∈ gw := gw_of (tb_2 (List.mem_of_getElem? (i := 2) (by decide +kernel))) (by decide +kernel)
theorem k_2_3 : Cond.instantiable "PageScribe$Sums" 1 ∈ gw := gw_of (tb_2 (List.mem_of_getElem? (i := 3) (by decide +kernel))) (by decide +kernel)
theorem d_Engine_init_53 : decode prog_4_method_1_code 53 = .ok (.dup, 1) := by decide +kernel
theorem d_Engine_init_54 : decode prog_4_method_1_code 54 = .ok (.aload_n 1, 1) := by decide +kernel
theorem d_Engine_init_55 : decode prog_4_method_1_code 55 = .ok (.invokespecial 44, 3) := by decide +kernel
theorem k_2_6 : Cond.code ⟨"PageScribe$Sums", "<init>", "(LPageScribe$Stack;)V"⟩ prog_11_method_1_code 2 none ∈ gw := gw_of (tb_2 (List.mem_of_getElem? (i := 6) (by decide +kernel))) (by decide +kernel)
theorem k_2_4 : Cond.methodLink "PageScribe$Engine" 44 ⟨"PageScribe$Sums", "<init>", "(LPageScribe$Stack;)V"⟩ ∈ gw := gw_of (tb_2 (List.mem_of_getElem? (i := 4) (by decide +kernel))) (by decide +kernel)
theorem k_2_5 : Cond.instanceMethod ⟨"PageScribe$Sums", "<init>", "(LPageScribe$Stack;)V"⟩ ∈ gw := gw_of (tb_2 (List.mem_of_getElem? (i := 5) (by decide +kernel))) (by decide +kernel)
theorem d_Engine_init_58 : decode prog_4_method_1_code 58 = .ok (.putfield 47, 3) := by decide +kernel
theorem d_Engine_init_61 : decode prog_4_method_1_code 61 = .ok (.aload_n 0, 1) := by decide +kernel
theorem d_Engine_init_62 : decode prog_4_method_1_code 62 = .ok (.new 51, 3) := by decide +kernel
theorem k_2_12 : Cond.classLink "PageScribe$Engine" 51 "PageScribe$Truths" ∈ gw := gw_of (tb_2 (List.mem_of_getElem? (i := 12) (by decide +kernel))) (by decide +kernel)
theorem k_2_13 : Cond.instantiable "PageScribe$Truths" 1 ∈ gw := gw_of (tb_2 (List.mem_of_getElem? (i := 13) (by decide +kernel))) (by decide +kernel)
theorem d_Engine_init_65 : decode prog_4_method_1_code 65 = .ok (.dup, 1) := by decide +kernel
theorem d_Engine_init_66 : decode prog_4_method_1_code 66 = .ok (.aload_n 1, 1) := by decide +kernel
theorem d_Engine_init_67 : decode prog_4_method_1_code 67 = .ok (.invokespecial 53, 3) := by decide +kernel
theorem k_2_16 : Cond.code ⟨"PageScribe$Truths", "<init>", "(LPageScribe$Stack;)V"⟩ prog_12_method_1_code 2 none ∈ gw := gw_of (tb_2 (List.mem_of_getElem? (i := 16) (by decide +kernel))) (by decide +kernel)
theorem k_2_14 : Cond.methodLink "PageScribe$Engine" 53 ⟨"PageScribe$Truths", "<init>", "(LPageScribe$Stack;)V"⟩ ∈ gw := gw_of (tb_2 (List.mem_of_getElem? (i := 14) (by decide +kernel))) (by decide +kernel)
theorem k_2_15 : Cond.instanceMethod ⟨"PageScribe$Truths", "<init>", "(LPageScribe$Stack;)V"⟩ ∈ gw := gw_of (tb_2 (List.mem_of_getElem? (i := 15) (by decide +kernel))) (by decide +kernel)
theorem d_Engine_init_70 : decode prog_4_method_1_code 70 = .ok (.putfield 54, 3) := by decide +kernel
theorem d_Engine_init_73 : decode prog_4_method_1_code 73 = .ok (.return_, 1) := by decide +kernel
set_option maxHeartbeats 4000000 in
set_option maxRecDepth 100000 in
theorem i_Engine_init (l : Launch) (D : va_G) (T : Nat → ClassId) (h0 : Nat) (h1 : Nat) (h2 : Nat) (h3 : Nat) (sz : Nat) : Met l ⟨"PageScribe$Engine", "<init>", "(LPageScribe$Stack;LPageScribe$Memory;LPageScribe$Canvas;)V"⟩ (wy ⟨"PageScribe$Engine", "<init>", "(LPageScribe$Stack;LPageScribe$Memory;LPageScribe$Canvas;)V"⟩ prog_4_method_1_code 4 none) ({ frames := 2, cells := 2, slots := 2, locals := 140 }) (va_Pc [.ref h0, .ref h1, .ref h2, .ref h3] (Pw D T [(h0, .inr (7, [.null, .null, .null, .null, .null, .int 0, .int 0, .int 0, .int 0, .int 0, .int 0]))] sz E0)) (va_Qv (fun (u : Nat × Nat) => True) (fun u t => Bw D T (va_A [(h0, .inr (7, [.null, .null, .null, .null, .null, .int 0, .int 0, .int 0, .int 0, .int 0, .int 0]))] sz) [(h0, .inr (7, [.ref h1, .ref h2, .ref h3, .ref u.1, .ref u.2, .int 0, .int 0, .int 0, .int 0, .int 0, .int 0])), (u.1, .inr (8, [.ref h1])), (u.2, .inr (9, [.ref h1]))] t) (va_A [(h0, .inr (7, [.null, .null, .null, .null, .null, .int 0, .int 0, .int 0, .int 0, .int 0, .int 0]))] sz)) 2 2 (va_A [(h0, .inr (7, [.null, .null, .null, .null, .null, .int 0, .int 0, .int 0, .int 0, .int 0, .int 0]))] sz) := by
  refine j_met (y := ⟨"PageScribe$Engine", "<init>", "(LPageScribe$Stack;LPageScribe$Memory;LPageScribe$Canvas;)V"⟩) (b := prog_4_method_1_code) (n := 4) (ret := none) (av := [.ref h0, .ref h1, .ref h2, .ref h3]) (Qc := fun A => va_Qv (fun (u : Nat × Nat) => True) (fun u t => Bw D T A [(h0, .inr (7, [.ref h1, .ref h2, .ref h3, .ref u.1, .ref u.2, .int 0, .int 0, .int 0, .int 0, .int 0, .int 0])), (u.1, .inr (8, [.ref h1])), (u.2, .inr (9, [.ref h1]))] t) A) (by decide +kernel) (Nat.le_of_ble_eq_true rfl) (fun p e s m args below meth c A ls F hr hlocks hnm hK hP hD hS hA hN hE hl => ?_)
  obtain ⟨hx, hb, hml, hown, hts⟩ := id F
  have hin := hnm
  have hl : lv_has ls 4 [(0, .ref h0), (1, .ref h1), (2, .ref h2), (3, .ref h3)] := hl
  refine lv_aload_n hx hb d_Engine_init_0 rfl (lv_at hl 0 rfl) ?_
  refine j_obj F hl.1 k_2_1 k_1_35 k_1_36 d_Engine_init_1 (Nat.le_of_ble_eq_true rfl) (Nat.le_of_ble_eq_true rfl) ?_
  refine lv_aload_n hx hb d_Engine_init_4 rfl (lv_at hl 0 rfl) ?_
  refine lv_iconst (v := 0) hx hb d_Engine_init_5 (by decide +kernel) ?_
  refine va_put (D := D) (ci := 7) (v := .int 0) (ty := .int) (C := "PageScribe$Engine") (T := F_Engine) (N := 11) hx hb hts i_Engine t_Engine t_Engine_ok n_Engine hown hK hP hD hS 0 rfl rfl 5 (by decide +kernel) (hts _ k_2_27) (fun _ h9 => h9) rfl (by decide +kernel) rfl rfl (Nat.le_of_ble_eq_true rfl) d_Engine_init_6 (fun H locs hP hD hS => ?_)
  have hP : va_P D classes [(h0, .inr (7, [.null, .null, .null, .null, .null, .int 0, .int 0, .int 0, .int 0, .int 0, .int 0]))] H := hP
  have hD : va_D A [(h0, .inr (7, [.null, .null, .null, .null, .null, .int 0, .int 0, .int 0, .int 0, .int 0, .int 0]))] := hD
  refine lv_aload_n hx hb d_Engine_init_9 rfl (lv_at hl 0 rfl) ?_
  refine lv_iconst (v := 0) hx hb d_Engine_init_10 (by decide +kernel) ?_
  refine va_put (D := D) (ci := 7) (v := .int 0) (ty := .int) (C := "PageScribe$Engine") (T := F_Engine) (N := 11) hx hb hts i_Engine t_Engine t_Engine_ok n_Engine hown hK hP hD hS 0 rfl rfl 6 (by decide +kernel) (hts _ k_2_28) (fun _ h9 => h9) rfl (by decide +kernel) rfl rfl (Nat.le_of_ble_eq_true rfl) d_Engine_init_11 (fun H locs hP hD hS => ?_)
  have hP : va_P D classes [(h0, .inr (7, [.null, .null, .null, .null, .null, .int 0, .int 0, .int 0, .int 0, .int 0, .int 0]))] H := hP
  have hD : va_D A [(h0, .inr (7, [.null, .null, .null, .null, .null, .int 0, .int 0, .int 0, .int 0, .int 0, .int 0]))] := hD
  refine lv_aload_n hx hb d_Engine_init_14 rfl (lv_at hl 0 rfl) ?_
  refine lv_iconst (v := 0) hx hb d_Engine_init_15 (by decide +kernel) ?_
  refine va_put (D := D) (ci := 7) (v := .int 0) (ty := .int) (C := "PageScribe$Engine") (T := F_Engine) (N := 11) hx hb hts i_Engine t_Engine t_Engine_ok n_Engine hown hK hP hD hS 0 rfl rfl 7 (by decide +kernel) (hts _ k_2_30) (fun _ h9 => h9) rfl (by decide +kernel) rfl rfl (Nat.le_of_ble_eq_true rfl) d_Engine_init_16 (fun H locs hP hD hS => ?_)
  have hP : va_P D classes [(h0, .inr (7, [.null, .null, .null, .null, .null, .int 0, .int 0, .int 0, .int 0, .int 0, .int 0]))] H := hP
  have hD : va_D A [(h0, .inr (7, [.null, .null, .null, .null, .null, .int 0, .int 0, .int 0, .int 0, .int 0, .int 0]))] := hD
  refine lv_aload_n hx hb d_Engine_init_19 rfl (lv_at hl 0 rfl) ?_
  refine lv_iconst (v := 0) hx hb d_Engine_init_20 (by decide +kernel) ?_
  refine va_put (D := D) (ci := 7) (v := .int 0) (ty := .int) (C := "PageScribe$Engine") (T := F_Engine) (N := 11) hx hb hts i_Engine t_Engine t_Engine_ok n_Engine hown hK hP hD hS 0 rfl rfl 8 (by decide +kernel) (hts _ k_2_32) (fun _ h9 => h9) rfl (by decide +kernel) rfl rfl (Nat.le_of_ble_eq_true rfl) d_Engine_init_21 (fun H locs hP hD hS => ?_)
  have hP : va_P D classes [(h0, .inr (7, [.null, .null, .null, .null, .null, .int 0, .int 0, .int 0, .int 0, .int 0, .int 0]))] H := hP
  have hD : va_D A [(h0, .inr (7, [.null, .null, .null, .null, .null, .int 0, .int 0, .int 0, .int 0, .int 0, .int 0]))] := hD
  refine lv_aload_n hx hb d_Engine_init_24 rfl (lv_at hl 0 rfl) ?_
  refine lv_iconst (v := 0) hx hb d_Engine_init_25 (by decide +kernel) ?_
  refine va_put (D := D) (ci := 7) (v := .int 0) (ty := .int) (C := "PageScribe$Engine") (T := F_Engine) (N := 11) hx hb hts i_Engine t_Engine t_Engine_ok n_Engine hown hK hP hD hS 0 rfl rfl 9 (by decide +kernel) (hts _ k_2_33) (fun _ h9 => h9) rfl (by decide +kernel) rfl rfl (Nat.le_of_ble_eq_true rfl) d_Engine_init_26 (fun H locs hP hD hS => ?_)
  have hP : va_P D classes [(h0, .inr (7, [.null, .null, .null, .null, .null, .int 0, .int 0, .int 0, .int 0, .int 0, .int 0]))] H := hP
  have hD : va_D A [(h0, .inr (7, [.null, .null, .null, .null, .null, .int 0, .int 0, .int 0, .int 0, .int 0, .int 0]))] := hD
  refine lv_aload_n hx hb d_Engine_init_29 rfl (lv_at hl 0 rfl) ?_
  refine lv_iconst (v := 0) hx hb d_Engine_init_30 (by decide +kernel) ?_
  refine va_put (D := D) (ci := 7) (v := .int 0) (ty := .int) (C := "PageScribe$Engine") (T := F_Engine) (N := 11) hx hb hts i_Engine t_Engine t_Engine_ok n_Engine hown hK hP hD hS 0 rfl rfl 10 (by decide +kernel) (hts _ k_2_34) (fun _ h9 => h9) rfl (by decide +kernel) rfl rfl (Nat.le_of_ble_eq_true rfl) d_Engine_init_31 (fun H locs hP hD hS => ?_)
  have hP : va_P D classes [(h0, .inr (7, [.null, .null, .null, .null, .null, .int 0, .int 0, .int 0, .int 0, .int 0, .int 0]))] H := hP
  have hD : va_D A [(h0, .inr (7, [.null, .null, .null, .null, .null, .int 0, .int 0, .int 0, .int 0, .int 0, .int 0]))] := hD
  refine lv_aload_n hx hb d_Engine_init_34 rfl (lv_at hl 0 rfl) ?_
  refine lv_aload_n hx hb d_Engine_init_35 rfl (lv_at hl 1 rfl) ?_
  refine va_putF (D := D) (ci := 7) (v := .ref h1) (ty := .object "PageScribe$Stack") (C := "PageScribe$Engine") (T := F_Engine) (N := 11) hx hb hts i_Engine t_Engine t_Engine_ok n_Engine hown hK hP hD hS 0 rfl rfl 0 (by decide +kernel) (hts _ k_2_22) (fun _ h9 => h9) rfl hin rfl (by decide +kernel) rfl rfl (Nat.le_of_ble_eq_true rfl) d_Engine_init_36 (fun H locs hP hD hS => ?_)
  have hP : va_P D classes [(h0, .inr (7, [.ref h1, .null, .null, .null, .null, .int 0, .int 0, .int 0, .int 0, .int 0, .int 0]))] H := hP
  have hD : va_D A [(h0, .inr (7, [.ref h1, .null, .null, .null, .null, .int 0, .int 0, .int 0, .int 0, .int 0, .int 0]))] := hD
  refine lv_aload_n hx hb d_Engine_init_39 rfl (lv_at hl 0 rfl) ?_
  refine lv_aload_n hx hb d_Engine_init_40 rfl (lv_at hl 2 rfl) ?_
  refine va_putF (D := D) (ci := 7) (v := .ref h2) (ty := .object "PageScribe$Memory") (C := "PageScribe$Engine") (T := F_Engine) (N := 11) hx hb hts i_Engine t_Engine t_Engine_ok n_Engine hown hK hP hD hS 0 rfl rfl 1 (by decide +kernel) (hts _ k_2_23) (fun _ h9 => h9) rfl hin rfl (by decide +kernel) rfl rfl (Nat.le_of_ble_eq_true rfl) d_Engine_init_41 (fun H locs hP hD hS => ?_)
  have hP : va_P D classes [(h0, .inr (7, [.ref h1, .ref h2, .null, .null, .null, .int 0, .int 0, .int 0, .int 0, .int 0, .int 0]))] H := hP
  have hD : va_D A [(h0, .inr (7, [.ref h1, .ref h2, .null, .null, .null, .int 0, .int 0, .int 0, .int 0, .int 0, .int 0]))] := hD
  refine lv_aload_n hx hb d_Engine_init_44 rfl (lv_at hl 0 rfl) ?_
  refine lv_aload_n hx hb d_Engine_init_45 rfl (lv_at hl 3 rfl) ?_
  refine va_putF (D := D) (ci := 7) (v := .ref h3) (ty := .object "PageScribe$Canvas") (C := "PageScribe$Engine") (T := F_Engine) (N := 11) hx hb hts i_Engine t_Engine t_Engine_ok n_Engine hown hK hP hD hS 0 rfl rfl 2 (by decide +kernel) (hts _ k_2_24) (fun _ h9 => h9) rfl hin rfl (by decide +kernel) rfl rfl (Nat.le_of_ble_eq_true rfl) d_Engine_init_46 (fun H locs hP hD hS => ?_)
  have hP : va_P D classes [(h0, .inr (7, [.ref h1, .ref h2, .ref h3, .null, .null, .int 0, .int 0, .int 0, .int 0, .int 0, .int 0]))] H := hP
  have hD : va_D A [(h0, .inr (7, [.ref h1, .ref h2, .ref h3, .null, .null, .int 0, .int 0, .int 0, .int 0, .int 0, .int 0]))] := hD
  refine lv_aload_n hx hb d_Engine_init_49 rfl (lv_at hl 0 rfl) ?_
  refine va_new (ci := 8) (fs := [.null]) (C := "PageScribe$Sums") (T := F_Sums) (N := 1) hx hb hts i_Sums t_Sums t_Sums_ok hown (hts _ k_2_2) (hts _ k_2_3) (hts _ k_1_10) hK hP hD hS hA rfl z_Sums (Nat.le_of_ble_eq_true rfl) (Nat.le_of_ble_eq_true rfl) d_Engine_init_50 (fun q1 H hP hD hS => ?_)
  have hP : va_P D classes [(h0, .inr (7, [.ref h1, .ref h2, .ref h3, .null, .null, .int 0, .int 0, .int 0, .int 0, .int 0, .int 0])), (q1, .inr (8, [.null]))] H := hP
  have hD : va_D A [(h0, .inr (7, [.ref h1, .ref h2, .ref h3, .null, .null, .int 0, .int 0, .int 0, .int 0, .int 0, .int 0])), (q1, .inr (8, [.null]))] := hD
  refine lv_dup hx hb d_Engine_init_53 rfl ?_
  refine lv_aload_n hx hb d_Engine_init_54 rfl (lv_at hl 1 rfl) ?_
  refine j_cv (wc := [(q1, .inr (8, [.null]))]) (wr := [(h0, .inr (7, [.ref h1, .ref h2, .ref h3, .null, .null, .int 0, .int 0, .int 0, .int 0, .int 0, .int 0]))]) hK hP hD hS hA [1] [0] rfl rfl (by decide +kernel) (by decide +kernel) (va_runI (As := [.ref h1]) (rest := [.ref q1, .ref h0]) F (i_Sums_init l D T q1 h1 H.size) (j_cI (k := 1) hts k_2_6 k_1_10 k_2_4 k_2_5 rfl (by decide +kernel) ⟨Nat.le_of_ble_eq_true rfl, Nat.le_of_ble_eq_true rfl⟩) (j_preS hK hP hD [1] rfl (by decide +kernel) (fun _ _ _ _ h => h) (fun _ _ _ => trivial)) rfl rfl hl.1 rfl (lv_room (Nat.le_of_ble_eq_true rfl)) d_Engine_init_55 ⟨Nat.le_of_ble_eq_true rfl, Nat.le_of_ble_eq_true rfl⟩) (fun u1 H locs hw hP hD hS => ?_)
  have hP : va_P D classes [(h0, .inr (7, [.ref h1, .ref h2, .ref h3, .null, .null, .int 0, .int 0, .int 0, .int 0, .int 0, .int 0])), (q1, .inr (8, [.ref h1]))] H := hP
  have hD : va_D A [(h0, .inr (7, [.ref h1, .ref h2, .ref h3, .null, .null, .int 0, .int 0, .int 0, .int 0, .int 0, .int 0])), (q1, .inr (8, [.ref h1]))] := hD
  refine va_putF (D := D) (ci := 7) (v := .ref q1) (ty := .object "PageScribe$Sums") (C := "PageScribe$Engine") (T := F_Engine) (N := 11) hx hb hts i_Engine t_Engine t_Engine_ok n_Engine hown hK hP hD hS 0 rfl rfl 3 (by decide +kernel) (hts _ k_2_25) (fun _ h9 => h9) rfl hin rfl (by decide +kernel) rfl rfl (Nat.le_of_ble_eq_true rfl) d_Engine_init_58 (fun H locs hP hD hS => ?_)
  have hP : va_P D classes [(h0, .inr (7, [.ref h1, .ref h2, .ref h3, .ref q1, .null, .int 0, .int 0, .int 0, .int 0, .int 0, .int 0])), (q1, .inr (8, [.ref h1]))] H := hP
  have hD : va_D A [(h0, .inr (7, [.ref h1, .ref h2, .ref h3, .ref q1, .null, .int 0, .int 0, .int 0, .int 0, .int 0, .int 0])), (q1, .inr (8, [.ref h1]))] := hD
  refine lv_aload_n hx hb d_Engine_init_61 rfl (lv_at hl 0 rfl) ?_
  refine va_new (ci := 9) (fs := [.null]) (C := "PageScribe$Truths") (T := F_Truths) (N := 1) hx hb hts i_Truths t_Truths t_Truths_ok hown (hts _ k_2_12) (hts _ k_2_13) (hts _ k_1_11) hK hP hD hS hA rfl z_Truths (Nat.le_of_ble_eq_true rfl) (Nat.le_of_ble_eq_true rfl) d_Engine_init_62 (fun q2 H hP hD hS => ?_)
  have hP : va_P D classes [(h0, .inr (7, [.ref h1, .ref h2, .ref h3, .ref q1, .null, .int 0, .int 0, .int 0, .int 0, .int 0, .int 0])), (q1, .inr (8, [.ref h1])), (q2, .inr (9, [.null]))] H := hP
  have hD : va_D A [(h0, .inr (7, [.ref h1, .ref h2, .ref h3, .ref q1, .null, .int 0, .int 0, .int 0, .int 0, .int 0, .int 0])), (q1, .inr (8, [.ref h1])), (q2, .inr (9, [.null]))] := hD
  refine lv_dup hx hb d_Engine_init_65 rfl ?_
  refine lv_aload_n hx hb d_Engine_init_66 rfl (lv_at hl 1 rfl) ?_
  refine j_cv (wc := [(q2, .inr (9, [.null]))]) (wr := [(h0, .inr (7, [.ref h1, .ref h2, .ref h3, .ref q1, .null, .int 0, .int 0, .int 0, .int 0, .int 0, .int 0])), (q1, .inr (8, [.ref h1]))]) hK hP hD hS hA [2] [0, 1] rfl rfl (by decide +kernel) (by decide +kernel) (va_runI (As := [.ref h1]) (rest := [.ref q2, .ref h0]) F (i_Truths_init l D T q2 h1 H.size) (j_cI (k := 1) hts k_2_16 k_1_11 k_2_14 k_2_15 rfl (by decide +kernel) ⟨Nat.le_of_ble_eq_true rfl, Nat.le_of_ble_eq_true rfl⟩) (j_preS hK hP hD [2] rfl (by decide +kernel) (fun _ _ _ _ h => h) (fun _ _ _ => trivial)) rfl rfl hl.1 rfl (lv_room (Nat.le_of_ble_eq_true rfl)) d_Engine_init_67 ⟨Nat.le_of_ble_eq_true rfl, Nat.le_of_ble_eq_true rfl⟩) (fun u2 H locs hw hP hD hS => ?_)
  have hP : va_P D classes [(h0, .inr (7, [.ref h1, .ref h2, .ref h3, .ref q1, .null, .int 0, .int 0, .int 0, .int 0, .int 0, .int 0])), (q1, .inr (8, [.ref h1])), (q2, .inr (9, [.ref h1]))] H := hP
  have hD : va_D A [(h0, .inr (7, [.ref h1, .ref h2, .ref h3, .ref q1, .null, .int 0, .int 0, .int 0, .int 0, .int 0, .int 0])), (q1, .inr (8, [.ref h1])), (q2, .inr (9, [.ref h1]))] := hD
  refine va_putF (D := D) (ci := 7) (v := .ref q2) (ty := .object "PageScribe$Truths") (C := "PageScribe$Engine") (T := F_Engine) (N := 11) hx hb hts i_Engine t_Engine t_Engine_ok n_Engine hown hK hP hD hS 0 rfl rfl 4 (by decide +kernel) (hts _ k_2_26) (fun _ h9 => h9) rfl hin rfl (by decide +kernel) rfl rfl (Nat.le_of_ble_eq_true rfl) d_Engine_init_70 (fun H locs hP hD hS => ?_)
  have hP : va_P D classes [(h0, .inr (7, [.ref h1, .ref h2, .ref h3, .ref q1, .ref q2, .int 0, .int 0, .int 0, .int 0, .int 0, .int 0])), (q1, .inr (8, [.ref h1])), (q2, .inr (9, [.ref h1]))] H := hP
  have hD : va_D A [(h0, .inr (7, [.ref h1, .ref h2, .ref h3, .ref q1, .ref q2, .int 0, .int 0, .int 0, .int 0, .int 0, .int 0])), (q1, .inr (8, [.ref h1])), (q2, .inr (9, [.ref h1]))] := hD
  have hP9 := hP.sub (ws' := [(h0, .inr (7, [.ref h1, .ref h2, .ref h3, .ref q1, .ref q2, .int 0, .int 0, .int 0, .int 0, .int 0, .int 0])), (q1, .inr (8, [.ref h1])), (q2, .inr (9, [.ref h1]))]) [0, 1, 2] rfl
  have hD9 := hD.sub (ws' := [(h0, .inr (7, [.ref h1, .ref h2, .ref h3, .ref q1, .ref q2, .int 0, .int 0, .int 0, .int 0, .int 0, .int 0])), (q1, .inr (8, [.ref h1])), (q2, .inr (9, [.ref h1]))]) [0, 1, 2] (by decide +kernel) rfl
  refine W.widen (k := 2) (n := 2) (Nat.le_of_ble_eq_true rfl) (Nat.le_of_ble_eq_true rfl) ?_
  exact j_vret F hr hlocks hK hS (q1, q2) trivial hP9 hD9 d_Engine_init_73
/-- so many columns (rows) as a page has -/
def colOf (p : Int32) : Int32 := if p < 1 ∨ 24 < p then 16 else p
def rowOf (p : Int32) : Int32 := if p < 1 ∨ 16 < p then 12 else p
theorem colOf_in (p : Int32) : ∃ C : Nat, colOf p = nI C ∧ 1 ≤ C ∧ C ≤ 24 := by
  unfold colOf
  split
  · exact ⟨16, by decide +kernel, by omega, by omega⟩
  · rename_i h
    have h1 : ¬ p < 1 := fun q => h (Or.inl q)
    have h2 : ¬ (24 : Int32) < p := fun q => h (Or.inr q)
    have h0 : ¬ p < 0 := fun q => h1 (Int32.lt_trans q (by decide +kernel))
    obtain ⟨C, hC, rfl⟩ := nI_of h0
    refine ⟨C, rfl, ?_, ?_⟩
    · rcases Nat.eq_zero_or_pos C with z | z
      · subst z; exact absurd (show nI 0 < 1 by decide +kernel) h1
      · exact z
    · rcases Nat.lt_or_ge 24 C with z | z
      · exact absurd (show nI 24 < nI C from nI_lt z hC) h2
      · exact z
theorem rowOf_in (p : Int32) : ∃ C : Nat, rowOf p = nI C ∧ 1 ≤ C ∧ C ≤ 16 := by
  unfold rowOf
  split
  · exact ⟨12, by decide +kernel, by omega, by omega⟩
  · rename_i h
    have h1 : ¬ p < 1 := fun q => h (Or.inl q)
    have h2 : ¬ (16 : Int32) < p := fun q => h (Or.inr q)
    have h0 : ¬ p < 0 := fun q => h1 (Int32.lt_trans q (by decide +kernel))
    obtain ⟨C, hC, rfl⟩ := nI_of h0
    refine ⟨C, rfl, ?_, ?_⟩
    · rcases Nat.eq_zero_or_pos C with z | z
      · subst z; exact absurd (show nI 0 < 1 by decide +kernel) h1
      · exact z
    · rcases Nat.lt_or_ge 16 C with z | z
      · exact absurd (show nI 16 < nI C from nI_lt z hC) h2
      · exact z
theorem d_Canvas_init_0 : decode prog_3_method_1_code 0 = .ok (.aload_n 0, 1) := by decide +kernel
theorem d_Canvas_init_1 : decode prog_3_method_1_code 1 = .ok (.invokespecial 3, 3) := by decide +kernel
theorem k_1_206 : Cond.methodLink "PageScribe$Canvas" 3 ⟨"java/lang/Object", "<init>", "()V"⟩ ∈ gw := gw_of (tb_1 (List.mem_of_getElem? (i := 206) (by decide +kernel))) (by decide +kernel)
theorem d_Canvas_init_4 : decode prog_3_method_1_code 4 = .ok (.aload_n 0, 1) := by decide +kernel
theorem d_Canvas_init_5 : decode prog_3_method_1_code 5 = .ok (.fconst 1, 1) := by decide +kernel
theorem d_Canvas_init_6 : decode prog_3_method_1_code 6 = .ok (.putfield 9, 3) := by decide +kernel
theorem d_Canvas_init_9 : decode prog_3_method_1_code 9 = .ok (.aload_n 0, 1) := by decide +kernel
theorem d_Canvas_init_10 : decode prog_3_method_1_code 10 = .ok (.bipush 30, 2) := by decide +kernel
theorem d_Canvas_init_12 : decode prog_3_method_1_code 12 = .ok (.newarray .double, 2) := by decide +kernel
theorem d_Canvas_init_14 : decode prog_3_method_1_code 14 = .ok (.putfield 15, 3) := by decide +kernel
theorem d_Canvas_init_17 : decode prog_3_method_1_code 17 = .ok (.aload_n 0, 1) := by decide +kernel
theorem d_Canvas_init_18 : decode prog_3_method_1_code 18 = .ok (.bipush 30, 2) := by decide +kernel
theorem d_Canvas_init_20 : decode prog_3_method_1_code 20 = .ok (.newarray .double, 2) := by decide +kernel
theorem d_Canvas_init_22 : decode prog_3_method_1_code 22 = .ok (.putfield 19, 3) := by decide +kernel
theorem d_Canvas_init_25 : decode prog_3_method_1_code 25 = .ok (.aload_n 0, 1) := by decide +kernel
theorem d_Canvas_init_26 : decode prog_3_method_1_code 26 = .ok (.bipush 30, 2) := by decide +kernel
theorem d_Canvas_init_28 : decode prog_3_method_1_code 28 = .ok (.newarray .int, 2) := by decide +kernel
theorem d_Canvas_init_30 : decode prog_3_method_1_code 30 = .ok (.putfield 22, 3) := by decide +kernel
theorem d_Canvas_init_33 : decode prog_3_method_1_code 33 = .ok (.aload_n 0, 1) := by decide +kernel
theorem d_Canvas_init_34 : decode prog_3_method_1_code 34 = .ok (.iconst 0, 1) := by decide +kernel
theorem d_Canvas_init_35 : decode prog_3_method_1_code 35 = .ok (.putfield 26, 3) := by decide +kernel
theorem d_Canvas_init_38 : decode prog_3_method_1_code 38 = .ok (.aload_n 0, 1) := by decide +kernel
theorem d_Canvas_init_39 : decode prog_3_method_1_code 39 = .ok (.aload_n 1, 1) := by decide +kernel
theorem d_Canvas_init_40 : decode prog_3_method_1_code 40 = .ok (.putfield 30, 3) := by decide +kernel
theorem d_Canvas_init_43 : decode prog_3_method_1_code 43 = .ok (.aload_n 0, 1) := by decide +kernel
theorem d_Canvas_init_61 : decode prog_3_method_1_code 61 = .ok (.putfield 34, 3) := by decide +kernel
theorem d_Canvas_init_64 : decode prog_3_method_1_code 64 = .ok (.aload_n 0, 1) := by decide +kernel
theorem d_Canvas_init_82 : decode prog_3_method_1_code 82 = .ok (.putfield 37, 3) := by decide +kernel
theorem d_Canvas_init_85 : decode prog_3_method_1_code 85 = .ok (.aload_n 0, 1) := by decide +kernel
theorem d_Canvas_init_86 : decode prog_3_method_1_code 86 = .ok (.aload_n 0, 1) := by decide +kernel
theorem d_Canvas_init_87 : decode prog_3_method_1_code 87 = .ok (.getfield 34, 3) := by decide +kernel
theorem d_Canvas_init_90 : decode prog_3_method_1_code 90 = .ok (.aload_n 0, 1) := by decide +kernel
theorem d_Canvas_init_91 : decode prog_3_method_1_code 91 = .ok (.getfield 37, 3) := by decide +kernel
theorem d_Canvas_init_94 : decode prog_3_method_1_code 94 = .ok (.imul, 1) := by decide +kernel
theorem d_Canvas_init_95 : decode prog_3_method_1_code 95 = .ok (.newarray .int, 2) := by decide +kernel
theorem d_Canvas_init_97 : decode prog_3_method_1_code 97 = .ok (.putfield 40, 3) := by decide +kernel
theorem d_Canvas_init_100 : decode prog_3_method_1_code 100 = .ok (.return_, 1) := by decide +kernel
theorem d_Canvas_init_65 : decode prog_3_method_1_code 65 = .ok (.iload_n 3, 1) := by decide +kernel
theorem d_Canvas_init_66 : decode prog_3_method_1_code 66 = .ok (.iconst 1, 1) := by decide +kernel
theorem d_Canvas_init_67 : decode prog_3_method_1_code 67 = .ok (.if_icmp .lt 13, 3) := by decide +kernel
theorem d_Canvas_init_80 : decode prog_3_method_1_code 80 = .ok (.bipush 12, 2) := by decide +kernel
theorem d_Canvas_init_70 : decode prog_3_method_1_code 70 = .ok (.iload_n 3, 1) := by decide +kernel
theorem d_Canvas_init_71 : decode prog_3_method_1_code 71 = .ok (.bipush 16, 2) := by decide +kernel
theorem d_Canvas_init_73 : decode prog_3_method_1_code 73 = .ok (.if_icmp .gt 7, 3) := by decide +kernel
theorem d_Canvas_init_76 : decode prog_3_method_1_code 76 = .ok (.iload_n 3, 1) := by decide +kernel
theorem d_Canvas_init_77 : decode prog_3_method_1_code 77 = .ok (.goto 5, 3) := by decide +kernel
theorem d_Canvas_init_44 : decode prog_3_method_1_code 44 = .ok (.iload_n 2, 1) := by decide +kernel
theorem d_Canvas_init_45 : decode prog_3_method_1_code 45 = .ok (.iconst 1, 1) := by decide +kernel
theorem d_Canvas_init_46 : decode prog_3_method_1_code 46 = .ok (.if_icmp .lt 13, 3) := by decide +kernel
theorem d_Canvas_init_59 : decode prog_3_method_1_code 59 = .ok (.bipush 16, 2) := by decide +kernel
theorem d_Canvas_init_49 : decode prog_3_method_1_code 49 = .ok (.iload_n 2, 1) := by decide +kernel
theorem d_Canvas_init_50 : decode prog_3_method_1_code 50 = .ok (.bipush 24, 2) := by decide +kernel
theorem d_Canvas_init_52 : decode prog_3_method_1_code 52 = .ok (.if_icmp .gt 7, 3) := by decide +kernel
theorem d_Canvas_init_55 : decode prog_3_method_1_code 55 = .ok (.iload_n 2, 1) := by decide +kernel
theorem d_Canvas_init_56 : decode prog_3_method_1_code 56 = .ok (.goto 5, 3) := by decide +kernel
set_option maxHeartbeats 4000000 in
set_option maxRecDepth 100000 in
theorem i_Canvas_init (l : Launch) (D : va_G) (T : Nat → ClassId) (h0 : Nat) (h1 : Nat) (p0 : Int32) (p1 : Int32) (sz : Nat) : Met l ⟨"PageScribe$Canvas", "<init>", "(LPageScribe$Stack;II)V"⟩ (wy ⟨"PageScribe$Canvas", "<init>", "(LPageScribe$Stack;II)V"⟩ prog_3_method_1_code 4 none) ({ frames := 1, cells := 4, slots := 474, locals := 70 }) (va_Pc [.ref h0, .ref h1, .int p0, .int p1] (Pw D T [(h0, .inr (6, [.null, .int 0, .int 0, .null, .float 0, .null, .null, .null, .int 0]))] sz E0)) (va_Qv (fun (u : Nat × Nat × Nat × Nat × Nat × Nat) => 1 ≤ u.1 ∧ u.1 ≤ 24 ∧ 1 ≤ u.2.1 ∧ u.2.1 ≤ 16) (fun u t => Bw D T (va_A [(h0, .inr (6, [.null, .int 0, .int 0, .null, .float 0, .null, .null, .null, .int 0]))] sz) [(h0, .inr (6, [.ref h1, .int (nI u.1), .int (nI u.2.1), .ref u.2.2.1, .float 0x3f800000, .ref u.2.2.2.1, .ref u.2.2.2.2.1, .ref u.2.2.2.2.2, .int 0])), (u.2.2.1, .inl (T 0, (u.1 * u.2.1), .inl zI)), (u.2.2.2.1, .inl (T 3, 30, .inr (.inr (.inr (.inl zD))))), (u.2.2.2.2.1, .inl (T 3, 30, .inr (.inr (.inr (.inl zD))))), (u.2.2.2.2.2, .inl (T 0, 30, .inl zI))] t) (va_A [(h0, .inr (6, [.null, .int 0, .int 0, .null, .float 0, .null, .null, .null, .int 0]))] sz)) 4 474 (va_A [(h0, .inr (6, [.null, .int 0, .int 0, .null, .float 0, .null, .null, .null, .int 0]))] sz) := by
  refine j_met (y := ⟨"PageScribe$Canvas", "<init>", "(LPageScribe$Stack;II)V"⟩) (b := prog_3_method_1_code) (n := 4) (ret := none) (av := [.ref h0, .ref h1, .int p0, .int p1]) (Qc := fun A => va_Qv (fun (u : Nat × Nat × Nat × Nat × Nat × Nat) => 1 ≤ u.1 ∧ u.1 ≤ 24 ∧ 1 ≤ u.2.1 ∧ u.2.1 ≤ 16) (fun u t => Bw D T A [(h0, .inr (6, [.ref h1, .int (nI u.1), .int (nI u.2.1), .ref u.2.2.1, .float 0x3f800000, .ref u.2.2.2.1, .ref u.2.2.2.2.1, .ref u.2.2.2.2.2, .int 0])), (u.2.2.1, .inl (T 0, (u.1 * u.2.1), .inl zI)), (u.2.2.2.1, .inl (T 3, 30, .inr (.inr (.inr (.inl zD))))), (u.2.2.2.2.1, .inl (T 3, 30, .inr (.inr (.inr (.inl zD))))), (u.2.2.2.2.2, .inl (T 0, 30, .inl zI))] t) A) (by decide +kernel) (Nat.le_of_ble_eq_true rfl) (fun p e s m args below meth c A ls F hr hlocks hnm hK hP hD hS hA hN hE hl => ?_)
  obtain ⟨hx, hb, hml, hown, hts⟩ := id F
  have hin := hnm
  have hl : lv_has ls 4 [(0, .ref h0), (1, .ref h1), (2, .int p0), (3, .int p1)] := hl
  refine lv_aload_n hx hb d_Canvas_init_0 rfl (lv_at hl 0 rfl) ?_
  refine j_obj F hl.1 k_1_206 k_1_35 k_1_36 d_Canvas_init_1 (Nat.le_of_ble_eq_true rfl) (Nat.le_of_ble_eq_true rfl) ?_
  refine lv_aload_n hx hb d_Canvas_init_4 rfl (lv_at hl 0 rfl) ?_
  refine lv_fconst1 hx hb d_Canvas_init_5 ?_
  refine va_put (D := D) (ci := 6) (v := .float 0x3f800000) (ty := .float) (C := "PageScribe$Canvas") (T := F_Canvas) (N := 9) hx hb hts i_Canvas t_Canvas t_Canvas_ok n_Canvas hown hK hP hD hS 0 rfl rfl 4 (by decide +kernel) (hts _ k_1_211) (fun _ h9 => h9) rfl (by decide +kernel) rfl rfl (Nat.le_of_ble_eq_true rfl) d_Canvas_init_6 (fun H locs hP hD hS => ?_)
  have hP : va_P D classes [(h0, .inr (6, [.null, .int 0, .int 0, .null, .float 0x3f800000, .null, .null, .null, .int 0]))] H := hP
  have hD : va_D A [(h0, .inr (6, [.null, .int 0, .int 0, .null, .float 0x3f800000, .null, .null, .null, .int 0]))] := hD
  refine lv_aload_n hx hb d_Canvas_init_9 rfl (lv_at hl 0 rfl) ?_
  refine lv_bipush (v := 30) hx hb d_Canvas_init_10 (by decide +kernel) ?_
  refine j_newa (atype := .double) (ty := .double) F k_1_68 rfl hK hP hD hS hA 3 (T 3) rfl (30, .inr (.inr (.inr (.inl zD)))) (fun _ => rfl) (by decide +kernel) (by decide +kernel) (by decide +kernel) (Nat.le_of_ble_eq_true rfl) (Nat.le_of_ble_eq_true rfl) d_Canvas_init_12 (fun q1 H hP hD hS => ?_)
  have hP : va_P D classes [(h0, .inr (6, [.null, .int 0, .int 0, .null, .float 0x3f800000, .null, .null, .null, .int 0])), (q1, .inl (T 3, 30, .inr (.inr (.inr (.inl zD)))))] H := hP
  have hD : va_D A [(h0, .inr (6, [.null, .int 0, .int 0, .null, .float 0x3f800000, .null, .null, .null, .int 0])), (q1, .inl (T 3, 30, .inr (.inr (.inr (.inl zD)))))] := hD
  refine va_putF (D := D) (ci := 6) (v := .ref q1) (ty := .array .double) (C := "PageScribe$Canvas") (T := F_Canvas) (N := 9) hx hb hts i_Canvas t_Canvas t_Canvas_ok n_Canvas hown hK hP hD hS 0 rfl rfl 5 (by decide +kernel) (hts _ k_1_212) (fun _ h9 => h9) rfl hin rfl (by decide +kernel) rfl rfl (Nat.le_of_ble_eq_true rfl) d_Canvas_init_14 (fun H locs hP hD hS => ?_)
  have hP : va_P D classes [(h0, .inr (6, [.null, .int 0, .int 0, .null, .float 0x3f800000, .ref q1, .null, .null, .int 0])), (q1, .inl (T 3, 30, .inr (.inr (.inr (.inl zD)))))] H := hP
  have hD : va_D A [(h0, .inr (6, [.null, .int 0, .int 0, .null, .float 0x3f800000, .ref q1, .null, .null, .int 0])), (q1, .inl (T 3, 30, .inr (.inr (.inr (.inl zD)))))] := hD
  refine lv_aload_n hx hb d_Canvas_init_17 rfl (lv_at hl 0 rfl) ?_
  refine lv_bipush (v := 30) hx hb d_Canvas_init_18 (by decide +kernel) ?_
  refine j_newa (atype := .double) (ty := .double) F k_1_68 rfl hK hP hD hS hA 3 (T 3) rfl (30, .inr (.inr (.inr (.inl zD)))) (fun _ => rfl) (by decide +kernel) (by decide +kernel) (by decide +kernel) (Nat.le_of_ble_eq_true rfl) (Nat.le_of_ble_eq_true rfl) d_Canvas_init_20 (fun q2 H hP hD hS => ?_)
  have hP : va_P D classes [(h0, .inr (6, [.null, .int 0, .int 0, .null, .float 0x3f800000, .ref q1, .null, .null, .int 0])), (q1, .inl (T 3, 30, .inr (.inr (.inr (.inl zD))))), (q2, .inl (T 3, 30, .inr (.inr (.inr (.inl zD)))))] H := hP
  have hD : va_D A [(h0, .inr (6, [.null, .int 0, .int 0, .null, .float 0x3f800000, .ref q1, .null, .null, .int 0])), (q1, .inl (T 3, 30, .inr (.inr (.inr (.inl zD))))), (q2, .inl (T 3, 30, .inr (.inr (.inr (.inl zD)))))] := hD
  refine va_putF (D := D) (ci := 6) (v := .ref q2) (ty := .array .double) (C := "PageScribe$Canvas") (T := F_Canvas) (N := 9) hx hb hts i_Canvas t_Canvas t_Canvas_ok n_Canvas hown hK hP hD hS 0 rfl rfl 6 (by decide +kernel) (hts _ k_1_213) (fun _ h9 => h9) rfl hin rfl (by decide +kernel) rfl rfl (Nat.le_of_ble_eq_true rfl) d_Canvas_init_22 (fun H locs hP hD hS => ?_)
  have hP : va_P D classes [(h0, .inr (6, [.null, .int 0, .int 0, .null, .float 0x3f800000, .ref q1, .ref q2, .null, .int 0])), (q1, .inl (T 3, 30, .inr (.inr (.inr (.inl zD))))), (q2, .inl (T 3, 30, .inr (.inr (.inr (.inl zD)))))] H := hP
  have hD : va_D A [(h0, .inr (6, [.null, .int 0, .int 0, .null, .float 0x3f800000, .ref q1, .ref q2, .null, .int 0])), (q1, .inl (T 3, 30, .inr (.inr (.inr (.inl zD))))), (q2, .inl (T 3, 30, .inr (.inr (.inr (.inl zD)))))] := hD
  refine lv_aload_n hx hb d_Canvas_init_25 rfl (lv_at hl 0 rfl) ?_
  refine lv_bipush (v := 30) hx hb d_Canvas_init_26 (by decide +kernel) ?_
  refine j_newa (atype := .int) (ty := .int) F k_1_67 rfl hK hP hD hS hA 0 (T 0) rfl (30, .inl zI) (fun _ => rfl) (by decide +kernel) (by decide +kernel) (by decide +kernel) (Nat.le_of_ble_eq_true rfl) (Nat.le_of_ble_eq_true rfl) d_Canvas_init_28 (fun q3 H hP hD hS => ?_)
  have hP : va_P D classes [(h0, .inr (6, [.null, .int 0, .int 0, .null, .float 0x3f800000, .ref q1, .ref q2, .null, .int 0])), (q1, .inl (T 3, 30, .inr (.inr (.inr (.inl zD))))), (q2, .inl (T 3, 30, .inr (.inr (.inr (.inl zD))))), (q3, .inl (T 0, 30, .inl zI))] H := hP
  have hD : va_D A [(h0, .inr (6, [.null, .int 0, .int 0, .null, .float 0x3f800000, .ref q1, .ref q2, .null, .int 0])), (q1, .inl (T 3, 30, .inr (.inr (.inr (.inl zD))))), (q2, .inl (T 3, 30, .inr (.inr (.inr (.inl zD))))), (q3, .inl (T 0, 30, .inl zI))] := hD
  refine va_putF (D := D) (ci := 6) (v := .ref q3) (ty := .array .int) (C := "PageScribe$Canvas") (T := F_Canvas) (N := 9) hx hb hts i_Canvas t_Canvas t_Canvas_ok n_Canvas hown hK hP hD hS 0 rfl rfl 7 (by decide +kernel) (hts _ k_1_214) (fun _ h9 => h9) rfl hin rfl (by decide +kernel) rfl rfl (Nat.le_of_ble_eq_true rfl) d_Canvas_init_30 (fun H locs hP hD hS => ?_)
  have hP : va_P D classes [(h0, .inr (6, [.null, .int 0, .int 0, .null, .float 0x3f800000, .ref q1, .ref q2, .ref q3, .int 0])), (q1, .inl (T 3, 30, .inr (.inr (.inr (.inl zD))))), (q2, .inl (T 3, 30, .inr (.inr (.inr (.inl zD))))), (q3, .inl (T 0, 30, .inl zI))] H := hP
  have hD : va_D A [(h0, .inr (6, [.null, .int 0, .int 0, .null, .float 0x3f800000, .ref q1, .ref q2, .ref q3, .int 0])), (q1, .inl (T 3, 30, .inr (.inr (.inr (.inl zD))))), (q2, .inl (T 3, 30, .inr (.inr (.inr (.inl zD))))), (q3, .inl (T 0, 30, .inl zI))] := hD
  refine lv_aload_n hx hb d_Canvas_init_33 rfl (lv_at hl 0 rfl) ?_
  refine lv_iconst (v := 0) hx hb d_Canvas_init_34 (by decide +kernel) ?_
  refine va_put (D := D) (ci := 6) (v := .int 0) (ty := .int) (C := "PageScribe$Canvas") (T := F_Canvas) (N := 9) hx hb hts i_Canvas t_Canvas t_Canvas_ok n_Canvas hown hK hP hD hS 0 rfl rfl 8 (by decide +kernel) (hts _ k_1_215) (fun _ h9 => h9) rfl (by decide +kernel) rfl rfl (Nat.le_of_ble_eq_true rfl) d_Canvas_init_35 (fun H locs hP hD hS => ?_)
  have hP : va_P D classes [(h0, .inr (6, [.null, .int 0, .int 0, .null, .float 0x3f800000, .ref q1, .ref q2, .ref q3, .int 0])), (q1, .inl (T 3, 30, .inr (.inr (.inr (.inl zD))))), (q2, .inl (T 3, 30, .inr (.inr (.inr (.inl zD))))), (q3, .inl (T 0, 30, .inl zI))] H := hP
  have hD : va_D A [(h0, .inr (6, [.null, .int 0, .int 0, .null, .float 0x3f800000, .ref q1, .ref q2, .ref q3, .int 0])), (q1, .inl (T 3, 30, .inr (.inr (.inr (.inl zD))))), (q2, .inl (T 3, 30, .inr (.inr (.inr (.inl zD))))), (q3, .inl (T 0, 30, .inl zI))] := hD
  refine lv_aload_n hx hb d_Canvas_init_38 rfl (lv_at hl 0 rfl) ?_
  refine lv_aload_n hx hb d_Canvas_init_39 rfl (lv_at hl 1 rfl) ?_
  refine va_putF (D := D) (ci := 6) (v := .ref h1) (ty := .object "PageScribe$Stack") (C := "PageScribe$Canvas") (T := F_Canvas) (N := 9) hx hb hts i_Canvas t_Canvas t_Canvas_ok n_Canvas hown hK hP hD hS 0 rfl rfl 0 (by decide +kernel) (hts _ k_1_207) (fun _ h9 => h9) rfl hin rfl (by decide +kernel) rfl rfl (Nat.le_of_ble_eq_true rfl) d_Canvas_init_40 (fun H locs hP hD hS => ?_)
  have hP : va_P D classes [(h0, .inr (6, [.ref h1, .int 0, .int 0, .null, .float 0x3f800000, .ref q1, .ref q2, .ref q3, .int 0])), (q1, .inl (T 3, 30, .inr (.inr (.inr (.inl zD))))), (q2, .inl (T 3, 30, .inr (.inr (.inr (.inl zD))))), (q3, .inl (T 0, 30, .inl zI))] H := hP
  have hD : va_D A [(h0, .inr (6, [.ref h1, .int 0, .int 0, .null, .float 0x3f800000, .ref q1, .ref q2, .ref q3, .int 0])), (q1, .inl (T 3, 30, .inr (.inr (.inr (.inl zD))))), (q2, .inl (T 3, 30, .inr (.inr (.inr (.inl zD))))), (q3, .inl (T 0, 30, .inl zI))] := hD
  refine lv_aload_n hx hb d_Canvas_init_43 rfl (lv_at hl 0 rfl) ?_
  refine j_join (α := Int32) (fun v => v = colOf p0) (fun v => F0 m 61 ls (.int v :: [.ref h0])) (fun v hv => ?_) (fun key => ?_)
  · obtain ⟨C, hC, hC1, hC2⟩ := colOf_in p0
    rw [hC] at hv
    subst hv
    refine va_putF (D := D) (ci := 6) (v := .int (nI C)) (ty := .int) (C := "PageScribe$Canvas") (T := F_Canvas) (N := 9) hx hb hts i_Canvas t_Canvas t_Canvas_ok n_Canvas hown hK hP hD hS 0 rfl rfl 1 (by decide +kernel) (hts _ k_1_208) (fun _ h9 => h9) rfl hin rfl (by decide +kernel) rfl rfl (Nat.le_of_ble_eq_true rfl) d_Canvas_init_61 (fun H locs hP hD hS => ?_)
    have hP : va_P D classes [(h0, .inr (6, [.ref h1, .int (nI C), .int 0, .null, .float 0x3f800000, .ref q1, .ref q2, .ref q3, .int 0])), (q1, .inl (T 3, 30, .inr (.inr (.inr (.inl zD))))), (q2, .inl (T 3, 30, .inr (.inr (.inr (.inl zD))))), (q3, .inl (T 0, 30, .inl zI))] H := hP
    have hD : va_D A [(h0, .inr (6, [.ref h1, .int (nI C), .int 0, .null, .float 0x3f800000, .ref q1, .ref q2, .ref q3, .int 0])), (q1, .inl (T 3, 30, .inr (.inr (.inr (.inl zD))))), (q2, .inl (T 3, 30, .inr (.inr (.inr (.inl zD))))), (q3, .inl (T 0, 30, .inl zI))] := hD
    refine lv_aload_n hx hb d_Canvas_init_64 rfl (lv_at hl 0 rfl) ?_
    refine j_join (α := Int32) (fun v => v = rowOf p1) (fun v => F0 m 82 ls (.int v :: [.ref h0])) (fun v hv => ?_) (fun key => ?_)
    · obtain ⟨Rr, hRr, hRr1, hRr2⟩ := rowOf_in p1
      rw [hRr] at hv
      subst hv
      refine va_putF (D := D) (ci := 6) (v := .int (nI Rr)) (ty := .int) (C := "PageScribe$Canvas") (T := F_Canvas) (N := 9) hx hb hts i_Canvas t_Canvas t_Canvas_ok n_Canvas hown hK hP hD hS 0 rfl rfl 2 (by decide +kernel) (hts _ k_1_209) (fun _ h9 => h9) rfl hin rfl (by decide +kernel) rfl rfl (Nat.le_of_ble_eq_true rfl) d_Canvas_init_82 (fun H locs hP hD hS => ?_)
      have hP : va_P D classes [(h0, .inr (6, [.ref h1, .int (nI C), .int (nI Rr), .null, .float 0x3f800000, .ref q1, .ref q2, .ref q3, .int 0])), (q1, .inl (T 3, 30, .inr (.inr (.inr (.inl zD))))), (q2, .inl (T 3, 30, .inr (.inr (.inr (.inl zD))))), (q3, .inl (T 0, 30, .inl zI))] H := hP
      have hD : va_D A [(h0, .inr (6, [.ref h1, .int (nI C), .int (nI Rr), .null, .float 0x3f800000, .ref q1, .ref q2, .ref q3, .int 0])), (q1, .inl (T 3, 30, .inr (.inr (.inr (.inl zD))))), (q2, .inl (T 3, 30, .inr (.inr (.inr (.inl zD))))), (q3, .inl (T 0, 30, .inl zI))] := hD
      refine lv_aload_n hx hb d_Canvas_init_85 rfl (lv_at hl 0 rfl) ?_
      refine lv_aload_n hx hb d_Canvas_init_86 rfl (lv_at hl 0 rfl) ?_
      refine va_get (D := D) (ci := 6) (v := .int (nI C)) (C := "PageScribe$Canvas") (T := F_Canvas) (N := 9) hx hb hts i_Canvas hown hK hP 0 rfl rfl 1 (by decide +kernel) (hts _ k_1_208) (fun _ h9 => h9) rfl d_Canvas_init_87 ?_
      refine lv_aload_n hx hb d_Canvas_init_90 rfl (lv_at hl 0 rfl) ?_
      refine va_get (D := D) (ci := 6) (v := .int (nI Rr)) (C := "PageScribe$Canvas") (T := F_Canvas) (N := 9) hx hb hts i_Canvas hown hK hP 0 rfl rfl 2 (by decide +kernel) (hts _ k_1_209) (fun _ h9 => h9) rfl d_Canvas_init_91 ?_
      refine lv_imul hx hb d_Canvas_init_94 ?_
      refine j_eqi (y := (nI (C * Rr))) (pk_mul C Rr) ?_
      refine j_newa (atype := .int) (ty := .int) F k_1_67 rfl hK hP hD hS hA 0 (T 0) rfl ((C * Rr), .inl zI) (fun _ => rfl) (nI_pos (n := C * Rr) (by have := Nat.mul_le_mul hC2 hRr2; omega)) (nI_clamp (n := C * Rr) (by have := Nat.mul_le_mul hC2 hRr2; omega)) (by have := Nat.mul_le_mul hC2 hRr2; show C * Rr * 4 ≤ _; omega) (Nat.le_of_ble_eq_true rfl) (by have := Nat.mul_le_mul hC2 hRr2; show 0 + 30 + 30 + 30 + C * Rr ≤ 474; omega) d_Canvas_init_95 (fun q4 H hP hD hS => ?_)
      have hP : va_P D classes [(h0, .inr (6, [.ref h1, .int (nI C), .int (nI Rr), .null, .float 0x3f800000, .ref q1, .ref q2, .ref q3, .int 0])), (q1, .inl (T 3, 30, .inr (.inr (.inr (.inl zD))))), (q2, .inl (T 3, 30, .inr (.inr (.inr (.inl zD))))), (q3, .inl (T 0, 30, .inl zI)), (q4, .inl (T 0, (C * Rr), .inl zI))] H := hP
      have hD : va_D A [(h0, .inr (6, [.ref h1, .int (nI C), .int (nI Rr), .null, .float 0x3f800000, .ref q1, .ref q2, .ref q3, .int 0])), (q1, .inl (T 3, 30, .inr (.inr (.inr (.inl zD))))), (q2, .inl (T 3, 30, .inr (.inr (.inr (.inl zD))))), (q3, .inl (T 0, 30, .inl zI)), (q4, .inl (T 0, (C * Rr), .inl zI))] := hD
      refine va_putF (D := D) (ci := 6) (v := .ref q4) (ty := .array .int) (C := "PageScribe$Canvas") (T := F_Canvas) (N := 9) hx hb hts i_Canvas t_Canvas t_Canvas_ok n_Canvas hown hK hP hD hS 0 rfl rfl 3 (by decide +kernel) (hts _ k_1_210) (fun _ h9 => h9) rfl hin rfl (by decide +kernel) rfl rfl (Nat.le_of_ble_eq_true rfl) d_Canvas_init_97 (fun H locs hP hD hS => ?_)
      have hP : va_P D classes [(h0, .inr (6, [.ref h1, .int (nI C), .int (nI Rr), .ref q4, .float 0x3f800000, .ref q1, .ref q2, .ref q3, .int 0])), (q1, .inl (T 3, 30, .inr (.inr (.inr (.inl zD))))), (q2, .inl (T 3, 30, .inr (.inr (.inr (.inl zD))))), (q3, .inl (T 0, 30, .inl zI)), (q4, .inl (T 0, (C * Rr), .inl zI))] H := hP
      have hD : va_D A [(h0, .inr (6, [.ref h1, .int (nI C), .int (nI Rr), .ref q4, .float 0x3f800000, .ref q1, .ref q2, .ref q3, .int 0])), (q1, .inl (T 3, 30, .inr (.inr (.inr (.inl zD))))), (q2, .inl (T 3, 30, .inr (.inr (.inr (.inl zD))))), (q3, .inl (T 0, 30, .inl zI)), (q4, .inl (T 0, (C * Rr), .inl zI))] := hD
      have hP9 := hP.sub (ws' := [(h0, .inr (6, [.ref h1, .int (nI C), .int (nI Rr), .ref q4, .float 0x3f800000, .ref q1, .ref q2, .ref q3, .int 0])), (q4, .inl (T 0, (C * Rr), .inl zI)), (q1, .inl (T 3, 30, .inr (.inr (.inr (.inl zD))))), (q2, .inl (T 3, 30, .inr (.inr (.inr (.inl zD))))), (q3, .inl (T 0, 30, .inl zI))]) [0, 4, 1, 2, 3] rfl
      have hD9 := hD.sub (ws' := [(h0, .inr (6, [.ref h1, .int (nI C), .int (nI Rr), .ref q4, .float 0x3f800000, .ref q1, .ref q2, .ref q3, .int 0])), (q4, .inl (T 0, (C * Rr), .inl zI)), (q1, .inl (T 3, 30, .inr (.inr (.inr (.inl zD))))), (q2, .inl (T 3, 30, .inr (.inr (.inr (.inl zD))))), (q3, .inl (T 0, 30, .inl zI))]) [0, 4, 1, 2, 3] (by decide +kernel) rfl
      have hCR : C * Rr ≤ 24 * 16 := Nat.mul_le_mul hC2 hRr2
      refine W.widen (k := 4) (n := 474) (by omega) (by omega) ?_
      exact j_vret F hr hlocks hK hS (C, Rr, q4, q1, q2, q3) ⟨hC1, hC2, hRr1, hRr2⟩ hP9 hD9 d_Canvas_init_100
    · refine lv_iload_n hx hb d_Canvas_init_65 rfl (lv_at hl 3 rfl) ?_
      refine lv_iconst (v := 1) hx hb d_Canvas_init_66 (by decide +kernel) ?_
      refine lv_icmp_lt (tgt := 80) hx hb d_Canvas_init_67 (by decide +kernel) (fun c_67 => ?_) (fun c_67 => ?_)
      · refine lv_bipush (v := 12) hx hb d_Canvas_init_80 (by decide +kernel) ?_
        exact key _ (by first | exact (if_pos (Or.inl c_67)).symm | exact (if_pos (Or.inr c_73)).symm | exact (if_neg (fun q => q.elim (fun z => c_67 z) (fun z => c_73 z))).symm)
      · refine lv_iload_n hx hb d_Canvas_init_70 rfl (lv_at hl 3 rfl) ?_
        refine lv_bipush (v := 16) hx hb d_Canvas_init_71 (by decide +kernel) ?_
        refine lv_icmp_gt (tgt := 80) hx hb d_Canvas_init_73 (by decide +kernel) (fun c_73 => ?_) (fun c_73 => ?_)
        · refine lv_bipush (v := 12) hx hb d_Canvas_init_80 (by decide +kernel) ?_
          exact key _ (by first | exact (if_pos (Or.inl c_67)).symm | exact (if_pos (Or.inr c_73)).symm | exact (if_neg (fun q => q.elim (fun z => c_67 z) (fun z => c_73 z))).symm)
        · refine lv_iload_n hx hb d_Canvas_init_76 rfl (lv_at hl 3 rfl) ?_
          refine lv_goto (tgt := 82) hx hb d_Canvas_init_77 (by decide +kernel) ?_
          exact key _ (by first | exact (if_pos (Or.inl c_67)).symm | exact (if_pos (Or.inr c_73)).symm | exact (if_neg (fun q => q.elim (fun z => c_67 z) (fun z => c_73 z))).symm)
  · refine lv_iload_n hx hb d_Canvas_init_44 rfl (lv_at hl 2 rfl) ?_
    refine lv_iconst (v := 1) hx hb d_Canvas_init_45 (by decide +kernel) ?_
    refine lv_icmp_lt (tgt := 59) hx hb d_Canvas_init_46 (by decide +kernel) (fun c_46 => ?_) (fun c_46 => ?_)
    · refine lv_bipush (v := 16) hx hb d_Canvas_init_59 (by decide +kernel) ?_
      exact key _ (by first | exact (if_pos (Or.inl c_46)).symm | exact (if_pos (Or.inr c_52)).symm | exact (if_neg (fun q => q.elim (fun z => c_46 z) (fun z => c_52 z))).symm)
    · refine lv_iload_n hx hb d_Canvas_init_49 rfl (lv_at hl 2 rfl) ?_
      refine lv_bipush (v := 24) hx hb d_Canvas_init_50 (by decide +kernel) ?_
      refine lv_icmp_gt (tgt := 59) hx hb d_Canvas_init_52 (by decide +kernel) (fun c_52 => ?_) (fun c_52 => ?_)
      · refine lv_bipush (v := 16) hx hb d_Canvas_init_59 (by decide +kernel) ?_
        exact key _ (by first | exact (if_pos (Or.inl c_46)).symm | exact (if_pos (Or.inr c_52)).symm | exact (if_neg (fun q => q.elim (fun z => c_46 z) (fun z => c_52 z))).symm)
      · refine lv_iload_n hx hb d_Canvas_init_55 rfl (lv_at hl 2 rfl) ?_
        refine lv_goto (tgt := 61) hx hb d_Canvas_init_56 (by decide +kernel) ?_
        exact key _ (by first | exact (if_pos (Or.inl c_46)).symm | exact (if_pos (Or.inr c_52)).symm | exact (if_neg (fun q => q.elim (fun z => c_46 z) (fun z => c_52 z))).symm)
