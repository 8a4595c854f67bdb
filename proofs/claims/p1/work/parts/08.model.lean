theorem d_Mo_steps_0 : decode prog_15_method_75_code 0 = .ok (.aload_n 0, 1) := by decide +kernel
theorem d_Mo_steps_1 : decode prog_15_method_75_code 1 = .ok (.iconst 0, 1) := by decide +kernel
theorem d_Mo_steps_2 : decode prog_15_method_75_code 2 = .ok (.putfield 242, 3) := by decide +kernel
theorem k_6_160 : Cond.fieldLink "PageScribeModel" 242 "PageScribeModel" "thrown" "I" ∈ gw := gw_of (tb_6 (List.mem_of_getElem? (i := 160) (by decide +kernel))) (by decide +kernel)
theorem d_Mo_steps_5 : decode prog_15_method_75_code 5 = .ok (.aload_n 0, 1) := by decide +kernel
theorem d_Mo_steps_6 : decode prog_15_method_75_code 6 = .ok (.getfield 356, 3) := by decide +kernel
theorem k_6_192 : Cond.fieldLink "PageScribeModel" 356 "PageScribeModel" "steps" "I" ∈ gw := gw_of (tb_6 (List.mem_of_getElem? (i := 192) (by decide +kernel))) (by decide +kernel)
theorem d_Mo_steps_9 : decode prog_15_method_75_code 9 = .ok (.ireturn, 1) := by decide +kernel
set_option maxHeartbeats 4000000 in
set_option maxRecDepth 100000 in
theorem c_Mo_steps (l : Launch) (D : va_G) (T : Nat → ClassId) (h0 : Nat) (ar : (Nat → Nat)) (C : Nat) (Rr : Nat) (sz : Nat) : Met l ⟨"PageScribeModel", "steps", "()I"⟩ (wy ⟨"PageScribeModel", "steps", "()I"⟩ prog_15_method_75_code 1 (some .int)) ({ frames := 0, cells := 0, slots := 0, locals := 0 }) (va_Pc [.ref h0] (Pw D T [(h0, .inr (11, [.int 0, .ref (ar 0), .ref (ar 1), .ref (ar 2), .int 0, .int 0, .ref (ar 3), .ref (ar 4), .ref (ar 5), .ref (ar 6), .int 1, .int 0, .int 0, .ref (ar 7), .ref (ar 8), .int 0, .int 0, .ref (ar 9), .ref (ar 10), .ref (ar 11), .ref (ar 12), .ref (ar 13), .ref (ar 14), .ref (ar 15), .int 0, .int 0, .int 0, .int 0, .ref (ar 16), .ref (ar 17), .int 0, .int 0, .int 0, .int 0, .int (nI C), .int (nI Rr), .ref (ar 18), .float 0x3f800000, .ref (ar 19), .ref (ar 20), .ref (ar 21), .int 0, .ref (ar 22), .ref (ar 23), .ref (ar 24)]))] sz E0)) (va_Qi (fun (r : Int32) (u : Unit) => r = 0) (fun u t => Bw D T (va_A [(h0, .inr (11, [.int 0, .ref (ar 0), .ref (ar 1), .ref (ar 2), .int 0, .int 0, .ref (ar 3), .ref (ar 4), .ref (ar 5), .ref (ar 6), .int 1, .int 0, .int 0, .ref (ar 7), .ref (ar 8), .int 0, .int 0, .ref (ar 9), .ref (ar 10), .ref (ar 11), .ref (ar 12), .ref (ar 13), .ref (ar 14), .ref (ar 15), .int 0, .int 0, .int 0, .int 0, .ref (ar 16), .ref (ar 17), .int 0, .int 0, .int 0, .int 0, .int (nI C), .int (nI Rr), .ref (ar 18), .float 0x3f800000, .ref (ar 19), .ref (ar 20), .ref (ar 21), .int 0, .ref (ar 22), .ref (ar 23), .ref (ar 24)]))] sz) [(h0, .inr (11, [.int 0, .ref (ar 0), .ref (ar 1), .ref (ar 2), .int 0, .int 0, .ref (ar 3), .ref (ar 4), .ref (ar 5), .ref (ar 6), .int 1, .int 0, .int 0, .ref (ar 7), .ref (ar 8), .int 0, .int 0, .ref (ar 9), .ref (ar 10), .ref (ar 11), .ref (ar 12), .ref (ar 13), .ref (ar 14), .ref (ar 15), .int 0, .int 0, .int 0, .int 0, .ref (ar 16), .ref (ar 17), .int 0, .int 0, .int 0, .int 0, .int (nI C), .int (nI Rr), .ref (ar 18), .float 0x3f800000, .ref (ar 19), .ref (ar 20), .ref (ar 21), .int 0, .ref (ar 22), .ref (ar 23), .ref (ar 24)]))] t) (va_A [(h0, .inr (11, [.int 0, .ref (ar 0), .ref (ar 1), .ref (ar 2), .int 0, .int 0, .ref (ar 3), .ref (ar 4), .ref (ar 5), .ref (ar 6), .int 1, .int 0, .int 0, .ref (ar 7), .ref (ar 8), .int 0, .int 0, .ref (ar 9), .ref (ar 10), .ref (ar 11), .ref (ar 12), .ref (ar 13), .ref (ar 14), .ref (ar 15), .int 0, .int 0, .int 0, .int 0, .ref (ar 16), .ref (ar 17), .int 0, .int 0, .int 0, .int 0, .int (nI C), .int (nI Rr), .ref (ar 18), .float 0x3f800000, .ref (ar 19), .ref (ar 20), .ref (ar 21), .int 0, .ref (ar 22), .ref (ar 23), .ref (ar 24)]))] sz)) 0 0 (va_A [(h0, .inr (11, [.int 0, .ref (ar 0), .ref (ar 1), .ref (ar 2), .int 0, .int 0, .ref (ar 3), .ref (ar 4), .ref (ar 5), .ref (ar 6), .int 1, .int 0, .int 0, .ref (ar 7), .ref (ar 8), .int 0, .int 0, .ref (ar 9), .ref (ar 10), .ref (ar 11), .ref (ar 12), .ref (ar 13), .ref (ar 14), .ref (ar 15), .int 0, .int 0, .int 0, .int 0, .ref (ar 16), .ref (ar 17), .int 0, .int 0, .int 0, .int 0, .int (nI C), .int (nI Rr), .ref (ar 18), .float 0x3f800000, .ref (ar 19), .ref (ar 20), .ref (ar 21), .int 0, .ref (ar 22), .ref (ar 23), .ref (ar 24)]))] sz) := by
  refine j_met (y := ⟨"PageScribeModel", "steps", "()I"⟩) (b := prog_15_method_75_code) (n := 1) (ret := (some .int)) (av := [.ref h0]) (Qc := fun A => va_Qi (fun (r : Int32) (u : Unit) => r = 0) (fun u t => Bw D T A [(h0, .inr (11, [.int 0, .ref (ar 0), .ref (ar 1), .ref (ar 2), .int 0, .int 0, .ref (ar 3), .ref (ar 4), .ref (ar 5), .ref (ar 6), .int 1, .int 0, .int 0, .ref (ar 7), .ref (ar 8), .int 0, .int 0, .ref (ar 9), .ref (ar 10), .ref (ar 11), .ref (ar 12), .ref (ar 13), .ref (ar 14), .ref (ar 15), .int 0, .int 0, .int 0, .int 0, .ref (ar 16), .ref (ar 17), .int 0, .int 0, .int 0, .int 0, .int (nI C), .int (nI Rr), .ref (ar 18), .float 0x3f800000, .ref (ar 19), .ref (ar 20), .ref (ar 21), .int 0, .ref (ar 22), .ref (ar 23), .ref (ar 24)]))] t) A) (by decide +kernel) (Nat.le_of_ble_eq_true rfl) (fun p e s m args below meth c A ls F hr hlocks hnm hK hP hD hS hA hN hE hl => ?_)
  obtain ⟨hx, hb, hml, hown, hts⟩ := id F
  have hin := hnm
  have hl : lv_has ls 1 [(0, .ref h0)] := hl
  refine lv_aload_n hx hb d_Mo_steps_0 rfl (lv_at hl 0 rfl) ?_
  refine lv_iconst (v := 0) hx hb d_Mo_steps_1 (by decide) ?_
  refine va_put (D := D) (ci := 11) (v := .int 0) (ty := .int) (C := "PageScribeModel") (T := F_Mo) (N := 45) hx hb hts i_Mo t_Mo t_Mo_ok n_Mo hown hK hP hD hS 0 rfl rfl 0 (by decide) (hts _ k_6_160) (fun _ h9 => h9) rfl (by decide +kernel) rfl rfl (Nat.le_of_ble_eq_true rfl) d_Mo_steps_2 (fun H locs hP hD hS => ?_)
  have hP : va_P D classes [(h0, .inr (11, [.int 0, .ref (ar 0), .ref (ar 1), .ref (ar 2), .int 0, .int 0, .ref (ar 3), .ref (ar 4), .ref (ar 5), .ref (ar 6), .int 1, .int 0, .int 0, .ref (ar 7), .ref (ar 8), .int 0, .int 0, .ref (ar 9), .ref (ar 10), .ref (ar 11), .ref (ar 12), .ref (ar 13), .ref (ar 14), .ref (ar 15), .int 0, .int 0, .int 0, .int 0, .ref (ar 16), .ref (ar 17), .int 0, .int 0, .int 0, .int 0, .int (nI C), .int (nI Rr), .ref (ar 18), .float 0x3f800000, .ref (ar 19), .ref (ar 20), .ref (ar 21), .int 0, .ref (ar 22), .ref (ar 23), .ref (ar 24)]))] H := hP
  have hD : va_D A [(h0, .inr (11, [.int 0, .ref (ar 0), .ref (ar 1), .ref (ar 2), .int 0, .int 0, .ref (ar 3), .ref (ar 4), .ref (ar 5), .ref (ar 6), .int 1, .int 0, .int 0, .ref (ar 7), .ref (ar 8), .int 0, .int 0, .ref (ar 9), .ref (ar 10), .ref (ar 11), .ref (ar 12), .ref (ar 13), .ref (ar 14), .ref (ar 15), .int 0, .int 0, .int 0, .int 0, .ref (ar 16), .ref (ar 17), .int 0, .int 0, .int 0, .int 0, .int (nI C), .int (nI Rr), .ref (ar 18), .float 0x3f800000, .ref (ar 19), .ref (ar 20), .ref (ar 21), .int 0, .ref (ar 22), .ref (ar 23), .ref (ar 24)]))] := hD
  refine lv_aload_n hx hb d_Mo_steps_5 rfl (lv_at hl 0 rfl) ?_
  refine va_get (D := D) (ci := 11) (v := .int 0) (C := "PageScribeModel") (T := F_Mo) (N := 45) hx hb hts i_Mo hown hK hP 0 rfl rfl 32 (by decide) (hts _ k_6_192) (fun _ h9 => h9) rfl d_Mo_steps_6 ?_
  have hP9 := hP.sub (ws' := [(h0, .inr (11, [.int 0, .ref (ar 0), .ref (ar 1), .ref (ar 2), .int 0, .int 0, .ref (ar 3), .ref (ar 4), .ref (ar 5), .ref (ar 6), .int 1, .int 0, .int 0, .ref (ar 7), .ref (ar 8), .int 0, .int 0, .ref (ar 9), .ref (ar 10), .ref (ar 11), .ref (ar 12), .ref (ar 13), .ref (ar 14), .ref (ar 15), .int 0, .int 0, .int 0, .int 0, .ref (ar 16), .ref (ar 17), .int 0, .int 0, .int 0, .int 0, .int (nI C), .int (nI Rr), .ref (ar 18), .float 0x3f800000, .ref (ar 19), .ref (ar 20), .ref (ar 21), .int 0, .ref (ar 22), .ref (ar 23), .ref (ar 24)]))]) [0] rfl
  have hD9 := hD.sub (ws' := [(h0, .inr (11, [.int 0, .ref (ar 0), .ref (ar 1), .ref (ar 2), .int 0, .int 0, .ref (ar 3), .ref (ar 4), .ref (ar 5), .ref (ar 6), .int 1, .int 0, .int 0, .ref (ar 7), .ref (ar 8), .int 0, .int 0, .ref (ar 9), .ref (ar 10), .ref (ar 11), .ref (ar 12), .ref (ar 13), .ref (ar 14), .ref (ar 15), .int 0, .int 0, .int 0, .int 0, .ref (ar 16), .ref (ar 17), .int 0, .int 0, .int 0, .int 0, .int (nI C), .int (nI Rr), .ref (ar 18), .float 0x3f800000, .ref (ar 19), .ref (ar 20), .ref (ar 21), .int 0, .ref (ar 22), .ref (ar 23), .ref (ar 24)]))]) [0] (by decide) rfl
  refine W.widen (k := 0) (n := 0) (Nat.le_of_ble_eq_true rfl) (Nat.le_of_ble_eq_true rfl) ?_
  exact j_iret F hr hlocks hK hS () rfl hP9 hD9 d_Mo_steps_9
theorem d_Mo_fault_0 : decode prog_15_method_76_code 0 = .ok (.aload_n 0, 1) := by decide +kernel
theorem d_Mo_fault_1 : decode prog_15_method_76_code 1 = .ok (.iconst 0, 1) := by decide +kernel
theorem d_Mo_fault_2 : decode prog_15_method_76_code 2 = .ok (.putfield 242, 3) := by decide +kernel
theorem d_Mo_fault_5 : decode prog_15_method_76_code 5 = .ok (.aload_n 0, 1) := by decide +kernel
theorem d_Mo_fault_6 : decode prog_15_method_76_code 6 = .ok (.getfield 402, 3) := by decide +kernel
theorem k_6_193 : Cond.fieldLink "PageScribeModel" 402 "PageScribeModel" "failure" "I" ∈ gw := gw_of (tb_6 (List.mem_of_getElem? (i := 193) (by decide +kernel))) (by decide +kernel)
theorem d_Mo_fault_9 : decode prog_15_method_76_code 9 = .ok (.ireturn, 1) := by decide +kernel
set_option maxHeartbeats 4000000 in
set_option maxRecDepth 100000 in
theorem c_Mo_fault (l : Launch) (D : va_G) (T : Nat → ClassId) (h0 : Nat) (ar : (Nat → Nat)) (C : Nat) (Rr : Nat) (sz : Nat) : Met l ⟨"PageScribeModel", "fault", "()I"⟩ (wy ⟨"PageScribeModel", "fault", "()I"⟩ prog_15_method_76_code 1 (some .int)) ({ frames := 0, cells := 0, slots := 0, locals := 0 }) (va_Pc [.ref h0] (Pw D T [(h0, .inr (11, [.int 0, .ref (ar 0), .ref (ar 1), .ref (ar 2), .int 0, .int 0, .ref (ar 3), .ref (ar 4), .ref (ar 5), .ref (ar 6), .int 1, .int 0, .int 0, .ref (ar 7), .ref (ar 8), .int 0, .int 0, .ref (ar 9), .ref (ar 10), .ref (ar 11), .ref (ar 12), .ref (ar 13), .ref (ar 14), .ref (ar 15), .int 0, .int 0, .int 0, .int 0, .ref (ar 16), .ref (ar 17), .int 0, .int 0, .int 0, .int 0, .int (nI C), .int (nI Rr), .ref (ar 18), .float 0x3f800000, .ref (ar 19), .ref (ar 20), .ref (ar 21), .int 0, .ref (ar 22), .ref (ar 23), .ref (ar 24)]))] sz E0)) (va_Qi (fun (r : Int32) (u : Unit) => r = 0) (fun u t => Bw D T (va_A [(h0, .inr (11, [.int 0, .ref (ar 0), .ref (ar 1), .ref (ar 2), .int 0, .int 0, .ref (ar 3), .ref (ar 4), .ref (ar 5), .ref (ar 6), .int 1, .int 0, .int 0, .ref (ar 7), .ref (ar 8), .int 0, .int 0, .ref (ar 9), .ref (ar 10), .ref (ar 11), .ref (ar 12), .ref (ar 13), .ref (ar 14), .ref (ar 15), .int 0, .int 0, .int 0, .int 0, .ref (ar 16), .ref (ar 17), .int 0, .int 0, .int 0, .int 0, .int (nI C), .int (nI Rr), .ref (ar 18), .float 0x3f800000, .ref (ar 19), .ref (ar 20), .ref (ar 21), .int 0, .ref (ar 22), .ref (ar 23), .ref (ar 24)]))] sz) [(h0, .inr (11, [.int 0, .ref (ar 0), .ref (ar 1), .ref (ar 2), .int 0, .int 0, .ref (ar 3), .ref (ar 4), .ref (ar 5), .ref (ar 6), .int 1, .int 0, .int 0, .ref (ar 7), .ref (ar 8), .int 0, .int 0, .ref (ar 9), .ref (ar 10), .ref (ar 11), .ref (ar 12), .ref (ar 13), .ref (ar 14), .ref (ar 15), .int 0, .int 0, .int 0, .int 0, .ref (ar 16), .ref (ar 17), .int 0, .int 0, .int 0, .int 0, .int (nI C), .int (nI Rr), .ref (ar 18), .float 0x3f800000, .ref (ar 19), .ref (ar 20), .ref (ar 21), .int 0, .ref (ar 22), .ref (ar 23), .ref (ar 24)]))] t) (va_A [(h0, .inr (11, [.int 0, .ref (ar 0), .ref (ar 1), .ref (ar 2), .int 0, .int 0, .ref (ar 3), .ref (ar 4), .ref (ar 5), .ref (ar 6), .int 1, .int 0, .int 0, .ref (ar 7), .ref (ar 8), .int 0, .int 0, .ref (ar 9), .ref (ar 10), .ref (ar 11), .ref (ar 12), .ref (ar 13), .ref (ar 14), .ref (ar 15), .int 0, .int 0, .int 0, .int 0, .ref (ar 16), .ref (ar 17), .int 0, .int 0, .int 0, .int 0, .int (nI C), .int (nI Rr), .ref (ar 18), .float 0x3f800000, .ref (ar 19), .ref (ar 20), .ref (ar 21), .int 0, .ref (ar 22), .ref (ar 23), .ref (ar 24)]))] sz)) 0 0 (va_A [(h0, .inr (11, [.int 0, .ref (ar 0), .ref (ar 1), .ref (ar 2), .int 0, .int 0, .ref (ar 3), .ref (ar 4), .ref (ar 5), .ref (ar 6), .int 1, .int 0, .int 0, .ref (ar 7), .ref (ar 8), .int 0, .int 0, .ref (ar 9), .ref (ar 10), .ref (ar 11), .ref (ar 12), .ref (ar 13), .ref (ar 14), .ref (ar 15), .int 0, .int 0, .int 0, .int 0, .ref (ar 16), .ref (ar 17), .int 0, .int 0, .int 0, .int 0, .int (nI C), .int (nI Rr), .ref (ar 18), .float 0x3f800000, .ref (ar 19), .ref (ar 20), .ref (ar 21), .int 0, .ref (ar 22), .ref (ar 23), .ref (ar 24)]))] sz) := by
  refine j_met (y := ⟨"PageScribeModel", "fault", "()I"⟩) (b := prog_15_method_76_code) (n := 1) (ret := (some .int)) (av := [.ref h0]) (Qc := fun A => va_Qi (fun (r : Int32) (u : Unit) => r = 0) (fun u t => Bw D T A [(h0, .inr (11, [.int 0, .ref (ar 0), .ref (ar 1), .ref (ar 2), .int 0, .int 0, .ref (ar 3), .ref (ar 4), .ref (ar 5), .ref (ar 6), .int 1, .int 0, .int 0, .ref (ar 7), .ref (ar 8), .int 0, .int 0, .ref (ar 9), .ref (ar 10), .ref (ar 11), .ref (ar 12), .ref (ar 13), .ref (ar 14), .ref (ar 15), .int 0, .int 0, .int 0, .int 0, .ref (ar 16), .ref (ar 17), .int 0, .int 0, .int 0, .int 0, .int (nI C), .int (nI Rr), .ref (ar 18), .float 0x3f800000, .ref (ar 19), .ref (ar 20), .ref (ar 21), .int 0, .ref (ar 22), .ref (ar 23), .ref (ar 24)]))] t) A) (by decide +kernel) (Nat.le_of_ble_eq_true rfl) (fun p e s m args below meth c A ls F hr hlocks hnm hK hP hD hS hA hN hE hl => ?_)
  obtain ⟨hx, hb, hml, hown, hts⟩ := id F
  have hin := hnm
  have hl : lv_has ls 1 [(0, .ref h0)] := hl
  refine lv_aload_n hx hb d_Mo_fault_0 rfl (lv_at hl 0 rfl) ?_
  refine lv_iconst (v := 0) hx hb d_Mo_fault_1 (by decide) ?_
  refine va_put (D := D) (ci := 11) (v := .int 0) (ty := .int) (C := "PageScribeModel") (T := F_Mo) (N := 45) hx hb hts i_Mo t_Mo t_Mo_ok n_Mo hown hK hP hD hS 0 rfl rfl 0 (by decide) (hts _ k_6_160) (fun _ h9 => h9) rfl (by decide +kernel) rfl rfl (Nat.le_of_ble_eq_true rfl) d_Mo_fault_2 (fun H locs hP hD hS => ?_)
  have hP : va_P D classes [(h0, .inr (11, [.int 0, .ref (ar 0), .ref (ar 1), .ref (ar 2), .int 0, .int 0, .ref (ar 3), .ref (ar 4), .ref (ar 5), .ref (ar 6), .int 1, .int 0, .int 0, .ref (ar 7), .ref (ar 8), .int 0, .int 0, .ref (ar 9), .ref (ar 10), .ref (ar 11), .ref (ar 12), .ref (ar 13), .ref (ar 14), .ref (ar 15), .int 0, .int 0, .int 0, .int 0, .ref (ar 16), .ref (ar 17), .int 0, .int 0, .int 0, .int 0, .int (nI C), .int (nI Rr), .ref (ar 18), .float 0x3f800000, .ref (ar 19), .ref (ar 20), .ref (ar 21), .int 0, .ref (ar 22), .ref (ar 23), .ref (ar 24)]))] H := hP
  have hD : va_D A [(h0, .inr (11, [.int 0, .ref (ar 0), .ref (ar 1), .ref (ar 2), .int 0, .int 0, .ref (ar 3), .ref (ar 4), .ref (ar 5), .ref (ar 6), .int 1, .int 0, .int 0, .ref (ar 7), .ref (ar 8), .int 0, .int 0, .ref (ar 9), .ref (ar 10), .ref (ar 11), .ref (ar 12), .ref (ar 13), .ref (ar 14), .ref (ar 15), .int 0, .int 0, .int 0, .int 0, .ref (ar 16), .ref (ar 17), .int 0, .int 0, .int 0, .int 0, .int (nI C), .int (nI Rr), .ref (ar 18), .float 0x3f800000, .ref (ar 19), .ref (ar 20), .ref (ar 21), .int 0, .ref (ar 22), .ref (ar 23), .ref (ar 24)]))] := hD
  refine lv_aload_n hx hb d_Mo_fault_5 rfl (lv_at hl 0 rfl) ?_
  refine va_get (D := D) (ci := 11) (v := .int 0) (C := "PageScribeModel") (T := F_Mo) (N := 45) hx hb hts i_Mo hown hK hP 0 rfl rfl 33 (by decide) (hts _ k_6_193) (fun _ h9 => h9) rfl d_Mo_fault_6 ?_
  have hP9 := hP.sub (ws' := [(h0, .inr (11, [.int 0, .ref (ar 0), .ref (ar 1), .ref (ar 2), .int 0, .int 0, .ref (ar 3), .ref (ar 4), .ref (ar 5), .ref (ar 6), .int 1, .int 0, .int 0, .ref (ar 7), .ref (ar 8), .int 0, .int 0, .ref (ar 9), .ref (ar 10), .ref (ar 11), .ref (ar 12), .ref (ar 13), .ref (ar 14), .ref (ar 15), .int 0, .int 0, .int 0, .int 0, .ref (ar 16), .ref (ar 17), .int 0, .int 0, .int 0, .int 0, .int (nI C), .int (nI Rr), .ref (ar 18), .float 0x3f800000, .ref (ar 19), .ref (ar 20), .ref (ar 21), .int 0, .ref (ar 22), .ref (ar 23), .ref (ar 24)]))]) [0] rfl
  have hD9 := hD.sub (ws' := [(h0, .inr (11, [.int 0, .ref (ar 0), .ref (ar 1), .ref (ar 2), .int 0, .int 0, .ref (ar 3), .ref (ar 4), .ref (ar 5), .ref (ar 6), .int 1, .int 0, .int 0, .ref (ar 7), .ref (ar 8), .int 0, .int 0, .ref (ar 9), .ref (ar 10), .ref (ar 11), .ref (ar 12), .ref (ar 13), .ref (ar 14), .ref (ar 15), .int 0, .int 0, .int 0, .int 0, .ref (ar 16), .ref (ar 17), .int 0, .int 0, .int 0, .int 0, .int (nI C), .int (nI Rr), .ref (ar 18), .float 0x3f800000, .ref (ar 19), .ref (ar 20), .ref (ar 21), .int 0, .ref (ar 22), .ref (ar 23), .ref (ar 24)]))]) [0] (by decide) rfl
  refine W.widen (k := 0) (n := 0) (Nat.le_of_ble_eq_true rfl) (Nat.le_of_ble_eq_true rfl) ?_
  exact j_iret F hr hlocks hK hS () rfl hP9 hD9 d_Mo_fault_9
theorem d_Mo_depth_0 : decode prog_15_method_78_code 0 = .ok (.aload_n 0, 1) := by decide +kernel
theorem d_Mo_depth_1 : decode prog_15_method_78_code 1 = .ok (.iconst 0, 1) := by decide +kernel
theorem d_Mo_depth_2 : decode prog_15_method_78_code 2 = .ok (.putfield 242, 3) := by decide +kernel
theorem d_Mo_depth_5 : decode prog_15_method_78_code 5 = .ok (.aload_n 0, 1) := by decide +kernel
theorem d_Mo_depth_6 : decode prog_15_method_78_code 6 = .ok (.getfield 247, 3) := by decide +kernel
theorem k_6_164 : Cond.fieldLink "PageScribeModel" 247 "PageScribeModel" "size" "I" ∈ gw := gw_of (tb_6 (List.mem_of_getElem? (i := 164) (by decide +kernel))) (by decide +kernel)
theorem d_Mo_depth_9 : decode prog_15_method_78_code 9 = .ok (.ireturn, 1) := by decide +kernel
set_option maxHeartbeats 4000000 in
set_option maxRecDepth 100000 in
theorem c_Mo_depth (l : Launch) (D : va_G) (T : Nat → ClassId) (h0 : Nat) (ar : (Nat → Nat)) (C : Nat) (Rr : Nat) (sz : Nat) : Met l ⟨"PageScribeModel", "depth", "()I"⟩ (wy ⟨"PageScribeModel", "depth", "()I"⟩ prog_15_method_78_code 1 (some .int)) ({ frames := 0, cells := 0, slots := 0, locals := 0 }) (va_Pc [.ref h0] (Pw D T [(h0, .inr (11, [.int 0, .ref (ar 0), .ref (ar 1), .ref (ar 2), .int 0, .int 0, .ref (ar 3), .ref (ar 4), .ref (ar 5), .ref (ar 6), .int 1, .int 0, .int 0, .ref (ar 7), .ref (ar 8), .int 0, .int 0, .ref (ar 9), .ref (ar 10), .ref (ar 11), .ref (ar 12), .ref (ar 13), .ref (ar 14), .ref (ar 15), .int 0, .int 0, .int 0, .int 0, .ref (ar 16), .ref (ar 17), .int 0, .int 0, .int 0, .int 0, .int (nI C), .int (nI Rr), .ref (ar 18), .float 0x3f800000, .ref (ar 19), .ref (ar 20), .ref (ar 21), .int 0, .ref (ar 22), .ref (ar 23), .ref (ar 24)]))] sz E0)) (va_Qi (fun (r : Int32) (u : Unit) => r = 0) (fun u t => Bw D T (va_A [(h0, .inr (11, [.int 0, .ref (ar 0), .ref (ar 1), .ref (ar 2), .int 0, .int 0, .ref (ar 3), .ref (ar 4), .ref (ar 5), .ref (ar 6), .int 1, .int 0, .int 0, .ref (ar 7), .ref (ar 8), .int 0, .int 0, .ref (ar 9), .ref (ar 10), .ref (ar 11), .ref (ar 12), .ref (ar 13), .ref (ar 14), .ref (ar 15), .int 0, .int 0, .int 0, .int 0, .ref (ar 16), .ref (ar 17), .int 0, .int 0, .int 0, .int 0, .int (nI C), .int (nI Rr), .ref (ar 18), .float 0x3f800000, .ref (ar 19), .ref (ar 20), .ref (ar 21), .int 0, .ref (ar 22), .ref (ar 23), .ref (ar 24)]))] sz) [(h0, .inr (11, [.int 0, .ref (ar 0), .ref (ar 1), .ref (ar 2), .int 0, .int 0, .ref (ar 3), .ref (ar 4), .ref (ar 5), .ref (ar 6), .int 1, .int 0, .int 0, .ref (ar 7), .ref (ar 8), .int 0, .int 0, .ref (ar 9), .ref (ar 10), .ref (ar 11), .ref (ar 12), .ref (ar 13), .ref (ar 14), .ref (ar 15), .int 0, .int 0, .int 0, .int 0, .ref (ar 16), .ref (ar 17), .int 0, .int 0, .int 0, .int 0, .int (nI C), .int (nI Rr), .ref (ar 18), .float 0x3f800000, .ref (ar 19), .ref (ar 20), .ref (ar 21), .int 0, .ref (ar 22), .ref (ar 23), .ref (ar 24)]))] t) (va_A [(h0, .inr (11, [.int 0, .ref (ar 0), .ref (ar 1), .ref (ar 2), .int 0, .int 0, .ref (ar 3), .ref (ar 4), .ref (ar 5), .ref (ar 6), .int 1, .int 0, .int 0, .ref (ar 7), .ref (ar 8), .int 0, .int 0, .ref (ar 9), .ref (ar 10), .ref (ar 11), .ref (ar 12), .ref (ar 13), .ref (ar 14), .ref (ar 15), .int 0, .int 0, .int 0, .int 0, .ref (ar 16), .ref (ar 17), .int 0, .int 0, .int 0, .int 0, .int (nI C), .int (nI Rr), .ref (ar 18), .float 0x3f800000, .ref (ar 19), .ref (ar 20), .ref (ar 21), .int 0, .ref (ar 22), .ref (ar 23), .ref (ar 24)]))] sz)) 0 0 (va_A [(h0, .inr (11, [.int 0, .ref (ar 0), .ref (ar 1), .ref (ar 2), .int 0, .int 0, .ref (ar 3), .ref (ar 4), .ref (ar 5), .ref (ar 6), .int 1, .int 0, .int 0, .ref (ar 7), .ref (ar 8), .int 0, .int 0, .ref (ar 9), .ref (ar 10), .ref (ar 11), .ref (ar 12), .ref (ar 13), .ref (ar 14), .ref (ar 15), .int 0, .int 0, .int 0, .int 0, .ref (ar 16), .ref (ar 17), .int 0, .int 0, .int 0, .int 0, .int (nI C), .int (nI Rr), .ref (ar 18), .float 0x3f800000, .ref (ar 19), .ref (ar 20), .ref (ar 21), .int 0, .ref (ar 22), .ref (ar 23), .ref (ar 24)]))] sz) := by
  refine j_met (y := ⟨"PageScribeModel", "depth", "()I"⟩) (b := prog_15_method_78_code) (n := 1) (ret := (some .int)) (av := [.ref h0]) (Qc := fun A => va_Qi (fun (r : Int32) (u : Unit) => r = 0) (fun u t => Bw D T A [(h0, .inr (11, [.int 0, .ref (ar 0), .ref (ar 1), .ref (ar 2), .int 0, .int 0, .ref (ar 3), .ref (ar 4), .ref (ar 5), .ref (ar 6), .int 1, .int 0, .int 0, .ref (ar 7), .ref (ar 8), .int 0, .int 0, .ref (ar 9), .ref (ar 10), .ref (ar 11), .ref (ar 12), .ref (ar 13), .ref (ar 14), .ref (ar 15), .int 0, .int 0, .int 0, .int 0, .ref (ar 16), .ref (ar 17), .int 0, .int 0, .int 0, .int 0, .int (nI C), .int (nI Rr), .ref (ar 18), .float 0x3f800000, .ref (ar 19), .ref (ar 20), .ref (ar 21), .int 0, .ref (ar 22), .ref (ar 23), .ref (ar 24)]))] t) A) (by decide +kernel) (Nat.le_of_ble_eq_true rfl) (fun p e s m args below meth c A ls F hr hlocks hnm hK hP hD hS hA hN hE hl => ?_)
  obtain ⟨hx, hb, hml, hown, hts⟩ := id F
  have hin := hnm
  have hl : lv_has ls 1 [(0, .ref h0)] := hl
  refine lv_aload_n hx hb d_Mo_depth_0 rfl (lv_at hl 0 rfl) ?_
  refine lv_iconst (v := 0) hx hb d_Mo_depth_1 (by decide) ?_
  refine va_put (D := D) (ci := 11) (v := .int 0) (ty := .int) (C := "PageScribeModel") (T := F_Mo) (N := 45) hx hb hts i_Mo t_Mo t_Mo_ok n_Mo hown hK hP hD hS 0 rfl rfl 0 (by decide) (hts _ k_6_160) (fun _ h9 => h9) rfl (by decide +kernel) rfl rfl (Nat.le_of_ble_eq_true rfl) d_Mo_depth_2 (fun H locs hP hD hS => ?_)
  have hP : va_P D classes [(h0, .inr (11, [.int 0, .ref (ar 0), .ref (ar 1), .ref (ar 2), .int 0, .int 0, .ref (ar 3), .ref (ar 4), .ref (ar 5), .ref (ar 6), .int 1, .int 0, .int 0, .ref (ar 7), .ref (ar 8), .int 0, .int 0, .ref (ar 9), .ref (ar 10), .ref (ar 11), .ref (ar 12), .ref (ar 13), .ref (ar 14), .ref (ar 15), .int 0, .int 0, .int 0, .int 0, .ref (ar 16), .ref (ar 17), .int 0, .int 0, .int 0, .int 0, .int (nI C), .int (nI Rr), .ref (ar 18), .float 0x3f800000, .ref (ar 19), .ref (ar 20), .ref (ar 21), .int 0, .ref (ar 22), .ref (ar 23), .ref (ar 24)]))] H := hP
  have hD : va_D A [(h0, .inr (11, [.int 0, .ref (ar 0), .ref (ar 1), .ref (ar 2), .int 0, .int 0, .ref (ar 3), .ref (ar 4), .ref (ar 5), .ref (ar 6), .int 1, .int 0, .int 0, .ref (ar 7), .ref (ar 8), .int 0, .int 0, .ref (ar 9), .ref (ar 10), .ref (ar 11), .ref (ar 12), .ref (ar 13), .ref (ar 14), .ref (ar 15), .int 0, .int 0, .int 0, .int 0, .ref (ar 16), .ref (ar 17), .int 0, .int 0, .int 0, .int 0, .int (nI C), .int (nI Rr), .ref (ar 18), .float 0x3f800000, .ref (ar 19), .ref (ar 20), .ref (ar 21), .int 0, .ref (ar 22), .ref (ar 23), .ref (ar 24)]))] := hD
  refine lv_aload_n hx hb d_Mo_depth_5 rfl (lv_at hl 0 rfl) ?_
  refine va_get (D := D) (ci := 11) (v := .int 0) (C := "PageScribeModel") (T := F_Mo) (N := 45) hx hb hts i_Mo hown hK hP 0 rfl rfl 4 (by decide) (hts _ k_6_164) (fun _ h9 => h9) rfl d_Mo_depth_6 ?_
  have hP9 := hP.sub (ws' := [(h0, .inr (11, [.int 0, .ref (ar 0), .ref (ar 1), .ref (ar 2), .int 0, .int 0, .ref (ar 3), .ref (ar 4), .ref (ar 5), .ref (ar 6), .int 1, .int 0, .int 0, .ref (ar 7), .ref (ar 8), .int 0, .int 0, .ref (ar 9), .ref (ar 10), .ref (ar 11), .ref (ar 12), .ref (ar 13), .ref (ar 14), .ref (ar 15), .int 0, .int 0, .int 0, .int 0, .ref (ar 16), .ref (ar 17), .int 0, .int 0, .int 0, .int 0, .int (nI C), .int (nI Rr), .ref (ar 18), .float 0x3f800000, .ref (ar 19), .ref (ar 20), .ref (ar 21), .int 0, .ref (ar 22), .ref (ar 23), .ref (ar 24)]))]) [0] rfl
  have hD9 := hD.sub (ws' := [(h0, .inr (11, [.int 0, .ref (ar 0), .ref (ar 1), .ref (ar 2), .int 0, .int 0, .ref (ar 3), .ref (ar 4), .ref (ar 5), .ref (ar 6), .int 1, .int 0, .int 0, .ref (ar 7), .ref (ar 8), .int 0, .int 0, .ref (ar 9), .ref (ar 10), .ref (ar 11), .ref (ar 12), .ref (ar 13), .ref (ar 14), .ref (ar 15), .int 0, .int 0, .int 0, .int 0, .ref (ar 16), .ref (ar 17), .int 0, .int 0, .int 0, .int 0, .int (nI C), .int (nI Rr), .ref (ar 18), .float 0x3f800000, .ref (ar 19), .ref (ar 20), .ref (ar 21), .int 0, .ref (ar 22), .ref (ar 23), .ref (ar 24)]))]) [0] (by decide) rfl
  refine W.widen (k := 0) (n := 0) (Nat.le_of_ble_eq_true rfl) (Nat.le_of_ble_eq_true rfl) ?_
  exact j_iret F hr hlocks hK hS () rfl hP9 hD9 d_Mo_depth_9
theorem d_Mo_thrown_0 : decode prog_15_method_2_code 0 = .ok (.aload_n 0, 1) := by decide +kernel
theorem d_Mo_thrown_1 : decode prog_15_method_2_code 1 = .ok (.getfield 242, 3) := by decide +kernel
theorem d_Mo_thrown_4 : decode prog_15_method_2_code 4 = .ok (.ireturn, 1) := by decide +kernel
set_option maxHeartbeats 4000000 in
set_option maxRecDepth 100000 in
theorem c_Mo_thrown (l : Launch) (D : va_G) (T : Nat → ClassId) (h0 : Nat) (ar : (Nat → Nat)) (C : Nat) (Rr : Nat) (th : Int32) (fu : Int32) (sz : Nat) : Met l ⟨"PageScribeModel", "thrown", "()I"⟩ (wy ⟨"PageScribeModel", "thrown", "()I"⟩ prog_15_method_2_code 1 (some .int)) ({ frames := 0, cells := 0, slots := 0, locals := 0 }) (va_Pc [.ref h0] (Pw D T [(h0, .inr (11, [.int th, .ref (ar 0), .ref (ar 1), .ref (ar 2), .int 0, .int 0, .ref (ar 3), .ref (ar 4), .ref (ar 5), .ref (ar 6), .int 1, .int 0, .int 0, .ref (ar 7), .ref (ar 8), .int 0, .int 0, .ref (ar 9), .ref (ar 10), .ref (ar 11), .ref (ar 12), .ref (ar 13), .ref (ar 14), .ref (ar 15), .int 0, .int 0, .int 0, .int 0, .ref (ar 16), .ref (ar 17), .int 0, .int fu, .int 0, .int 0, .int (nI C), .int (nI Rr), .ref (ar 18), .float 0x3f800000, .ref (ar 19), .ref (ar 20), .ref (ar 21), .int 0, .ref (ar 22), .ref (ar 23), .ref (ar 24)]))] sz E0)) (va_Qi (fun (r : Int32) (u : Unit) => r = th) (fun u t => Bw D T (va_A [(h0, .inr (11, [.int th, .ref (ar 0), .ref (ar 1), .ref (ar 2), .int 0, .int 0, .ref (ar 3), .ref (ar 4), .ref (ar 5), .ref (ar 6), .int 1, .int 0, .int 0, .ref (ar 7), .ref (ar 8), .int 0, .int 0, .ref (ar 9), .ref (ar 10), .ref (ar 11), .ref (ar 12), .ref (ar 13), .ref (ar 14), .ref (ar 15), .int 0, .int 0, .int 0, .int 0, .ref (ar 16), .ref (ar 17), .int 0, .int fu, .int 0, .int 0, .int (nI C), .int (nI Rr), .ref (ar 18), .float 0x3f800000, .ref (ar 19), .ref (ar 20), .ref (ar 21), .int 0, .ref (ar 22), .ref (ar 23), .ref (ar 24)]))] sz) [(h0, .inr (11, [.int th, .ref (ar 0), .ref (ar 1), .ref (ar 2), .int 0, .int 0, .ref (ar 3), .ref (ar 4), .ref (ar 5), .ref (ar 6), .int 1, .int 0, .int 0, .ref (ar 7), .ref (ar 8), .int 0, .int 0, .ref (ar 9), .ref (ar 10), .ref (ar 11), .ref (ar 12), .ref (ar 13), .ref (ar 14), .ref (ar 15), .int 0, .int 0, .int 0, .int 0, .ref (ar 16), .ref (ar 17), .int 0, .int fu, .int 0, .int 0, .int (nI C), .int (nI Rr), .ref (ar 18), .float 0x3f800000, .ref (ar 19), .ref (ar 20), .ref (ar 21), .int 0, .ref (ar 22), .ref (ar 23), .ref (ar 24)]))] t) (va_A [(h0, .inr (11, [.int th, .ref (ar 0), .ref (ar 1), .ref (ar 2), .int 0, .int 0, .ref (ar 3), .ref (ar 4), .ref (ar 5), .ref (ar 6), .int 1, .int 0, .int 0, .ref (ar 7), .ref (ar 8), .int 0, .int 0, .ref (ar 9), .ref (ar 10), .ref (ar 11), .ref (ar 12), .ref (ar 13), .ref (ar 14), .ref (ar 15), .int 0, .int 0, .int 0, .int 0, .ref (ar 16), .ref (ar 17), .int 0, .int fu, .int 0, .int 0, .int (nI C), .int (nI Rr), .ref (ar 18), .float 0x3f800000, .ref (ar 19), .ref (ar 20), .ref (ar 21), .int 0, .ref (ar 22), .ref (ar 23), .ref (ar 24)]))] sz)) 0 0 (va_A [(h0, .inr (11, [.int th, .ref (ar 0), .ref (ar 1), .ref (ar 2), .int 0, .int 0, .ref (ar 3), .ref (ar 4), .ref (ar 5), .ref (ar 6), .int 1, .int 0, .int 0, .ref (ar 7), .ref (ar 8), .int 0, .int 0, .ref (ar 9), .ref (ar 10), .ref (ar 11), .ref (ar 12), .ref (ar 13), .ref (ar 14), .ref (ar 15), .int 0, .int 0, .int 0, .int 0, .ref (ar 16), .ref (ar 17), .int 0, .int fu, .int 0, .int 0, .int (nI C), .int (nI Rr), .ref (ar 18), .float 0x3f800000, .ref (ar 19), .ref (ar 20), .ref (ar 21), .int 0, .ref (ar 22), .ref (ar 23), .ref (ar 24)]))] sz) := by
  refine j_met (y := ⟨"PageScribeModel", "thrown", "()I"⟩) (b := prog_15_method_2_code) (n := 1) (ret := (some .int)) (av := [.ref h0]) (Qc := fun A => va_Qi (fun (r : Int32) (u : Unit) => r = th) (fun u t => Bw D T A [(h0, .inr (11, [.int th, .ref (ar 0), .ref (ar 1), .ref (ar 2), .int 0, .int 0, .ref (ar 3), .ref (ar 4), .ref (ar 5), .ref (ar 6), .int 1, .int 0, .int 0, .ref (ar 7), .ref (ar 8), .int 0, .int 0, .ref (ar 9), .ref (ar 10), .ref (ar 11), .ref (ar 12), .ref (ar 13), .ref (ar 14), .ref (ar 15), .int 0, .int 0, .int 0, .int 0, .ref (ar 16), .ref (ar 17), .int 0, .int fu, .int 0, .int 0, .int (nI C), .int (nI Rr), .ref (ar 18), .float 0x3f800000, .ref (ar 19), .ref (ar 20), .ref (ar 21), .int 0, .ref (ar 22), .ref (ar 23), .ref (ar 24)]))] t) A) (by decide +kernel) (Nat.le_of_ble_eq_true rfl) (fun p e s m args below meth c A ls F hr hlocks hnm hK hP hD hS hA hN hE hl => ?_)
  obtain ⟨hx, hb, hml, hown, hts⟩ := id F
  have hin := hnm
  have hl : lv_has ls 1 [(0, .ref h0)] := hl
  refine lv_aload_n hx hb d_Mo_thrown_0 rfl (lv_at hl 0 rfl) ?_
  refine va_get (D := D) (ci := 11) (v := .int th) (C := "PageScribeModel") (T := F_Mo) (N := 45) hx hb hts i_Mo hown hK hP 0 rfl rfl 0 (by decide) (hts _ k_6_160) (fun _ h9 => h9) rfl d_Mo_thrown_1 ?_
  have hP9 := hP.sub (ws' := [(h0, .inr (11, [.int th, .ref (ar 0), .ref (ar 1), .ref (ar 2), .int 0, .int 0, .ref (ar 3), .ref (ar 4), .ref (ar 5), .ref (ar 6), .int 1, .int 0, .int 0, .ref (ar 7), .ref (ar 8), .int 0, .int 0, .ref (ar 9), .ref (ar 10), .ref (ar 11), .ref (ar 12), .ref (ar 13), .ref (ar 14), .ref (ar 15), .int 0, .int 0, .int 0, .int 0, .ref (ar 16), .ref (ar 17), .int 0, .int fu, .int 0, .int 0, .int (nI C), .int (nI Rr), .ref (ar 18), .float 0x3f800000, .ref (ar 19), .ref (ar 20), .ref (ar 21), .int 0, .ref (ar 22), .ref (ar 23), .ref (ar 24)]))]) [0] rfl
  have hD9 := hD.sub (ws' := [(h0, .inr (11, [.int th, .ref (ar 0), .ref (ar 1), .ref (ar 2), .int 0, .int 0, .ref (ar 3), .ref (ar 4), .ref (ar 5), .ref (ar 6), .int 1, .int 0, .int 0, .ref (ar 7), .ref (ar 8), .int 0, .int 0, .ref (ar 9), .ref (ar 10), .ref (ar 11), .ref (ar 12), .ref (ar 13), .ref (ar 14), .ref (ar 15), .int 0, .int 0, .int 0, .int 0, .ref (ar 16), .ref (ar 17), .int 0, .int fu, .int 0, .int 0, .int (nI C), .int (nI Rr), .ref (ar 18), .float 0x3f800000, .ref (ar 19), .ref (ar 20), .ref (ar 21), .int 0, .ref (ar 22), .ref (ar 23), .ref (ar 24)]))]) [0] (by decide) rfl
  refine W.widen (k := 0) (n := 0) (Nat.le_of_ble_eq_true rfl) (Nat.le_of_ble_eq_true rfl) ?_
  exact j_iret F hr hlocks hK hS () rfl hP9 hD9 d_Mo_thrown_4
theorem d_Mo_kind_0 : decode prog_15_method_79_code 0 = .ok (.aload_n 0, 1) := by decide +kernel
theorem d_Mo_kind_1 : decode prog_15_method_79_code 1 = .ok (.iload_n 1, 1) := by decide +kernel
theorem d_Mo_kind_2 : decode prog_15_method_79_code 2 = .ok (.ifCond .lt 11, 3) := by decide +kernel
theorem d_Mo_kind_13 : decode prog_15_method_79_code 13 = .ok (.iconst 1, 1) := by decide +kernel
theorem d_Mo_kind_14 : decode prog_15_method_79_code 14 = .ok (.goto 4, 3) := by decide +kernel
theorem d_Mo_kind_18 : decode prog_15_method_79_code 18 = .ok (.putfield 242, 3) := by decide +kernel
theorem d_Mo_kind_21 : decode prog_15_method_79_code 21 = .ok (.aload_n 0, 1) := by decide +kernel
theorem d_Mo_kind_22 : decode prog_15_method_79_code 22 = .ok (.getfield 242, 3) := by decide +kernel
theorem d_Mo_kind_25 : decode prog_15_method_79_code 25 = .ok (.ifCond .le 7, 3) := by decide +kernel
theorem d_Mo_kind_28 : decode prog_15_method_79_code 28 = .ok (.iconst 0, 1) := by decide +kernel
theorem d_Mo_kind_29 : decode prog_15_method_79_code 29 = .ok (.goto 16, 3) := by decide +kernel
theorem d_Mo_kind_45 : decode prog_15_method_79_code 45 = .ok (.ireturn, 1) := by decide +kernel
theorem d_Mo_kind_5 : decode prog_15_method_79_code 5 = .ok (.iload_n 1, 1) := by decide +kernel
theorem d_Mo_kind_6 : decode prog_15_method_79_code 6 = .ok (.aload_n 0, 1) := by decide +kernel
theorem d_Mo_kind_7 : decode prog_15_method_79_code 7 = .ok (.getfield 247, 3) := by decide +kernel
theorem d_Mo_kind_10 : decode prog_15_method_79_code 10 = .ok (.if_icmp .lt 7, 3) := by decide +kernel
set_option maxHeartbeats 4000000 in
set_option maxRecDepth 100000 in
theorem c_Mo_kind (l : Launch) (D : va_G) (T : Nat → ClassId) (h0 : Nat) (ar : (Nat → Nat)) (C : Nat) (Rr : Nat) (p0 : Int32) (sz : Nat) : Met l ⟨"PageScribeModel", "kind", "(I)I"⟩ (wy ⟨"PageScribeModel", "kind", "(I)I"⟩ prog_15_method_79_code 2 (some .int)) ({ frames := 0, cells := 0, slots := 0, locals := 0 }) (va_Pc [.ref h0, .int p0] (Pw D T [(h0, .inr (11, [.int 0, .ref (ar 0), .ref (ar 1), .ref (ar 2), .int 0, .int 0, .ref (ar 3), .ref (ar 4), .ref (ar 5), .ref (ar 6), .int 1, .int 0, .int 0, .ref (ar 7), .ref (ar 8), .int 0, .int 0, .ref (ar 9), .ref (ar 10), .ref (ar 11), .ref (ar 12), .ref (ar 13), .ref (ar 14), .ref (ar 15), .int 0, .int 0, .int 0, .int 0, .ref (ar 16), .ref (ar 17), .int 0, .int 0, .int 0, .int 0, .int (nI C), .int (nI Rr), .ref (ar 18), .float 0x3f800000, .ref (ar 19), .ref (ar 20), .ref (ar 21), .int 0, .ref (ar 22), .ref (ar 23), .ref (ar 24)]))] sz E0)) (va_Qi (fun (r : Int32) (u : Unit) => r = 0) (fun u t => Bw D T (va_A [(h0, .inr (11, [.int 0, .ref (ar 0), .ref (ar 1), .ref (ar 2), .int 0, .int 0, .ref (ar 3), .ref (ar 4), .ref (ar 5), .ref (ar 6), .int 1, .int 0, .int 0, .ref (ar 7), .ref (ar 8), .int 0, .int 0, .ref (ar 9), .ref (ar 10), .ref (ar 11), .ref (ar 12), .ref (ar 13), .ref (ar 14), .ref (ar 15), .int 0, .int 0, .int 0, .int 0, .ref (ar 16), .ref (ar 17), .int 0, .int 0, .int 0, .int 0, .int (nI C), .int (nI Rr), .ref (ar 18), .float 0x3f800000, .ref (ar 19), .ref (ar 20), .ref (ar 21), .int 0, .ref (ar 22), .ref (ar 23), .ref (ar 24)]))] sz) [(h0, .inr (11, [.int 1, .ref (ar 0), .ref (ar 1), .ref (ar 2), .int 0, .int 0, .ref (ar 3), .ref (ar 4), .ref (ar 5), .ref (ar 6), .int 1, .int 0, .int 0, .ref (ar 7), .ref (ar 8), .int 0, .int 0, .ref (ar 9), .ref (ar 10), .ref (ar 11), .ref (ar 12), .ref (ar 13), .ref (ar 14), .ref (ar 15), .int 0, .int 0, .int 0, .int 0, .ref (ar 16), .ref (ar 17), .int 0, .int 0, .int 0, .int 0, .int (nI C), .int (nI Rr), .ref (ar 18), .float 0x3f800000, .ref (ar 19), .ref (ar 20), .ref (ar 21), .int 0, .ref (ar 22), .ref (ar 23), .ref (ar 24)]))] t) (va_A [(h0, .inr (11, [.int 0, .ref (ar 0), .ref (ar 1), .ref (ar 2), .int 0, .int 0, .ref (ar 3), .ref (ar 4), .ref (ar 5), .ref (ar 6), .int 1, .int 0, .int 0, .ref (ar 7), .ref (ar 8), .int 0, .int 0, .ref (ar 9), .ref (ar 10), .ref (ar 11), .ref (ar 12), .ref (ar 13), .ref (ar 14), .ref (ar 15), .int 0, .int 0, .int 0, .int 0, .ref (ar 16), .ref (ar 17), .int 0, .int 0, .int 0, .int 0, .int (nI C), .int (nI Rr), .ref (ar 18), .float 0x3f800000, .ref (ar 19), .ref (ar 20), .ref (ar 21), .int 0, .ref (ar 22), .ref (ar 23), .ref (ar 24)]))] sz)) 0 0 (va_A [(h0, .inr (11, [.int 0, .ref (ar 0), .ref (ar 1), .ref (ar 2), .int 0, .int 0, .ref (ar 3), .ref (ar 4), .ref (ar 5), .ref (ar 6), .int 1, .int 0, .int 0, .ref (ar 7), .ref (ar 8), .int 0, .int 0, .ref (ar 9), .ref (ar 10), .ref (ar 11), .ref (ar 12), .ref (ar 13), .ref (ar 14), .ref (ar 15), .int 0, .int 0, .int 0, .int 0, .ref (ar 16), .ref (ar 17), .int 0, .int 0, .int 0, .int 0, .int (nI C), .int (nI Rr), .ref (ar 18), .float 0x3f800000, .ref (ar 19), .ref (ar 20), .ref (ar 21), .int 0, .ref (ar 22), .ref (ar 23), .ref (ar 24)]))] sz) := by
  refine j_met (y := ⟨"PageScribeModel", "kind", "(I)I"⟩) (b := prog_15_method_79_code) (n := 2) (ret := (some .int)) (av := [.ref h0, .int p0]) (Qc := fun A => va_Qi (fun (r : Int32) (u : Unit) => r = 0) (fun u t => Bw D T A [(h0, .inr (11, [.int 1, .ref (ar 0), .ref (ar 1), .ref (ar 2), .int 0, .int 0, .ref (ar 3), .ref (ar 4), .ref (ar 5), .ref (ar 6), .int 1, .int 0, .int 0, .ref (ar 7), .ref (ar 8), .int 0, .int 0, .ref (ar 9), .ref (ar 10), .ref (ar 11), .ref (ar 12), .ref (ar 13), .ref (ar 14), .ref (ar 15), .int 0, .int 0, .int 0, .int 0, .ref (ar 16), .ref (ar 17), .int 0, .int 0, .int 0, .int 0, .int (nI C), .int (nI Rr), .ref (ar 18), .float 0x3f800000, .ref (ar 19), .ref (ar 20), .ref (ar 21), .int 0, .ref (ar 22), .ref (ar 23), .ref (ar 24)]))] t) A) (by decide +kernel) (Nat.le_of_ble_eq_true rfl) (fun p e s m args below meth c A ls F hr hlocks hnm hK hP hD hS hA hN hE hl => ?_)
  obtain ⟨hx, hb, hml, hown, hts⟩ := id F
  have hin := hnm
  have hl : lv_has ls 2 [(0, .ref h0), (1, .int p0)] := hl
  refine lv_aload_n hx hb d_Mo_kind_0 rfl (lv_at hl 0 rfl) ?_
  refine lv_iload_n hx hb d_Mo_kind_1 rfl (lv_at hl 1 rfl) ?_
  refine lv_if_lt (tgt := 13) hx hb d_Mo_kind_2 (by decide) (fun c_2 => ?_) (fun c_2 => ?_)
  · refine lv_iconst (v := 1) hx hb d_Mo_kind_13 (by decide) ?_
    refine lv_goto (tgt := 18) hx hb d_Mo_kind_14 (by decide) ?_
    refine va_put (D := D) (ci := 11) (v := .int 1) (ty := .int) (C := "PageScribeModel") (T := F_Mo) (N := 45) hx hb hts i_Mo t_Mo t_Mo_ok n_Mo hown hK hP hD hS 0 rfl rfl 0 (by decide) (hts _ k_6_160) (fun _ h9 => h9) rfl (by decide +kernel) rfl rfl (Nat.le_of_ble_eq_true rfl) d_Mo_kind_18 (fun H locs hP hD hS => ?_)
    have hP : va_P D classes [(h0, .inr (11, [.int 1, .ref (ar 0), .ref (ar 1), .ref (ar 2), .int 0, .int 0, .ref (ar 3), .ref (ar 4), .ref (ar 5), .ref (ar 6), .int 1, .int 0, .int 0, .ref (ar 7), .ref (ar 8), .int 0, .int 0, .ref (ar 9), .ref (ar 10), .ref (ar 11), .ref (ar 12), .ref (ar 13), .ref (ar 14), .ref (ar 15), .int 0, .int 0, .int 0, .int 0, .ref (ar 16), .ref (ar 17), .int 0, .int 0, .int 0, .int 0, .int (nI C), .int (nI Rr), .ref (ar 18), .float 0x3f800000, .ref (ar 19), .ref (ar 20), .ref (ar 21), .int 0, .ref (ar 22), .ref (ar 23), .ref (ar 24)]))] H := hP
    have hD : va_D A [(h0, .inr (11, [.int 1, .ref (ar 0), .ref (ar 1), .ref (ar 2), .int 0, .int 0, .ref (ar 3), .ref (ar 4), .ref (ar 5), .ref (ar 6), .int 1, .int 0, .int 0, .ref (ar 7), .ref (ar 8), .int 0, .int 0, .ref (ar 9), .ref (ar 10), .ref (ar 11), .ref (ar 12), .ref (ar 13), .ref (ar 14), .ref (ar 15), .int 0, .int 0, .int 0, .int 0, .ref (ar 16), .ref (ar 17), .int 0, .int 0, .int 0, .int 0, .int (nI C), .int (nI Rr), .ref (ar 18), .float 0x3f800000, .ref (ar 19), .ref (ar 20), .ref (ar 21), .int 0, .ref (ar 22), .ref (ar 23), .ref (ar 24)]))] := hD
    refine lv_aload_n hx hb d_Mo_kind_21 rfl (lv_at hl 0 rfl) ?_
    refine va_get (D := D) (ci := 11) (v := .int 1) (C := "PageScribeModel") (T := F_Mo) (N := 45) hx hb hts i_Mo hown hK hP 0 rfl rfl 0 (by decide) (hts _ k_6_160) (fun _ h9 => h9) rfl d_Mo_kind_22 ?_
    refine lv_if_le (tgt := 32) hx hb d_Mo_kind_25 (by decide) (fun c9 => absurd c9 (by decide +kernel)) (fun _ => ?_)
    refine lv_iconst (v := 0) hx hb d_Mo_kind_28 (by decide) ?_
    refine lv_goto (tgt := 45) hx hb d_Mo_kind_29 (by decide) ?_
    have hP9 := hP.sub (ws' := [(h0, .inr (11, [.int 1, .ref (ar 0), .ref (ar 1), .ref (ar 2), .int 0, .int 0, .ref (ar 3), .ref (ar 4), .ref (ar 5), .ref (ar 6), .int 1, .int 0, .int 0, .ref (ar 7), .ref (ar 8), .int 0, .int 0, .ref (ar 9), .ref (ar 10), .ref (ar 11), .ref (ar 12), .ref (ar 13), .ref (ar 14), .ref (ar 15), .int 0, .int 0, .int 0, .int 0, .ref (ar 16), .ref (ar 17), .int 0, .int 0, .int 0, .int 0, .int (nI C), .int (nI Rr), .ref (ar 18), .float 0x3f800000, .ref (ar 19), .ref (ar 20), .ref (ar 21), .int 0, .ref (ar 22), .ref (ar 23), .ref (ar 24)]))]) [0] rfl
    have hD9 := hD.sub (ws' := [(h0, .inr (11, [.int 1, .ref (ar 0), .ref (ar 1), .ref (ar 2), .int 0, .int 0, .ref (ar 3), .ref (ar 4), .ref (ar 5), .ref (ar 6), .int 1, .int 0, .int 0, .ref (ar 7), .ref (ar 8), .int 0, .int 0, .ref (ar 9), .ref (ar 10), .ref (ar 11), .ref (ar 12), .ref (ar 13), .ref (ar 14), .ref (ar 15), .int 0, .int 0, .int 0, .int 0, .ref (ar 16), .ref (ar 17), .int 0, .int 0, .int 0, .int 0, .int (nI C), .int (nI Rr), .ref (ar 18), .float 0x3f800000, .ref (ar 19), .ref (ar 20), .ref (ar 21), .int 0, .ref (ar 22), .ref (ar 23), .ref (ar 24)]))]) [0] (by decide) rfl
    refine W.widen (k := 0) (n := 0) (Nat.le_of_ble_eq_true rfl) (Nat.le_of_ble_eq_true rfl) ?_
    exact j_iret F hr hlocks hK hS () rfl hP9 hD9 d_Mo_kind_45
  · refine lv_iload_n hx hb d_Mo_kind_5 rfl (lv_at hl 1 rfl) ?_
    refine lv_aload_n hx hb d_Mo_kind_6 rfl (lv_at hl 0 rfl) ?_
    refine va_get (D := D) (ci := 11) (v := .int 0) (C := "PageScribeModel") (T := F_Mo) (N := 45) hx hb hts i_Mo hown hK hP 0 rfl rfl 4 (by decide) (hts _ k_6_164) (fun _ h9 => h9) rfl d_Mo_kind_7 ?_
    refine lv_icmp_lt (tgt := 17) hx hb d_Mo_kind_10 (by decide) (fun c_10 => absurd c_10 (Int32.not_lt.mpr (Int32.not_lt.mp c_2))) (fun c_10 => ?_)
    refine lv_iconst (v := 1) hx hb d_Mo_kind_13 (by decide) ?_
    refine lv_goto (tgt := 18) hx hb d_Mo_kind_14 (by decide) ?_
    refine va_put (D := D) (ci := 11) (v := .int 1) (ty := .int) (C := "PageScribeModel") (T := F_Mo) (N := 45) hx hb hts i_Mo t_Mo t_Mo_ok n_Mo hown hK hP hD hS 0 rfl rfl 0 (by decide) (hts _ k_6_160) (fun _ h9 => h9) rfl (by decide +kernel) rfl rfl (Nat.le_of_ble_eq_true rfl) d_Mo_kind_18 (fun H locs hP hD hS => ?_)
    have hP : va_P D classes [(h0, .inr (11, [.int 1, .ref (ar 0), .ref (ar 1), .ref (ar 2), .int 0, .int 0, .ref (ar 3), .ref (ar 4), .ref (ar 5), .ref (ar 6), .int 1, .int 0, .int 0, .ref (ar 7), .ref (ar 8), .int 0, .int 0, .ref (ar 9), .ref (ar 10), .ref (ar 11), .ref (ar 12), .ref (ar 13), .ref (ar 14), .ref (ar 15), .int 0, .int 0, .int 0, .int 0, .ref (ar 16), .ref (ar 17), .int 0, .int 0, .int 0, .int 0, .int (nI C), .int (nI Rr), .ref (ar 18), .float 0x3f800000, .ref (ar 19), .ref (ar 20), .ref (ar 21), .int 0, .ref (ar 22), .ref (ar 23), .ref (ar 24)]))] H := hP
    have hD : va_D A [(h0, .inr (11, [.int 1, .ref (ar 0), .ref (ar 1), .ref (ar 2), .int 0, .int 0, .ref (ar 3), .ref (ar 4), .ref (ar 5), .ref (ar 6), .int 1, .int 0, .int 0, .ref (ar 7), .ref (ar 8), .int 0, .int 0, .ref (ar 9), .ref (ar 10), .ref (ar 11), .ref (ar 12), .ref (ar 13), .ref (ar 14), .ref (ar 15), .int 0, .int 0, .int 0, .int 0, .ref (ar 16), .ref (ar 17), .int 0, .int 0, .int 0, .int 0, .int (nI C), .int (nI Rr), .ref (ar 18), .float 0x3f800000, .ref (ar 19), .ref (ar 20), .ref (ar 21), .int 0, .ref (ar 22), .ref (ar 23), .ref (ar 24)]))] := hD
    refine lv_aload_n hx hb d_Mo_kind_21 rfl (lv_at hl 0 rfl) ?_
    refine va_get (D := D) (ci := 11) (v := .int 1) (C := "PageScribeModel") (T := F_Mo) (N := 45) hx hb hts i_Mo hown hK hP 0 rfl rfl 0 (by decide) (hts _ k_6_160) (fun _ h9 => h9) rfl d_Mo_kind_22 ?_
    refine lv_if_le (tgt := 32) hx hb d_Mo_kind_25 (by decide) (fun c9 => absurd c9 (by decide +kernel)) (fun _ => ?_)
    refine lv_iconst (v := 0) hx hb d_Mo_kind_28 (by decide) ?_
    refine lv_goto (tgt := 45) hx hb d_Mo_kind_29 (by decide) ?_
    have hP9 := hP.sub (ws' := [(h0, .inr (11, [.int 1, .ref (ar 0), .ref (ar 1), .ref (ar 2), .int 0, .int 0, .ref (ar 3), .ref (ar 4), .ref (ar 5), .ref (ar 6), .int 1, .int 0, .int 0, .ref (ar 7), .ref (ar 8), .int 0, .int 0, .ref (ar 9), .ref (ar 10), .ref (ar 11), .ref (ar 12), .ref (ar 13), .ref (ar 14), .ref (ar 15), .int 0, .int 0, .int 0, .int 0, .ref (ar 16), .ref (ar 17), .int 0, .int 0, .int 0, .int 0, .int (nI C), .int (nI Rr), .ref (ar 18), .float 0x3f800000, .ref (ar 19), .ref (ar 20), .ref (ar 21), .int 0, .ref (ar 22), .ref (ar 23), .ref (ar 24)]))]) [0] rfl
    have hD9 := hD.sub (ws' := [(h0, .inr (11, [.int 1, .ref (ar 0), .ref (ar 1), .ref (ar 2), .int 0, .int 0, .ref (ar 3), .ref (ar 4), .ref (ar 5), .ref (ar 6), .int 1, .int 0, .int 0, .ref (ar 7), .ref (ar 8), .int 0, .int 0, .ref (ar 9), .ref (ar 10), .ref (ar 11), .ref (ar 12), .ref (ar 13), .ref (ar 14), .ref (ar 15), .int 0, .int 0, .int 0, .int 0, .ref (ar 16), .ref (ar 17), .int 0, .int 0, .int 0, .int 0, .int (nI C), .int (nI Rr), .ref (ar 18), .float 0x3f800000, .ref (ar 19), .ref (ar 20), .ref (ar 21), .int 0, .ref (ar 22), .ref (ar 23), .ref (ar 24)]))]) [0] (by decide) rfl
    refine W.widen (k := 0) (n := 0) (Nat.le_of_ble_eq_true rfl) (Nat.le_of_ble_eq_true rfl) ?_
    exact j_iret F hr hlocks hK hS () rfl hP9 hD9 d_Mo_kind_45
theorem d_Mo_number_0 : decode prog_15_method_81_code 0 = .ok (.aload_n 0, 1) := by decide +kernel
theorem d_Mo_number_1 : decode prog_15_method_81_code 1 = .ok (.iload_n 1, 1) := by decide +kernel
theorem d_Mo_number_2 : decode prog_15_method_81_code 2 = .ok (.ifCond .lt 11, 3) := by decide +kernel
theorem d_Mo_number_13 : decode prog_15_method_81_code 13 = .ok (.iconst 1, 1) := by decide +kernel
theorem d_Mo_number_14 : decode prog_15_method_81_code 14 = .ok (.goto 25, 3) := by decide +kernel
theorem d_Mo_number_39 : decode prog_15_method_81_code 39 = .ok (.putfield 242, 3) := by decide +kernel
theorem d_Mo_number_42 : decode prog_15_method_81_code 42 = .ok (.aload_n 0, 1) := by decide +kernel
theorem d_Mo_number_43 : decode prog_15_method_81_code 43 = .ok (.getfield 242, 3) := by decide +kernel
theorem d_Mo_number_46 : decode prog_15_method_81_code 46 = .ok (.ifCond .le 5, 3) := by decide +kernel
theorem d_Mo_number_49 : decode prog_15_method_81_code 49 = .ok (.iconst 0, 1) := by decide +kernel
theorem d_Mo_number_50 : decode prog_15_method_81_code 50 = .ok (.ireturn, 1) := by decide +kernel
theorem d_Mo_number_5 : decode prog_15_method_81_code 5 = .ok (.iload_n 1, 1) := by decide +kernel
theorem d_Mo_number_6 : decode prog_15_method_81_code 6 = .ok (.aload_n 0, 1) := by decide +kernel
theorem d_Mo_number_7 : decode prog_15_method_81_code 7 = .ok (.getfield 247, 3) := by decide +kernel
theorem d_Mo_number_10 : decode prog_15_method_81_code 10 = .ok (.if_icmp .lt 7, 3) := by decide +kernel
set_option maxHeartbeats 4000000 in
set_option maxRecDepth 100000 in
theorem c_Mo_number (l : Launch) (D : va_G) (T : Nat → ClassId) (h0 : Nat) (ar : (Nat → Nat)) (C : Nat) (Rr : Nat) (p0 : Int32) (sz : Nat) : Met l ⟨"PageScribeModel", "number", "(I)I"⟩ (wy ⟨"PageScribeModel", "number", "(I)I"⟩ prog_15_method_81_code 3 (some .int)) ({ frames := 0, cells := 0, slots := 0, locals := 0 }) (va_Pc [.ref h0, .int p0] (Pw D T [(h0, .inr (11, [.int 0, .ref (ar 0), .ref (ar 1), .ref (ar 2), .int 0, .int 0, .ref (ar 3), .ref (ar 4), .ref (ar 5), .ref (ar 6), .int 1, .int 0, .int 0, .ref (ar 7), .ref (ar 8), .int 0, .int 0, .ref (ar 9), .ref (ar 10), .ref (ar 11), .ref (ar 12), .ref (ar 13), .ref (ar 14), .ref (ar 15), .int 0, .int 0, .int 0, .int 0, .ref (ar 16), .ref (ar 17), .int 0, .int 0, .int 0, .int 0, .int (nI C), .int (nI Rr), .ref (ar 18), .float 0x3f800000, .ref (ar 19), .ref (ar 20), .ref (ar 21), .int 0, .ref (ar 22), .ref (ar 23), .ref (ar 24)]))] sz E0)) (va_Qi (fun (r : Int32) (u : Unit) => r = 0) (fun u t => Bw D T (va_A [(h0, .inr (11, [.int 0, .ref (ar 0), .ref (ar 1), .ref (ar 2), .int 0, .int 0, .ref (ar 3), .ref (ar 4), .ref (ar 5), .ref (ar 6), .int 1, .int 0, .int 0, .ref (ar 7), .ref (ar 8), .int 0, .int 0, .ref (ar 9), .ref (ar 10), .ref (ar 11), .ref (ar 12), .ref (ar 13), .ref (ar 14), .ref (ar 15), .int 0, .int 0, .int 0, .int 0, .ref (ar 16), .ref (ar 17), .int 0, .int 0, .int 0, .int 0, .int (nI C), .int (nI Rr), .ref (ar 18), .float 0x3f800000, .ref (ar 19), .ref (ar 20), .ref (ar 21), .int 0, .ref (ar 22), .ref (ar 23), .ref (ar 24)]))] sz) [(h0, .inr (11, [.int 1, .ref (ar 0), .ref (ar 1), .ref (ar 2), .int 0, .int 0, .ref (ar 3), .ref (ar 4), .ref (ar 5), .ref (ar 6), .int 1, .int 0, .int 0, .ref (ar 7), .ref (ar 8), .int 0, .int 0, .ref (ar 9), .ref (ar 10), .ref (ar 11), .ref (ar 12), .ref (ar 13), .ref (ar 14), .ref (ar 15), .int 0, .int 0, .int 0, .int 0, .ref (ar 16), .ref (ar 17), .int 0, .int 0, .int 0, .int 0, .int (nI C), .int (nI Rr), .ref (ar 18), .float 0x3f800000, .ref (ar 19), .ref (ar 20), .ref (ar 21), .int 0, .ref (ar 22), .ref (ar 23), .ref (ar 24)]))] t) (va_A [(h0, .inr (11, [.int 0, .ref (ar 0), .ref (ar 1), .ref (ar 2), .int 0, .int 0, .ref (ar 3), .ref (ar 4), .ref (ar 5), .ref (ar 6), .int 1, .int 0, .int 0, .ref (ar 7), .ref (ar 8), .int 0, .int 0, .ref (ar 9), .ref (ar 10), .ref (ar 11), .ref (ar 12), .ref (ar 13), .ref (ar 14), .ref (ar 15), .int 0, .int 0, .int 0, .int 0, .ref (ar 16), .ref (ar 17), .int 0, .int 0, .int 0, .int 0, .int (nI C), .int (nI Rr), .ref (ar 18), .float 0x3f800000, .ref (ar 19), .ref (ar 20), .ref (ar 21), .int 0, .ref (ar 22), .ref (ar 23), .ref (ar 24)]))] sz)) 0 0 (va_A [(h0, .inr (11, [.int 0, .ref (ar 0), .ref (ar 1), .ref (ar 2), .int 0, .int 0, .ref (ar 3), .ref (ar 4), .ref (ar 5), .ref (ar 6), .int 1, .int 0, .int 0, .ref (ar 7), .ref (ar 8), .int 0, .int 0, .ref (ar 9), .ref (ar 10), .ref (ar 11), .ref (ar 12), .ref (ar 13), .ref (ar 14), .ref (ar 15), .int 0, .int 0, .int 0, .int 0, .ref (ar 16), .ref (ar 17), .int 0, .int 0, .int 0, .int 0, .int (nI C), .int (nI Rr), .ref (ar 18), .float 0x3f800000, .ref (ar 19), .ref (ar 20), .ref (ar 21), .int 0, .ref (ar 22), .ref (ar 23), .ref (ar 24)]))] sz) := by
  refine j_met (y := ⟨"PageScribeModel", "number", "(I)I"⟩) (b := prog_15_method_81_code) (n := 3) (ret := (some .int)) (av := [.ref h0, .int p0]) (Qc := fun A => va_Qi (fun (r : Int32) (u : Unit) => r = 0) (fun u t => Bw D T A [(h0, .inr (11, [.int 1, .ref (ar 0), .ref (ar 1), .ref (ar 2), .int 0, .int 0, .ref (ar 3), .ref (ar 4), .ref (ar 5), .ref (ar 6), .int 1, .int 0, .int 0, .ref (ar 7), .ref (ar 8), .int 0, .int 0, .ref (ar 9), .ref (ar 10), .ref (ar 11), .ref (ar 12), .ref (ar 13), .ref (ar 14), .ref (ar 15), .int 0, .int 0, .int 0, .int 0, .ref (ar 16), .ref (ar 17), .int 0, .int 0, .int 0, .int 0, .int (nI C), .int (nI Rr), .ref (ar 18), .float 0x3f800000, .ref (ar 19), .ref (ar 20), .ref (ar 21), .int 0, .ref (ar 22), .ref (ar 23), .ref (ar 24)]))] t) A) (by decide +kernel) (Nat.le_of_ble_eq_true rfl) (fun p e s m args below meth c A ls F hr hlocks hnm hK hP hD hS hA hN hE hl => ?_)
  obtain ⟨hx, hb, hml, hown, hts⟩ := id F
  have hin := hnm
  have hl : lv_has ls 3 [(0, .ref h0), (1, .int p0)] := hl
  refine lv_aload_n hx hb d_Mo_number_0 rfl (lv_at hl 0 rfl) ?_
  refine lv_iload_n hx hb d_Mo_number_1 rfl (lv_at hl 1 rfl) ?_
  refine lv_if_lt (tgt := 13) hx hb d_Mo_number_2 (by decide) (fun c_2 => ?_) (fun c_2 => ?_)
  · refine lv_iconst (v := 1) hx hb d_Mo_number_13 (by decide) ?_
    refine lv_goto (tgt := 39) hx hb d_Mo_number_14 (by decide) ?_
    refine va_put (D := D) (ci := 11) (v := .int 1) (ty := .int) (C := "PageScribeModel") (T := F_Mo) (N := 45) hx hb hts i_Mo t_Mo t_Mo_ok n_Mo hown hK hP hD hS 0 rfl rfl 0 (by decide) (hts _ k_6_160) (fun _ h9 => h9) rfl (by decide +kernel) rfl rfl (Nat.le_of_ble_eq_true rfl) d_Mo_number_39 (fun H locs hP hD hS => ?_)
    have hP : va_P D classes [(h0, .inr (11, [.int 1, .ref (ar 0), .ref (ar 1), .ref (ar 2), .int 0, .int 0, .ref (ar 3), .ref (ar 4), .ref (ar 5), .ref (ar 6), .int 1, .int 0, .int 0, .ref (ar 7), .ref (ar 8), .int 0, .int 0, .ref (ar 9), .ref (ar 10), .ref (ar 11), .ref (ar 12), .ref (ar 13), .ref (ar 14), .ref (ar 15), .int 0, .int 0, .int 0, .int 0, .ref (ar 16), .ref (ar 17), .int 0, .int 0, .int 0, .int 0, .int (nI C), .int (nI Rr), .ref (ar 18), .float 0x3f800000, .ref (ar 19), .ref (ar 20), .ref (ar 21), .int 0, .ref (ar 22), .ref (ar 23), .ref (ar 24)]))] H := hP
    have hD : va_D A [(h0, .inr (11, [.int 1, .ref (ar 0), .ref (ar 1), .ref (ar 2), .int 0, .int 0, .ref (ar 3), .ref (ar 4), .ref (ar 5), .ref (ar 6), .int 1, .int 0, .int 0, .ref (ar 7), .ref (ar 8), .int 0, .int 0, .ref (ar 9), .ref (ar 10), .ref (ar 11), .ref (ar 12), .ref (ar 13), .ref (ar 14), .ref (ar 15), .int 0, .int 0, .int 0, .int 0, .ref (ar 16), .ref (ar 17), .int 0, .int 0, .int 0, .int 0, .int (nI C), .int (nI Rr), .ref (ar 18), .float 0x3f800000, .ref (ar 19), .ref (ar 20), .ref (ar 21), .int 0, .ref (ar 22), .ref (ar 23), .ref (ar 24)]))] := hD
    refine lv_aload_n hx hb d_Mo_number_42 rfl (lv_at hl 0 rfl) ?_
    refine va_get (D := D) (ci := 11) (v := .int 1) (C := "PageScribeModel") (T := F_Mo) (N := 45) hx hb hts i_Mo hown hK hP 0 rfl rfl 0 (by decide) (hts _ k_6_160) (fun _ h9 => h9) rfl d_Mo_number_43 ?_
    refine lv_if_le (tgt := 51) hx hb d_Mo_number_46 (by decide) (fun c9 => absurd c9 (by decide +kernel)) (fun _ => ?_)
    refine lv_iconst (v := 0) hx hb d_Mo_number_49 (by decide) ?_
    have hP9 := hP.sub (ws' := [(h0, .inr (11, [.int 1, .ref (ar 0), .ref (ar 1), .ref (ar 2), .int 0, .int 0, .ref (ar 3), .ref (ar 4), .ref (ar 5), .ref (ar 6), .int 1, .int 0, .int 0, .ref (ar 7), .ref (ar 8), .int 0, .int 0, .ref (ar 9), .ref (ar 10), .ref (ar 11), .ref (ar 12), .ref (ar 13), .ref (ar 14), .ref (ar 15), .int 0, .int 0, .int 0, .int 0, .ref (ar 16), .ref (ar 17), .int 0, .int 0, .int 0, .int 0, .int (nI C), .int (nI Rr), .ref (ar 18), .float 0x3f800000, .ref (ar 19), .ref (ar 20), .ref (ar 21), .int 0, .ref (ar 22), .ref (ar 23), .ref (ar 24)]))]) [0] rfl
    have hD9 := hD.sub (ws' := [(h0, .inr (11, [.int 1, .ref (ar 0), .ref (ar 1), .ref (ar 2), .int 0, .int 0, .ref (ar 3), .ref (ar 4), .ref (ar 5), .ref (ar 6), .int 1, .int 0, .int 0, .ref (ar 7), .ref (ar 8), .int 0, .int 0, .ref (ar 9), .ref (ar 10), .ref (ar 11), .ref (ar 12), .ref (ar 13), .ref (ar 14), .ref (ar 15), .int 0, .int 0, .int 0, .int 0, .ref (ar 16), .ref (ar 17), .int 0, .int 0, .int 0, .int 0, .int (nI C), .int (nI Rr), .ref (ar 18), .float 0x3f800000, .ref (ar 19), .ref (ar 20), .ref (ar 21), .int 0, .ref (ar 22), .ref (ar 23), .ref (ar 24)]))]) [0] (by decide) rfl
    refine W.widen (k := 0) (n := 0) (Nat.le_of_ble_eq_true rfl) (Nat.le_of_ble_eq_true rfl) ?_
    exact j_iret F hr hlocks hK hS () rfl hP9 hD9 d_Mo_number_50
  · refine lv_iload_n hx hb d_Mo_number_5 rfl (lv_at hl 1 rfl) ?_
    refine lv_aload_n hx hb d_Mo_number_6 rfl (lv_at hl 0 rfl) ?_
    refine va_get (D := D) (ci := 11) (v := .int 0) (C := "PageScribeModel") (T := F_Mo) (N := 45) hx hb hts i_Mo hown hK hP 0 rfl rfl 4 (by decide) (hts _ k_6_164) (fun _ h9 => h9) rfl d_Mo_number_7 ?_
    refine lv_icmp_lt (tgt := 17) hx hb d_Mo_number_10 (by decide) (fun c_10 => absurd c_10 (Int32.not_lt.mpr (Int32.not_lt.mp c_2))) (fun c_10 => ?_)
    refine lv_iconst (v := 1) hx hb d_Mo_number_13 (by decide) ?_
    refine lv_goto (tgt := 39) hx hb d_Mo_number_14 (by decide) ?_
    refine va_put (D := D) (ci := 11) (v := .int 1) (ty := .int) (C := "PageScribeModel") (T := F_Mo) (N := 45) hx hb hts i_Mo t_Mo t_Mo_ok n_Mo hown hK hP hD hS 0 rfl rfl 0 (by decide) (hts _ k_6_160) (fun _ h9 => h9) rfl (by decide +kernel) rfl rfl (Nat.le_of_ble_eq_true rfl) d_Mo_number_39 (fun H locs hP hD hS => ?_)
    have hP : va_P D classes [(h0, .inr (11, [.int 1, .ref (ar 0), .ref (ar 1), .ref (ar 2), .int 0, .int 0, .ref (ar 3), .ref (ar 4), .ref (ar 5), .ref (ar 6), .int 1, .int 0, .int 0, .ref (ar 7), .ref (ar 8), .int 0, .int 0, .ref (ar 9), .ref (ar 10), .ref (ar 11), .ref (ar 12), .ref (ar 13), .ref (ar 14), .ref (ar 15), .int 0, .int 0, .int 0, .int 0, .ref (ar 16), .ref (ar 17), .int 0, .int 0, .int 0, .int 0, .int (nI C), .int (nI Rr), .ref (ar 18), .float 0x3f800000, .ref (ar 19), .ref (ar 20), .ref (ar 21), .int 0, .ref (ar 22), .ref (ar 23), .ref (ar 24)]))] H := hP
    have hD : va_D A [(h0, .inr (11, [.int 1, .ref (ar 0), .ref (ar 1), .ref (ar 2), .int 0, .int 0, .ref (ar 3), .ref (ar 4), .ref (ar 5), .ref (ar 6), .int 1, .int 0, .int 0, .ref (ar 7), .ref (ar 8), .int 0, .int 0, .ref (ar 9), .ref (ar 10), .ref (ar 11), .ref (ar 12), .ref (ar 13), .ref (ar 14), .ref (ar 15), .int 0, .int 0, .int 0, .int 0, .ref (ar 16), .ref (ar 17), .int 0, .int 0, .int 0, .int 0, .int (nI C), .int (nI Rr), .ref (ar 18), .float 0x3f800000, .ref (ar 19), .ref (ar 20), .ref (ar 21), .int 0, .ref (ar 22), .ref (ar 23), .ref (ar 24)]))] := hD
    refine lv_aload_n hx hb d_Mo_number_42 rfl (lv_at hl 0 rfl) ?_
    refine va_get (D := D) (ci := 11) (v := .int 1) (C := "PageScribeModel") (T := F_Mo) (N := 45) hx hb hts i_Mo hown hK hP 0 rfl rfl 0 (by decide) (hts _ k_6_160) (fun _ h9 => h9) rfl d_Mo_number_43 ?_
    refine lv_if_le (tgt := 51) hx hb d_Mo_number_46 (by decide) (fun c9 => absurd c9 (by decide +kernel)) (fun _ => ?_)
    refine lv_iconst (v := 0) hx hb d_Mo_number_49 (by decide) ?_
    have hP9 := hP.sub (ws' := [(h0, .inr (11, [.int 1, .ref (ar 0), .ref (ar 1), .ref (ar 2), .int 0, .int 0, .ref (ar 3), .ref (ar 4), .ref (ar 5), .ref (ar 6), .int 1, .int 0, .int 0, .ref (ar 7), .ref (ar 8), .int 0, .int 0, .ref (ar 9), .ref (ar 10), .ref (ar 11), .ref (ar 12), .ref (ar 13), .ref (ar 14), .ref (ar 15), .int 0, .int 0, .int 0, .int 0, .ref (ar 16), .ref (ar 17), .int 0, .int 0, .int 0, .int 0, .int (nI C), .int (nI Rr), .ref (ar 18), .float 0x3f800000, .ref (ar 19), .ref (ar 20), .ref (ar 21), .int 0, .ref (ar 22), .ref (ar 23), .ref (ar 24)]))]) [0] rfl
    have hD9 := hD.sub (ws' := [(h0, .inr (11, [.int 1, .ref (ar 0), .ref (ar 1), .ref (ar 2), .int 0, .int 0, .ref (ar 3), .ref (ar 4), .ref (ar 5), .ref (ar 6), .int 1, .int 0, .int 0, .ref (ar 7), .ref (ar 8), .int 0, .int 0, .ref (ar 9), .ref (ar 10), .ref (ar 11), .ref (ar 12), .ref (ar 13), .ref (ar 14), .ref (ar 15), .int 0, .int 0, .int 0, .int 0, .ref (ar 16), .ref (ar 17), .int 0, .int 0, .int 0, .int 0, .int (nI C), .int (nI Rr), .ref (ar 18), .float 0x3f800000, .ref (ar 19), .ref (ar 20), .ref (ar 21), .int 0, .ref (ar 22), .ref (ar 23), .ref (ar 24)]))]) [0] (by decide) rfl
    refine W.widen (k := 0) (n := 0) (Nat.le_of_ble_eq_true rfl) (Nat.le_of_ble_eq_true rfl) ?_
    exact j_iret F hr hlocks hK hS () rfl hP9 hD9 d_Mo_number_50
theorem d_Mo_real_0 : decode prog_15_method_82_code 0 = .ok (.aload_n 0, 1) := by decide +kernel
theorem d_Mo_real_1 : decode prog_15_method_82_code 1 = .ok (.iload_n 1, 1) := by decide +kernel
theorem d_Mo_real_2 : decode prog_15_method_82_code 2 = .ok (.ifCond .lt 11, 3) := by decide +kernel
theorem d_Mo_real_13 : decode prog_15_method_82_code 13 = .ok (.iconst 1, 1) := by decide +kernel
theorem d_Mo_real_14 : decode prog_15_method_82_code 14 = .ok (.goto 23, 3) := by decide +kernel
theorem d_Mo_real_37 : decode prog_15_method_82_code 37 = .ok (.putfield 242, 3) := by decide +kernel
theorem d_Mo_real_40 : decode prog_15_method_82_code 40 = .ok (.aload_n 0, 1) := by decide +kernel
theorem d_Mo_real_41 : decode prog_15_method_82_code 41 = .ok (.getfield 242, 3) := by decide +kernel
theorem d_Mo_real_44 : decode prog_15_method_82_code 44 = .ok (.ifCond .le 7, 3) := by decide +kernel
theorem d_Mo_real_47 : decode prog_15_method_82_code 47 = .ok (.dconst 0, 1) := by decide +kernel
theorem d_Mo_real_48 : decode prog_15_method_82_code 48 = .ok (.goto 15, 3) := by decide +kernel
theorem d_Mo_real_63 : decode prog_15_method_82_code 63 = .ok (.dreturn, 1) := by decide +kernel
theorem d_Mo_real_5 : decode prog_15_method_82_code 5 = .ok (.iload_n 1, 1) := by decide +kernel
theorem d_Mo_real_6 : decode prog_15_method_82_code 6 = .ok (.aload_n 0, 1) := by decide +kernel
theorem d_Mo_real_7 : decode prog_15_method_82_code 7 = .ok (.getfield 247, 3) := by decide +kernel
theorem d_Mo_real_10 : decode prog_15_method_82_code 10 = .ok (.if_icmp .lt 7, 3) := by decide +kernel
set_option maxHeartbeats 4000000 in
set_option maxRecDepth 100000 in
theorem c_Mo_real (l : Launch) (D : va_G) (T : Nat → ClassId) (h0 : Nat) (ar : (Nat → Nat)) (C : Nat) (Rr : Nat) (p0 : Int32) (sz : Nat) : Met l ⟨"PageScribeModel", "real", "(I)D"⟩ (wy ⟨"PageScribeModel", "real", "(I)D"⟩ prog_15_method_82_code 2 (some .double)) ({ frames := 0, cells := 0, slots := 0, locals := 0 }) (va_Pc [.ref h0, .int p0] (Pw D T [(h0, .inr (11, [.int 0, .ref (ar 0), .ref (ar 1), .ref (ar 2), .int 0, .int 0, .ref (ar 3), .ref (ar 4), .ref (ar 5), .ref (ar 6), .int 1, .int 0, .int 0, .ref (ar 7), .ref (ar 8), .int 0, .int 0, .ref (ar 9), .ref (ar 10), .ref (ar 11), .ref (ar 12), .ref (ar 13), .ref (ar 14), .ref (ar 15), .int 0, .int 0, .int 0, .int 0, .ref (ar 16), .ref (ar 17), .int 0, .int 0, .int 0, .int 0, .int (nI C), .int (nI Rr), .ref (ar 18), .float 0x3f800000, .ref (ar 19), .ref (ar 20), .ref (ar 21), .int 0, .ref (ar 22), .ref (ar 23), .ref (ar 24)]))] sz E0)) (va_Qd (fun (r : UInt64) (u : Unit) => True) (fun u t => Bw D T (va_A [(h0, .inr (11, [.int 0, .ref (ar 0), .ref (ar 1), .ref (ar 2), .int 0, .int 0, .ref (ar 3), .ref (ar 4), .ref (ar 5), .ref (ar 6), .int 1, .int 0, .int 0, .ref (ar 7), .ref (ar 8), .int 0, .int 0, .ref (ar 9), .ref (ar 10), .ref (ar 11), .ref (ar 12), .ref (ar 13), .ref (ar 14), .ref (ar 15), .int 0, .int 0, .int 0, .int 0, .ref (ar 16), .ref (ar 17), .int 0, .int 0, .int 0, .int 0, .int (nI C), .int (nI Rr), .ref (ar 18), .float 0x3f800000, .ref (ar 19), .ref (ar 20), .ref (ar 21), .int 0, .ref (ar 22), .ref (ar 23), .ref (ar 24)]))] sz) [(h0, .inr (11, [.int 1, .ref (ar 0), .ref (ar 1), .ref (ar 2), .int 0, .int 0, .ref (ar 3), .ref (ar 4), .ref (ar 5), .ref (ar 6), .int 1, .int 0, .int 0, .ref (ar 7), .ref (ar 8), .int 0, .int 0, .ref (ar 9), .ref (ar 10), .ref (ar 11), .ref (ar 12), .ref (ar 13), .ref (ar 14), .ref (ar 15), .int 0, .int 0, .int 0, .int 0, .ref (ar 16), .ref (ar 17), .int 0, .int 0, .int 0, .int 0, .int (nI C), .int (nI Rr), .ref (ar 18), .float 0x3f800000, .ref (ar 19), .ref (ar 20), .ref (ar 21), .int 0, .ref (ar 22), .ref (ar 23), .ref (ar 24)]))] t) (va_A [(h0, .inr (11, [.int 0, .ref (ar 0), .ref (ar 1), .ref (ar 2), .int 0, .int 0, .ref (ar 3), .ref (ar 4), .ref (ar 5), .ref (ar 6), .int 1, .int 0, .int 0, .ref (ar 7), .ref (ar 8), .int 0, .int 0, .ref (ar 9), .ref (ar 10), .ref (ar 11), .ref (ar 12), .ref (ar 13), .ref (ar 14), .ref (ar 15), .int 0, .int 0, .int 0, .int 0, .ref (ar 16), .ref (ar 17), .int 0, .int 0, .int 0, .int 0, .int (nI C), .int (nI Rr), .ref (ar 18), .float 0x3f800000, .ref (ar 19), .ref (ar 20), .ref (ar 21), .int 0, .ref (ar 22), .ref (ar 23), .ref (ar 24)]))] sz)) 0 0 (va_A [(h0, .inr (11, [.int 0, .ref (ar 0), .ref (ar 1), .ref (ar 2), .int 0, .int 0, .ref (ar 3), .ref (ar 4), .ref (ar 5), .ref (ar 6), .int 1, .int 0, .int 0, .ref (ar 7), .ref (ar 8), .int 0, .int 0, .ref (ar 9), .ref (ar 10), .ref (ar 11), .ref (ar 12), .ref (ar 13), .ref (ar 14), .ref (ar 15), .int 0, .int 0, .int 0, .int 0, .ref (ar 16), .ref (ar 17), .int 0, .int 0, .int 0, .int 0, .int (nI C), .int (nI Rr), .ref (ar 18), .float 0x3f800000, .ref (ar 19), .ref (ar 20), .ref (ar 21), .int 0, .ref (ar 22), .ref (ar 23), .ref (ar 24)]))] sz) := by
  refine j_met (y := ⟨"PageScribeModel", "real", "(I)D"⟩) (b := prog_15_method_82_code) (n := 2) (ret := (some .double)) (av := [.ref h0, .int p0]) (Qc := fun A => va_Qd (fun (r : UInt64) (u : Unit) => True) (fun u t => Bw D T A [(h0, .inr (11, [.int 1, .ref (ar 0), .ref (ar 1), .ref (ar 2), .int 0, .int 0, .ref (ar 3), .ref (ar 4), .ref (ar 5), .ref (ar 6), .int 1, .int 0, .int 0, .ref (ar 7), .ref (ar 8), .int 0, .int 0, .ref (ar 9), .ref (ar 10), .ref (ar 11), .ref (ar 12), .ref (ar 13), .ref (ar 14), .ref (ar 15), .int 0, .int 0, .int 0, .int 0, .ref (ar 16), .ref (ar 17), .int 0, .int 0, .int 0, .int 0, .int (nI C), .int (nI Rr), .ref (ar 18), .float 0x3f800000, .ref (ar 19), .ref (ar 20), .ref (ar 21), .int 0, .ref (ar 22), .ref (ar 23), .ref (ar 24)]))] t) A) (by decide +kernel) (Nat.le_of_ble_eq_true rfl) (fun p e s m args below meth c A ls F hr hlocks hnm hK hP hD hS hA hN hE hl => ?_)
  obtain ⟨hx, hb, hml, hown, hts⟩ := id F
  have hin := hnm
  have hl : lv_has ls 2 [(0, .ref h0), (1, .int p0)] := hl
  refine lv_aload_n hx hb d_Mo_real_0 rfl (lv_at hl 0 rfl) ?_
  refine lv_iload_n hx hb d_Mo_real_1 rfl (lv_at hl 1 rfl) ?_
  refine lv_if_lt (tgt := 13) hx hb d_Mo_real_2 (by decide) (fun c_2 => ?_) (fun c_2 => ?_)
  · refine lv_iconst (v := 1) hx hb d_Mo_real_13 (by decide) ?_
    refine lv_goto (tgt := 37) hx hb d_Mo_real_14 (by decide) ?_
    refine va_put (D := D) (ci := 11) (v := .int 1) (ty := .int) (C := "PageScribeModel") (T := F_Mo) (N := 45) hx hb hts i_Mo t_Mo t_Mo_ok n_Mo hown hK hP hD hS 0 rfl rfl 0 (by decide) (hts _ k_6_160) (fun _ h9 => h9) rfl (by decide +kernel) rfl rfl (Nat.le_of_ble_eq_true rfl) d_Mo_real_37 (fun H locs hP hD hS => ?_)
    have hP : va_P D classes [(h0, .inr (11, [.int 1, .ref (ar 0), .ref (ar 1), .ref (ar 2), .int 0, .int 0, .ref (ar 3), .ref (ar 4), .ref (ar 5), .ref (ar 6), .int 1, .int 0, .int 0, .ref (ar 7), .ref (ar 8), .int 0, .int 0, .ref (ar 9), .ref (ar 10), .ref (ar 11), .ref (ar 12), .ref (ar 13), .ref (ar 14), .ref (ar 15), .int 0, .int 0, .int 0, .int 0, .ref (ar 16), .ref (ar 17), .int 0, .int 0, .int 0, .int 0, .int (nI C), .int (nI Rr), .ref (ar 18), .float 0x3f800000, .ref (ar 19), .ref (ar 20), .ref (ar 21), .int 0, .ref (ar 22), .ref (ar 23), .ref (ar 24)]))] H := hP
    have hD : va_D A [(h0, .inr (11, [.int 1, .ref (ar 0), .ref (ar 1), .ref (ar 2), .int 0, .int 0, .ref (ar 3), .ref (ar 4), .ref (ar 5), .ref (ar 6), .int 1, .int 0, .int 0, .ref (ar 7), .ref (ar 8), .int 0, .int 0, .ref (ar 9), .ref (ar 10), .ref (ar 11), .ref (ar 12), .ref (ar 13), .ref (ar 14), .ref (ar 15), .int 0, .int 0, .int 0, .int 0, .ref (ar 16), .ref (ar 17), .int 0, .int 0, .int 0, .int 0, .int (nI C), .int (nI Rr), .ref (ar 18), .float 0x3f800000, .ref (ar 19), .ref (ar 20), .ref (ar 21), .int 0, .ref (ar 22), .ref (ar 23), .ref (ar 24)]))] := hD
    refine lv_aload_n hx hb d_Mo_real_40 rfl (lv_at hl 0 rfl) ?_
    refine va_get (D := D) (ci := 11) (v := .int 1) (C := "PageScribeModel") (T := F_Mo) (N := 45) hx hb hts i_Mo hown hK hP 0 rfl rfl 0 (by decide) (hts _ k_6_160) (fun _ h9 => h9) rfl d_Mo_real_41 ?_
    refine lv_if_le (tgt := 51) hx hb d_Mo_real_44 (by decide) (fun c9 => absurd c9 (by decide +kernel)) (fun _ => ?_)
    refine lv_dconst0 hx hb d_Mo_real_47 ?_
    refine lv_goto (tgt := 63) hx hb d_Mo_real_48 (by decide) ?_
    have hP9 := hP.sub (ws' := [(h0, .inr (11, [.int 1, .ref (ar 0), .ref (ar 1), .ref (ar 2), .int 0, .int 0, .ref (ar 3), .ref (ar 4), .ref (ar 5), .ref (ar 6), .int 1, .int 0, .int 0, .ref (ar 7), .ref (ar 8), .int 0, .int 0, .ref (ar 9), .ref (ar 10), .ref (ar 11), .ref (ar 12), .ref (ar 13), .ref (ar 14), .ref (ar 15), .int 0, .int 0, .int 0, .int 0, .ref (ar 16), .ref (ar 17), .int 0, .int 0, .int 0, .int 0, .int (nI C), .int (nI Rr), .ref (ar 18), .float 0x3f800000, .ref (ar 19), .ref (ar 20), .ref (ar 21), .int 0, .ref (ar 22), .ref (ar 23), .ref (ar 24)]))]) [0] rfl
    have hD9 := hD.sub (ws' := [(h0, .inr (11, [.int 1, .ref (ar 0), .ref (ar 1), .ref (ar 2), .int 0, .int 0, .ref (ar 3), .ref (ar 4), .ref (ar 5), .ref (ar 6), .int 1, .int 0, .int 0, .ref (ar 7), .ref (ar 8), .int 0, .int 0, .ref (ar 9), .ref (ar 10), .ref (ar 11), .ref (ar 12), .ref (ar 13), .ref (ar 14), .ref (ar 15), .int 0, .int 0, .int 0, .int 0, .ref (ar 16), .ref (ar 17), .int 0, .int 0, .int 0, .int 0, .int (nI C), .int (nI Rr), .ref (ar 18), .float 0x3f800000, .ref (ar 19), .ref (ar 20), .ref (ar 21), .int 0, .ref (ar 22), .ref (ar 23), .ref (ar 24)]))]) [0] (by decide) rfl
    refine W.widen (k := 0) (n := 0) (Nat.le_of_ble_eq_true rfl) (Nat.le_of_ble_eq_true rfl) ?_
    exact j_dret F hr hlocks hK hS () trivial hP9 hD9 d_Mo_real_63
  · refine lv_iload_n hx hb d_Mo_real_5 rfl (lv_at hl 1 rfl) ?_
    refine lv_aload_n hx hb d_Mo_real_6 rfl (lv_at hl 0 rfl) ?_
    refine va_get (D := D) (ci := 11) (v := .int 0) (C := "PageScribeModel") (T := F_Mo) (N := 45) hx hb hts i_Mo hown hK hP 0 rfl rfl 4 (by decide) (hts _ k_6_164) (fun _ h9 => h9) rfl d_Mo_real_7 ?_
    refine lv_icmp_lt (tgt := 17) hx hb d_Mo_real_10 (by decide) (fun c_10 => absurd c_10 (Int32.not_lt.mpr (Int32.not_lt.mp c_2))) (fun c_10 => ?_)
    refine lv_iconst (v := 1) hx hb d_Mo_real_13 (by decide) ?_
    refine lv_goto (tgt := 37) hx hb d_Mo_real_14 (by decide) ?_
    refine va_put (D := D) (ci := 11) (v := .int 1) (ty := .int) (C := "PageScribeModel") (T := F_Mo) (N := 45) hx hb hts i_Mo t_Mo t_Mo_ok n_Mo hown hK hP hD hS 0 rfl rfl 0 (by decide) (hts _ k_6_160) (fun _ h9 => h9) rfl (by decide +kernel) rfl rfl (Nat.le_of_ble_eq_true rfl) d_Mo_real_37 (fun H locs hP hD hS => ?_)
    have hP : va_P D classes [(h0, .inr (11, [.int 1, .ref (ar 0), .ref (ar 1), .ref (ar 2), .int 0, .int 0, .ref (ar 3), .ref (ar 4), .ref (ar 5), .ref (ar 6), .int 1, .int 0, .int 0, .ref (ar 7), .ref (ar 8), .int 0, .int 0, .ref (ar 9), .ref (ar 10), .ref (ar 11), .ref (ar 12), .ref (ar 13), .ref (ar 14), .ref (ar 15), .int 0, .int 0, .int 0, .int 0, .ref (ar 16), .ref (ar 17), .int 0, .int 0, .int 0, .int 0, .int (nI C), .int (nI Rr), .ref (ar 18), .float 0x3f800000, .ref (ar 19), .ref (ar 20), .ref (ar 21), .int 0, .ref (ar 22), .ref (ar 23), .ref (ar 24)]))] H := hP
    have hD : va_D A [(h0, .inr (11, [.int 1, .ref (ar 0), .ref (ar 1), .ref (ar 2), .int 0, .int 0, .ref (ar 3), .ref (ar 4), .ref (ar 5), .ref (ar 6), .int 1, .int 0, .int 0, .ref (ar 7), .ref (ar 8), .int 0, .int 0, .ref (ar 9), .ref (ar 10), .ref (ar 11), .ref (ar 12), .ref (ar 13), .ref (ar 14), .ref (ar 15), .int 0, .int 0, .int 0, .int 0, .ref (ar 16), .ref (ar 17), .int 0, .int 0, .int 0, .int 0, .int (nI C), .int (nI Rr), .ref (ar 18), .float 0x3f800000, .ref (ar 19), .ref (ar 20), .ref (ar 21), .int 0, .ref (ar 22), .ref (ar 23), .ref (ar 24)]))] := hD
    refine lv_aload_n hx hb d_Mo_real_40 rfl (lv_at hl 0 rfl) ?_
    refine va_get (D := D) (ci := 11) (v := .int 1) (C := "PageScribeModel") (T := F_Mo) (N := 45) hx hb hts i_Mo hown hK hP 0 rfl rfl 0 (by decide) (hts _ k_6_160) (fun _ h9 => h9) rfl d_Mo_real_41 ?_
    refine lv_if_le (tgt := 51) hx hb d_Mo_real_44 (by decide) (fun c9 => absurd c9 (by decide +kernel)) (fun _ => ?_)
    refine lv_dconst0 hx hb d_Mo_real_47 ?_
    refine lv_goto (tgt := 63) hx hb d_Mo_real_48 (by decide) ?_
    have hP9 := hP.sub (ws' := [(h0, .inr (11, [.int 1, .ref (ar 0), .ref (ar 1), .ref (ar 2), .int 0, .int 0, .ref (ar 3), .ref (ar 4), .ref (ar 5), .ref (ar 6), .int 1, .int 0, .int 0, .ref (ar 7), .ref (ar 8), .int 0, .int 0, .ref (ar 9), .ref (ar 10), .ref (ar 11), .ref (ar 12), .ref (ar 13), .ref (ar 14), .ref (ar 15), .int 0, .int 0, .int 0, .int 0, .ref (ar 16), .ref (ar 17), .int 0, .int 0, .int 0, .int 0, .int (nI C), .int (nI Rr), .ref (ar 18), .float 0x3f800000, .ref (ar 19), .ref (ar 20), .ref (ar 21), .int 0, .ref (ar 22), .ref (ar 23), .ref (ar 24)]))]) [0] rfl
    have hD9 := hD.sub (ws' := [(h0, .inr (11, [.int 1, .ref (ar 0), .ref (ar 1), .ref (ar 2), .int 0, .int 0, .ref (ar 3), .ref (ar 4), .ref (ar 5), .ref (ar 6), .int 1, .int 0, .int 0, .ref (ar 7), .ref (ar 8), .int 0, .int 0, .ref (ar 9), .ref (ar 10), .ref (ar 11), .ref (ar 12), .ref (ar 13), .ref (ar 14), .ref (ar 15), .int 0, .int 0, .int 0, .int 0, .ref (ar 16), .ref (ar 17), .int 0, .int 0, .int 0, .int 0, .int (nI C), .int (nI Rr), .ref (ar 18), .float 0x3f800000, .ref (ar 19), .ref (ar 20), .ref (ar 21), .int 0, .ref (ar 22), .ref (ar 23), .ref (ar 24)]))]) [0] (by decide) rfl
    refine W.widen (k := 0) (n := 0) (Nat.le_of_ble_eq_true rfl) (Nat.le_of_ble_eq_true rfl) ?_
    exact j_dret F hr hlocks hK hS () trivial hP9 hD9 d_Mo_real_63
theorem d_Mo_letter_0 : decode prog_15_method_83_code 0 = .ok (.aload_n 0, 1) := by decide +kernel
theorem d_Mo_letter_1 : decode prog_15_method_83_code 1 = .ok (.iconst 0, 1) := by decide +kernel
theorem d_Mo_letter_2 : decode prog_15_method_83_code 2 = .ok (.putfield 242, 3) := by decide +kernel
theorem d_Mo_letter_5 : decode prog_15_method_83_code 5 = .ok (.iload_n 1, 1) := by decide +kernel
theorem d_Mo_letter_6 : decode prog_15_method_83_code 6 = .ok (.ifCond .lt 31, 3) := by decide +kernel
theorem d_Mo_letter_37 : decode prog_15_method_83_code 37 = .ok (.iconst (-1), 1) := by decide +kernel
theorem d_Mo_letter_38 : decode prog_15_method_83_code 38 = .ok (.ireturn, 1) := by decide +kernel
theorem d_Mo_letter_9 : decode prog_15_method_83_code 9 = .ok (.iload_n 1, 1) := by decide +kernel
theorem d_Mo_letter_10 : decode prog_15_method_83_code 10 = .ok (.aload_n 0, 1) := by decide +kernel
theorem d_Mo_letter_11 : decode prog_15_method_83_code 11 = .ok (.getfield 247, 3) := by decide +kernel
theorem d_Mo_letter_14 : decode prog_15_method_83_code 14 = .ok (.if_icmp .ge 23, 3) := by decide +kernel
set_option maxHeartbeats 4000000 in
set_option maxRecDepth 100000 in
theorem c_Mo_letter (l : Launch) (D : va_G) (T : Nat → ClassId) (h0 : Nat) (ar : (Nat → Nat)) (C : Nat) (Rr : Nat) (p0 : Int32) (p1 : Int32) (sz : Nat) : Met l ⟨"PageScribeModel", "letter", "(II)I"⟩ (wy ⟨"PageScribeModel", "letter", "(II)I"⟩ prog_15_method_83_code 6 (some .int)) ({ frames := 0, cells := 0, slots := 0, locals := 0 }) (va_Pc [.ref h0, .int p0, .int p1] (Pw D T [(h0, .inr (11, [.int 0, .ref (ar 0), .ref (ar 1), .ref (ar 2), .int 0, .int 0, .ref (ar 3), .ref (ar 4), .ref (ar 5), .ref (ar 6), .int 1, .int 0, .int 0, .ref (ar 7), .ref (ar 8), .int 0, .int 0, .ref (ar 9), .ref (ar 10), .ref (ar 11), .ref (ar 12), .ref (ar 13), .ref (ar 14), .ref (ar 15), .int 0, .int 0, .int 0, .int 0, .ref (ar 16), .ref (ar 17), .int 0, .int 0, .int 0, .int 0, .int (nI C), .int (nI Rr), .ref (ar 18), .float 0x3f800000, .ref (ar 19), .ref (ar 20), .ref (ar 21), .int 0, .ref (ar 22), .ref (ar 23), .ref (ar 24)]))] sz E0)) (va_Qi (fun (r : Int32) (u : Unit) => r = -1) (fun u t => Bw D T (va_A [(h0, .inr (11, [.int 0, .ref (ar 0), .ref (ar 1), .ref (ar 2), .int 0, .int 0, .ref (ar 3), .ref (ar 4), .ref (ar 5), .ref (ar 6), .int 1, .int 0, .int 0, .ref (ar 7), .ref (ar 8), .int 0, .int 0, .ref (ar 9), .ref (ar 10), .ref (ar 11), .ref (ar 12), .ref (ar 13), .ref (ar 14), .ref (ar 15), .int 0, .int 0, .int 0, .int 0, .ref (ar 16), .ref (ar 17), .int 0, .int 0, .int 0, .int 0, .int (nI C), .int (nI Rr), .ref (ar 18), .float 0x3f800000, .ref (ar 19), .ref (ar 20), .ref (ar 21), .int 0, .ref (ar 22), .ref (ar 23), .ref (ar 24)]))] sz) [(h0, .inr (11, [.int 0, .ref (ar 0), .ref (ar 1), .ref (ar 2), .int 0, .int 0, .ref (ar 3), .ref (ar 4), .ref (ar 5), .ref (ar 6), .int 1, .int 0, .int 0, .ref (ar 7), .ref (ar 8), .int 0, .int 0, .ref (ar 9), .ref (ar 10), .ref (ar 11), .ref (ar 12), .ref (ar 13), .ref (ar 14), .ref (ar 15), .int 0, .int 0, .int 0, .int 0, .ref (ar 16), .ref (ar 17), .int 0, .int 0, .int 0, .int 0, .int (nI C), .int (nI Rr), .ref (ar 18), .float 0x3f800000, .ref (ar 19), .ref (ar 20), .ref (ar 21), .int 0, .ref (ar 22), .ref (ar 23), .ref (ar 24)]))] t) (va_A [(h0, .inr (11, [.int 0, .ref (ar 0), .ref (ar 1), .ref (ar 2), .int 0, .int 0, .ref (ar 3), .ref (ar 4), .ref (ar 5), .ref (ar 6), .int 1, .int 0, .int 0, .ref (ar 7), .ref (ar 8), .int 0, .int 0, .ref (ar 9), .ref (ar 10), .ref (ar 11), .ref (ar 12), .ref (ar 13), .ref (ar 14), .ref (ar 15), .int 0, .int 0, .int 0, .int 0, .ref (ar 16), .ref (ar 17), .int 0, .int 0, .int 0, .int 0, .int (nI C), .int (nI Rr), .ref (ar 18), .float 0x3f800000, .ref (ar 19), .ref (ar 20), .ref (ar 21), .int 0, .ref (ar 22), .ref (ar 23), .ref (ar 24)]))] sz)) 0 0 (va_A [(h0, .inr (11, [.int 0, .ref (ar 0), .ref (ar 1), .ref (ar 2), .int 0, .int 0, .ref (ar 3), .ref (ar 4), .ref (ar 5), .ref (ar 6), .int 1, .int 0, .int 0, .ref (ar 7), .ref (ar 8), .int 0, .int 0, .ref (ar 9), .ref (ar 10), .ref (ar 11), .ref (ar 12), .ref (ar 13), .ref (ar 14), .ref (ar 15), .int 0, .int 0, .int 0, .int 0, .ref (ar 16), .ref (ar 17), .int 0, .int 0, .int 0, .int 0, .int (nI C), .int (nI Rr), .ref (ar 18), .float 0x3f800000, .ref (ar 19), .ref (ar 20), .ref (ar 21), .int 0, .ref (ar 22), .ref (ar 23), .ref (ar 24)]))] sz) := by
  refine j_met (y := ⟨"PageScribeModel", "letter", "(II)I"⟩) (b := prog_15_method_83_code) (n := 6) (ret := (some .int)) (av := [.ref h0, .int p0, .int p1]) (Qc := fun A => va_Qi (fun (r : Int32) (u : Unit) => r = -1) (fun u t => Bw D T A [(h0, .inr (11, [.int 0, .ref (ar 0), .ref (ar 1), .ref (ar 2), .int 0, .int 0, .ref (ar 3), .ref (ar 4), .ref (ar 5), .ref (ar 6), .int 1, .int 0, .int 0, .ref (ar 7), .ref (ar 8), .int 0, .int 0, .ref (ar 9), .ref (ar 10), .ref (ar 11), .ref (ar 12), .ref (ar 13), .ref (ar 14), .ref (ar 15), .int 0, .int 0, .int 0, .int 0, .ref (ar 16), .ref (ar 17), .int 0, .int 0, .int 0, .int 0, .int (nI C), .int (nI Rr), .ref (ar 18), .float 0x3f800000, .ref (ar 19), .ref (ar 20), .ref (ar 21), .int 0, .ref (ar 22), .ref (ar 23), .ref (ar 24)]))] t) A) (by decide +kernel) (Nat.le_of_ble_eq_true rfl) (fun p e s m args below meth c A ls F hr hlocks hnm hK hP hD hS hA hN hE hl => ?_)
  obtain ⟨hx, hb, hml, hown, hts⟩ := id F
  have hin := hnm
  have hl : lv_has ls 6 [(0, .ref h0), (1, .int p0), (2, .int p1)] := hl
  refine lv_aload_n hx hb d_Mo_letter_0 rfl (lv_at hl 0 rfl) ?_
  refine lv_iconst (v := 0) hx hb d_Mo_letter_1 (by decide) ?_
  refine va_put (D := D) (ci := 11) (v := .int 0) (ty := .int) (C := "PageScribeModel") (T := F_Mo) (N := 45) hx hb hts i_Mo t_Mo t_Mo_ok n_Mo hown hK hP hD hS 0 rfl rfl 0 (by decide) (hts _ k_6_160) (fun _ h9 => h9) rfl (by decide +kernel) rfl rfl (Nat.le_of_ble_eq_true rfl) d_Mo_letter_2 (fun H locs hP hD hS => ?_)
  have hP : va_P D classes [(h0, .inr (11, [.int 0, .ref (ar 0), .ref (ar 1), .ref (ar 2), .int 0, .int 0, .ref (ar 3), .ref (ar 4), .ref (ar 5), .ref (ar 6), .int 1, .int 0, .int 0, .ref (ar 7), .ref (ar 8), .int 0, .int 0, .ref (ar 9), .ref (ar 10), .ref (ar 11), .ref (ar 12), .ref (ar 13), .ref (ar 14), .ref (ar 15), .int 0, .int 0, .int 0, .int 0, .ref (ar 16), .ref (ar 17), .int 0, .int 0, .int 0, .int 0, .int (nI C), .int (nI Rr), .ref (ar 18), .float 0x3f800000, .ref (ar 19), .ref (ar 20), .ref (ar 21), .int 0, .ref (ar 22), .ref (ar 23), .ref (ar 24)]))] H := hP
  have hD : va_D A [(h0, .inr (11, [.int 0, .ref (ar 0), .ref (ar 1), .ref (ar 2), .int 0, .int 0, .ref (ar 3), .ref (ar 4), .ref (ar 5), .ref (ar 6), .int 1, .int 0, .int 0, .ref (ar 7), .ref (ar 8), .int 0, .int 0, .ref (ar 9), .ref (ar 10), .ref (ar 11), .ref (ar 12), .ref (ar 13), .ref (ar 14), .ref (ar 15), .int 0, .int 0, .int 0, .int 0, .ref (ar 16), .ref (ar 17), .int 0, .int 0, .int 0, .int 0, .int (nI C), .int (nI Rr), .ref (ar 18), .float 0x3f800000, .ref (ar 19), .ref (ar 20), .ref (ar 21), .int 0, .ref (ar 22), .ref (ar 23), .ref (ar 24)]))] := hD
  refine lv_iload_n hx hb d_Mo_letter_5 rfl (lv_at hl 1 rfl) ?_
  refine lv_if_lt (tgt := 37) hx hb d_Mo_letter_6 (by decide) (fun c_6 => ?_) (fun c_6 => ?_)
  · refine lv_iconst (v := (-1)) hx hb d_Mo_letter_37 (by decide) ?_
    have hP9 := hP.sub (ws' := [(h0, .inr (11, [.int 0, .ref (ar 0), .ref (ar 1), .ref (ar 2), .int 0, .int 0, .ref (ar 3), .ref (ar 4), .ref (ar 5), .ref (ar 6), .int 1, .int 0, .int 0, .ref (ar 7), .ref (ar 8), .int 0, .int 0, .ref (ar 9), .ref (ar 10), .ref (ar 11), .ref (ar 12), .ref (ar 13), .ref (ar 14), .ref (ar 15), .int 0, .int 0, .int 0, .int 0, .ref (ar 16), .ref (ar 17), .int 0, .int 0, .int 0, .int 0, .int (nI C), .int (nI Rr), .ref (ar 18), .float 0x3f800000, .ref (ar 19), .ref (ar 20), .ref (ar 21), .int 0, .ref (ar 22), .ref (ar 23), .ref (ar 24)]))]) [0] rfl
    have hD9 := hD.sub (ws' := [(h0, .inr (11, [.int 0, .ref (ar 0), .ref (ar 1), .ref (ar 2), .int 0, .int 0, .ref (ar 3), .ref (ar 4), .ref (ar 5), .ref (ar 6), .int 1, .int 0, .int 0, .ref (ar 7), .ref (ar 8), .int 0, .int 0, .ref (ar 9), .ref (ar 10), .ref (ar 11), .ref (ar 12), .ref (ar 13), .ref (ar 14), .ref (ar 15), .int 0, .int 0, .int 0, .int 0, .ref (ar 16), .ref (ar 17), .int 0, .int 0, .int 0, .int 0, .int (nI C), .int (nI Rr), .ref (ar 18), .float 0x3f800000, .ref (ar 19), .ref (ar 20), .ref (ar 21), .int 0, .ref (ar 22), .ref (ar 23), .ref (ar 24)]))]) [0] (by decide) rfl
    refine W.widen (k := 0) (n := 0) (Nat.le_of_ble_eq_true rfl) (Nat.le_of_ble_eq_true rfl) ?_
    exact j_iret F hr hlocks hK hS () rfl hP9 hD9 d_Mo_letter_38
  · refine lv_iload_n hx hb d_Mo_letter_9 rfl (lv_at hl 1 rfl) ?_
    refine lv_aload_n hx hb d_Mo_letter_10 rfl (lv_at hl 0 rfl) ?_
    refine va_get (D := D) (ci := 11) (v := .int 0) (C := "PageScribeModel") (T := F_Mo) (N := 45) hx hb hts i_Mo hown hK hP 0 rfl rfl 4 (by decide) (hts _ k_6_164) (fun _ h9 => h9) rfl d_Mo_letter_11 ?_
    refine lv_icmp_ge (tgt := 37) hx hb d_Mo_letter_14 (by decide) (fun c_14 => ?_) (fun c_14 => absurd c_14 (fun q => q (Int32.not_lt.mp c_6)))
    refine lv_iconst (v := (-1)) hx hb d_Mo_letter_37 (by decide) ?_
    have hP9 := hP.sub (ws' := [(h0, .inr (11, [.int 0, .ref (ar 0), .ref (ar 1), .ref (ar 2), .int 0, .int 0, .ref (ar 3), .ref (ar 4), .ref (ar 5), .ref (ar 6), .int 1, .int 0, .int 0, .ref (ar 7), .ref (ar 8), .int 0, .int 0, .ref (ar 9), .ref (ar 10), .ref (ar 11), .ref (ar 12), .ref (ar 13), .ref (ar 14), .ref (ar 15), .int 0, .int 0, .int 0, .int 0, .ref (ar 16), .ref (ar 17), .int 0, .int 0, .int 0, .int 0, .int (nI C), .int (nI Rr), .ref (ar 18), .float 0x3f800000, .ref (ar 19), .ref (ar 20), .ref (ar 21), .int 0, .ref (ar 22), .ref (ar 23), .ref (ar 24)]))]) [0] rfl
    have hD9 := hD.sub (ws' := [(h0, .inr (11, [.int 0, .ref (ar 0), .ref (ar 1), .ref (ar 2), .int 0, .int 0, .ref (ar 3), .ref (ar 4), .ref (ar 5), .ref (ar 6), .int 1, .int 0, .int 0, .ref (ar 7), .ref (ar 8), .int 0, .int 0, .ref (ar 9), .ref (ar 10), .ref (ar 11), .ref (ar 12), .ref (ar 13), .ref (ar 14), .ref (ar 15), .int 0, .int 0, .int 0, .int 0, .ref (ar 16), .ref (ar 17), .int 0, .int 0, .int 0, .int 0, .int (nI C), .int (nI Rr), .ref (ar 18), .float 0x3f800000, .ref (ar 19), .ref (ar 20), .ref (ar 21), .int 0, .ref (ar 22), .ref (ar 23), .ref (ar 24)]))]) [0] (by decide) rfl
    refine W.widen (k := 0) (n := 0) (Nat.le_of_ble_eq_true rfl) (Nat.le_of_ble_eq_true rfl) ?_
    exact j_iret F hr hlocks hK hS () rfl hP9 hD9 d_Mo_letter_38
theorem usedOf_0 {w : Int32} (h : w = 0 ∨ w = 1 ∨ w = 3 ∨ w = 4 ∨ w = 5 ∨ w = 6) : usedOf w = 0 := by
  rcases h with rfl | rfl | rfl | rfl | rfl | rfl <;> decide +kernel
theorem usedOf_m {w : Int32} (h0 : ¬ w = 0) (h1 : ¬ w = 1) (h2 : ¬ w = 2) (h3 : ¬ w = 3) (h4 : ¬ w = 4) (h5 : ¬ w = 5) (h6 : ¬ w = 6) : usedOf w = -1 := by
  refine usedOf_out ?_
  by_cases a : w < 0
  · exact Or.inl a
  · by_cases b : (6 : Int32) < w
    · exact Or.inr b
    · obtain ⟨j, hj, rfl⟩ := nI_of2 (M := 6) (n := 6) (by decide +kernel) a (Int32.not_lt.mp b)
      exfalso
      rcases (show j = 0 ∨ j = 1 ∨ j = 2 ∨ j = 3 ∨ j = 4 ∨ j = 5 ∨ j = 6 by omega) with rfl | rfl | rfl | rfl | rfl | rfl | rfl
      · exact h0 rfl
      · exact h1 rfl
      · exact h2 rfl
      · exact h3 rfl
      · exact h4 rfl
      · exact h5 rfl
      · exact h6 rfl
theorem d_Mo_used_0 : decode prog_15_method_84_code 0 = .ok (.aload_n 0, 1) := by decide +kernel
theorem d_Mo_used_1 : decode prog_15_method_84_code 1 = .ok (.iconst 0, 1) := by decide +kernel
theorem d_Mo_used_2 : decode prog_15_method_84_code 2 = .ok (.putfield 242, 3) := by decide +kernel
theorem d_Mo_used_5 : decode prog_15_method_84_code 5 = .ok (.iconst 0, 1) := by decide +kernel
theorem d_Mo_used_6 : decode prog_15_method_84_code 6 = .ok (.istore_n 2, 1) := by decide +kernel
theorem d_Mo_used_7 : decode prog_15_method_84_code 7 = .ok (.iconst 1, 1) := by decide +kernel
theorem d_Mo_used_8 : decode prog_15_method_84_code 8 = .ok (.istore_n 3, 1) := by decide +kernel
theorem d_Mo_used_9 : decode prog_15_method_84_code 9 = .ok (.iload_n 3, 1) := by decide +kernel
theorem d_Mo_used_10 : decode prog_15_method_84_code 10 = .ok (.bipush 7, 2) := by decide +kernel
theorem d_Mo_used_12 : decode prog_15_method_84_code 12 = .ok (.if_icmp .ge 26, 3) := by decide +kernel
theorem d_Mo_used_15 : decode prog_15_method_84_code 15 = .ok (.iload_n 2, 1) := by decide +kernel
theorem d_Mo_used_16 : decode prog_15_method_84_code 16 = .ok (.aload_n 0, 1) := by decide +kernel
theorem d_Mo_used_17 : decode prog_15_method_84_code 17 = .ok (.getfield 27, 3) := by decide +kernel
theorem d_Mo_used_20 : decode prog_15_method_84_code 20 = .ok (.iload_n 3, 1) := by decide +kernel
theorem d_Mo_used_21 : decode prog_15_method_84_code 21 = .ok (.iaload, 1) := by decide +kernel
theorem d_Mo_used_22 : decode prog_15_method_84_code 22 = .ok (.ifCond .le 7, 3) := by decide +kernel
theorem d_Mo_used_29 : decode prog_15_method_84_code 29 = .ok (.iconst 0, 1) := by decide +kernel
theorem d_Mo_used_30 : decode prog_15_method_84_code 30 = .ok (.iadd, 1) := by decide +kernel
theorem d_Mo_used_31 : decode prog_15_method_84_code 31 = .ok (.istore_n 2, 1) := by decide +kernel
theorem d_Mo_used_32 : decode prog_15_method_84_code 32 = .ok (.iinc 3 1, 3) := by decide +kernel
theorem d_Mo_used_35 : decode prog_15_method_84_code 35 = .ok (.goto (-26), 3) := by decide +kernel
theorem d_Mo_used_38 : decode prog_15_method_84_code 38 = .ok (.iload_n 1, 1) := by decide +kernel
theorem d_Mo_used_39 : decode prog_15_method_84_code 39 = .ok (.ifCond .ne 10, 3) := by decide +kernel
theorem d_Mo_used_49 : decode prog_15_method_84_code 49 = .ok (.iload_n 1, 1) := by decide +kernel
theorem d_Mo_used_50 : decode prog_15_method_84_code 50 = .ok (.iconst 1, 1) := by decide +kernel
theorem d_Mo_used_51 : decode prog_15_method_84_code 51 = .ok (.if_icmp .ne 7, 3) := by decide +kernel
theorem d_Mo_used_58 : decode prog_15_method_84_code 58 = .ok (.iload_n 1, 1) := by decide +kernel
theorem d_Mo_used_59 : decode prog_15_method_84_code 59 = .ok (.iconst 2, 1) := by decide +kernel
theorem d_Mo_used_60 : decode prog_15_method_84_code 60 = .ok (.if_icmp .ne 10, 3) := by decide +kernel
theorem d_Mo_used_70 : decode prog_15_method_84_code 70 = .ok (.iload_n 1, 1) := by decide +kernel
theorem d_Mo_used_71 : decode prog_15_method_84_code 71 = .ok (.iconst 3, 1) := by decide +kernel
theorem d_Mo_used_72 : decode prog_15_method_84_code 72 = .ok (.if_icmp .ne 10, 3) := by decide +kernel
theorem d_Mo_used_82 : decode prog_15_method_84_code 82 = .ok (.iload_n 1, 1) := by decide +kernel
theorem d_Mo_used_83 : decode prog_15_method_84_code 83 = .ok (.iconst 4, 1) := by decide +kernel
theorem d_Mo_used_84 : decode prog_15_method_84_code 84 = .ok (.if_icmp .ne 10, 3) := by decide +kernel
theorem d_Mo_used_94 : decode prog_15_method_84_code 94 = .ok (.iload_n 1, 1) := by decide +kernel
theorem d_Mo_used_95 : decode prog_15_method_84_code 95 = .ok (.iconst 5, 1) := by decide +kernel
theorem d_Mo_used_96 : decode prog_15_method_84_code 96 = .ok (.if_icmp .ne 10, 3) := by decide +kernel
theorem d_Mo_used_106 : decode prog_15_method_84_code 106 = .ok (.iload_n 1, 1) := by decide +kernel
theorem d_Mo_used_107 : decode prog_15_method_84_code 107 = .ok (.bipush 6, 2) := by decide +kernel
theorem d_Mo_used_109 : decode prog_15_method_84_code 109 = .ok (.if_icmp .ne 10, 3) := by decide +kernel
theorem d_Mo_used_119 : decode prog_15_method_84_code 119 = .ok (.iconst (-1), 1) := by decide +kernel
theorem d_Mo_used_120 : decode prog_15_method_84_code 120 = .ok (.ireturn, 1) := by decide +kernel
theorem d_Mo_used_112 : decode prog_15_method_84_code 112 = .ok (.aload_n 0, 1) := by decide +kernel
theorem d_Mo_used_113 : decode prog_15_method_84_code 113 = .ok (.getfield 270, 3) := by decide +kernel
theorem k_6_184 : Cond.fieldLink "PageScribeModel" 270 "PageScribeModel" "length" "I" ∈ gw := gw_of (tb_6 (List.mem_of_getElem? (i := 184) (by decide +kernel))) (by decide +kernel)
theorem d_Mo_used_116 : decode prog_15_method_84_code 116 = .ok (.goto 4, 3) := by decide +kernel
theorem d_Mo_used_99 : decode prog_15_method_84_code 99 = .ok (.aload_n 0, 1) := by decide +kernel
theorem d_Mo_used_100 : decode prog_15_method_84_code 100 = .ok (.getfield 311, 3) := by decide +kernel
theorem k_6_190 : Cond.fieldLink "PageScribeModel" 311 "PageScribeModel" "knows" "I" ∈ gw := gw_of (tb_6 (List.mem_of_getElem? (i := 190) (by decide +kernel))) (by decide +kernel)
theorem d_Mo_used_103 : decode prog_15_method_84_code 103 = .ok (.goto 17, 3) := by decide +kernel
theorem d_Mo_used_87 : decode prog_15_method_84_code 87 = .ok (.aload_n 0, 1) := by decide +kernel
theorem d_Mo_used_88 : decode prog_15_method_84_code 88 = .ok (.getfield 547, 3) := by decide +kernel
theorem k_6_201 : Cond.fieldLink "PageScribeModel" 547 "PageScribeModel" "points" "I" ∈ gw := gw_of (tb_6 (List.mem_of_getElem? (i := 201) (by decide +kernel))) (by decide +kernel)
theorem d_Mo_used_91 : decode prog_15_method_84_code 91 = .ok (.goto 29, 3) := by decide +kernel
theorem d_Mo_used_75 : decode prog_15_method_84_code 75 = .ok (.aload_n 0, 1) := by decide +kernel
theorem d_Mo_used_76 : decode prog_15_method_84_code 76 = .ok (.getfield 534, 3) := by decide +kernel
theorem k_6_172 : Cond.fieldLink "PageScribeModel" 534 "PageScribeModel" "open" "I" ∈ gw := gw_of (tb_6 (List.mem_of_getElem? (i := 172) (by decide +kernel))) (by decide +kernel)
theorem d_Mo_used_79 : decode prog_15_method_84_code 79 = .ok (.goto 41, 3) := by decide +kernel
theorem d_Mo_used_63 : decode prog_15_method_84_code 63 = .ok (.aload_n 0, 1) := by decide +kernel
theorem d_Mo_used_64 : decode prog_15_method_84_code 64 = .ok (.getfield 33, 3) := by decide +kernel
theorem d_Mo_used_67 : decode prog_15_method_84_code 67 = .ok (.goto 53, 3) := by decide +kernel
theorem d_Mo_used_54 : decode prog_15_method_84_code 54 = .ok (.iload_n 2, 1) := by decide +kernel
theorem d_Mo_used_55 : decode prog_15_method_84_code 55 = .ok (.goto 65, 3) := by decide +kernel
theorem d_Mo_used_42 : decode prog_15_method_84_code 42 = .ok (.aload_n 0, 1) := by decide +kernel
theorem d_Mo_used_43 : decode prog_15_method_84_code 43 = .ok (.getfield 325, 3) := by decide +kernel
theorem k_6_165 : Cond.fieldLink "PageScribeModel" 325 "PageScribeModel" "taken" "I" ∈ gw := gw_of (tb_6 (List.mem_of_getElem? (i := 165) (by decide +kernel))) (by decide +kernel)
theorem d_Mo_used_46 : decode prog_15_method_84_code 46 = .ok (.goto 74, 3) := by decide +kernel
set_option maxHeartbeats 4000000 in
set_option maxRecDepth 100000 in
theorem c_Mo_used (l : Launch) (D : va_G) (T : Nat → ClassId) (h0 : Nat) (ar : (Nat → Nat)) (C : Nat) (Rr : Nat) (p0 : Int32) (sz : Nat) : Met l ⟨"PageScribeModel", "used", "(I)I"⟩ (wy ⟨"PageScribeModel", "used", "(I)I"⟩ prog_15_method_84_code 4 (some .int)) ({ frames := 0, cells := 0, slots := 0, locals := 0 }) (va_Pc [.ref h0, .int p0] (Pw D T [(h0, .inr (11, [.int 0, .ref (ar 0), .ref (ar 1), .ref (ar 2), .int 0, .int 0, .ref (ar 3), .ref (ar 4), .ref (ar 5), .ref (ar 6), .int 1, .int 0, .int 0, .ref (ar 7), .ref (ar 8), .int 0, .int 0, .ref (ar 9), .ref (ar 10), .ref (ar 11), .ref (ar 12), .ref (ar 13), .ref (ar 14), .ref (ar 15), .int 0, .int 0, .int 0, .int 0, .ref (ar 16), .ref (ar 17), .int 0, .int 0, .int 0, .int 0, .int (nI C), .int (nI Rr), .ref (ar 18), .float 0x3f800000, .ref (ar 19), .ref (ar 20), .ref (ar 21), .int 0, .ref (ar 22), .ref (ar 23), .ref (ar 24)])), ((ar 5), .inl (T 0, 28, .inl roomF))] sz E0)) (va_Qi (fun (r : Int32) (u : Unit) => r = usedOf p0) (fun u t => Bw D T (va_A [(h0, .inr (11, [.int 0, .ref (ar 0), .ref (ar 1), .ref (ar 2), .int 0, .int 0, .ref (ar 3), .ref (ar 4), .ref (ar 5), .ref (ar 6), .int 1, .int 0, .int 0, .ref (ar 7), .ref (ar 8), .int 0, .int 0, .ref (ar 9), .ref (ar 10), .ref (ar 11), .ref (ar 12), .ref (ar 13), .ref (ar 14), .ref (ar 15), .int 0, .int 0, .int 0, .int 0, .ref (ar 16), .ref (ar 17), .int 0, .int 0, .int 0, .int 0, .int (nI C), .int (nI Rr), .ref (ar 18), .float 0x3f800000, .ref (ar 19), .ref (ar 20), .ref (ar 21), .int 0, .ref (ar 22), .ref (ar 23), .ref (ar 24)])), ((ar 5), .inl (T 0, 28, .inl roomF))] sz) [(h0, .inr (11, [.int 0, .ref (ar 0), .ref (ar 1), .ref (ar 2), .int 0, .int 0, .ref (ar 3), .ref (ar 4), .ref (ar 5), .ref (ar 6), .int 1, .int 0, .int 0, .ref (ar 7), .ref (ar 8), .int 0, .int 0, .ref (ar 9), .ref (ar 10), .ref (ar 11), .ref (ar 12), .ref (ar 13), .ref (ar 14), .ref (ar 15), .int 0, .int 0, .int 0, .int 0, .ref (ar 16), .ref (ar 17), .int 0, .int 0, .int 0, .int 0, .int (nI C), .int (nI Rr), .ref (ar 18), .float 0x3f800000, .ref (ar 19), .ref (ar 20), .ref (ar 21), .int 0, .ref (ar 22), .ref (ar 23), .ref (ar 24)]))] t) (va_A [(h0, .inr (11, [.int 0, .ref (ar 0), .ref (ar 1), .ref (ar 2), .int 0, .int 0, .ref (ar 3), .ref (ar 4), .ref (ar 5), .ref (ar 6), .int 1, .int 0, .int 0, .ref (ar 7), .ref (ar 8), .int 0, .int 0, .ref (ar 9), .ref (ar 10), .ref (ar 11), .ref (ar 12), .ref (ar 13), .ref (ar 14), .ref (ar 15), .int 0, .int 0, .int 0, .int 0, .ref (ar 16), .ref (ar 17), .int 0, .int 0, .int 0, .int 0, .int (nI C), .int (nI Rr), .ref (ar 18), .float 0x3f800000, .ref (ar 19), .ref (ar 20), .ref (ar 21), .int 0, .ref (ar 22), .ref (ar 23), .ref (ar 24)])), ((ar 5), .inl (T 0, 28, .inl roomF))] sz)) 0 0 (va_A [(h0, .inr (11, [.int 0, .ref (ar 0), .ref (ar 1), .ref (ar 2), .int 0, .int 0, .ref (ar 3), .ref (ar 4), .ref (ar 5), .ref (ar 6), .int 1, .int 0, .int 0, .ref (ar 7), .ref (ar 8), .int 0, .int 0, .ref (ar 9), .ref (ar 10), .ref (ar 11), .ref (ar 12), .ref (ar 13), .ref (ar 14), .ref (ar 15), .int 0, .int 0, .int 0, .int 0, .ref (ar 16), .ref (ar 17), .int 0, .int 0, .int 0, .int 0, .int (nI C), .int (nI Rr), .ref (ar 18), .float 0x3f800000, .ref (ar 19), .ref (ar 20), .ref (ar 21), .int 0, .ref (ar 22), .ref (ar 23), .ref (ar 24)])), ((ar 5), .inl (T 0, 28, .inl roomF))] sz) := by
  refine j_met (y := ⟨"PageScribeModel", "used", "(I)I"⟩) (b := prog_15_method_84_code) (n := 4) (ret := (some .int)) (av := [.ref h0, .int p0]) (Qc := fun A => va_Qi (fun (r : Int32) (u : Unit) => r = usedOf p0) (fun u t => Bw D T A [(h0, .inr (11, [.int 0, .ref (ar 0), .ref (ar 1), .ref (ar 2), .int 0, .int 0, .ref (ar 3), .ref (ar 4), .ref (ar 5), .ref (ar 6), .int 1, .int 0, .int 0, .ref (ar 7), .ref (ar 8), .int 0, .int 0, .ref (ar 9), .ref (ar 10), .ref (ar 11), .ref (ar 12), .ref (ar 13), .ref (ar 14), .ref (ar 15), .int 0, .int 0, .int 0, .int 0, .ref (ar 16), .ref (ar 17), .int 0, .int 0, .int 0, .int 0, .int (nI C), .int (nI Rr), .ref (ar 18), .float 0x3f800000, .ref (ar 19), .ref (ar 20), .ref (ar 21), .int 0, .ref (ar 22), .ref (ar 23), .ref (ar 24)]))] t) A) (by decide +kernel) (Nat.le_of_ble_eq_true rfl) (fun p e s m args below meth c A ls F hr hlocks hnm hK hP hD hS hA hN hE hl => ?_)
  obtain ⟨hx, hb, hml, hown, hts⟩ := id F
  have hin := hnm
  have hl : lv_has ls 4 [(0, .ref h0), (1, .int p0)] := hl
  refine lv_aload_n hx hb d_Mo_used_0 rfl (lv_at hl 0 rfl) ?_
  refine lv_iconst (v := 0) hx hb d_Mo_used_1 (by decide) ?_
  refine va_put (D := D) (ci := 11) (v := .int 0) (ty := .int) (C := "PageScribeModel") (T := F_Mo) (N := 45) hx hb hts i_Mo t_Mo t_Mo_ok n_Mo hown hK hP hD hS 0 rfl rfl 0 (by decide) (hts _ k_6_160) (fun _ h9 => h9) rfl (by decide +kernel) rfl rfl (Nat.le_of_ble_eq_true rfl) d_Mo_used_2 (fun H locs hP hD hS => ?_)
  have hP : va_P D classes [(h0, .inr (11, [.int 0, .ref (ar 0), .ref (ar 1), .ref (ar 2), .int 0, .int 0, .ref (ar 3), .ref (ar 4), .ref (ar 5), .ref (ar 6), .int 1, .int 0, .int 0, .ref (ar 7), .ref (ar 8), .int 0, .int 0, .ref (ar 9), .ref (ar 10), .ref (ar 11), .ref (ar 12), .ref (ar 13), .ref (ar 14), .ref (ar 15), .int 0, .int 0, .int 0, .int 0, .ref (ar 16), .ref (ar 17), .int 0, .int 0, .int 0, .int 0, .int (nI C), .int (nI Rr), .ref (ar 18), .float 0x3f800000, .ref (ar 19), .ref (ar 20), .ref (ar 21), .int 0, .ref (ar 22), .ref (ar 23), .ref (ar 24)])), ((ar 5), .inl (T 0, 28, .inl roomF))] H := hP
  have hD : va_D A [(h0, .inr (11, [.int 0, .ref (ar 0), .ref (ar 1), .ref (ar 2), .int 0, .int 0, .ref (ar 3), .ref (ar 4), .ref (ar 5), .ref (ar 6), .int 1, .int 0, .int 0, .ref (ar 7), .ref (ar 8), .int 0, .int 0, .ref (ar 9), .ref (ar 10), .ref (ar 11), .ref (ar 12), .ref (ar 13), .ref (ar 14), .ref (ar 15), .int 0, .int 0, .int 0, .int 0, .ref (ar 16), .ref (ar 17), .int 0, .int 0, .int 0, .int 0, .int (nI C), .int (nI Rr), .ref (ar 18), .float 0x3f800000, .ref (ar 19), .ref (ar 20), .ref (ar 21), .int 0, .ref (ar 22), .ref (ar 23), .ref (ar 24)])), ((ar 5), .inl (T 0, 28, .inl roomF))] := hD
  refine lv_iconst (v := 0) hx hb d_Mo_used_5 (by decide) ?_
  refine lv_istore_n (lv' := [(2, .int 0), (0, .ref h0), (1, .int p0)]) hx hb d_Mo_used_6 rfl hl (by decide) rfl (fun ls hl => ?_)
  refine lv_iconst (v := 1) hx hb d_Mo_used_7 (by decide) ?_
  refine lv_istore_n (lv' := [(3, .int 1), (2, .int 0), (0, .ref h0), (1, .int p0)]) hx hb d_Mo_used_8 rfl hl (by decide) rfl (fun ls hl => ?_)
  refine lv_iload_n hx hb d_Mo_used_9 rfl (lv_at hl 0 rfl) ?_
  refine lv_bipush (v := 7) hx hb d_Mo_used_10 (by decide) ?_
  refine lv_icmp_ge (tgt := 38) hx hb d_Mo_used_12 (by decide) (fun c9 => absurd c9 (by decide +kernel)) (fun _ => ?_)
  refine lv_iload_n hx hb d_Mo_used_15 rfl (lv_at hl 1 rfl) ?_
  refine lv_aload_n hx hb d_Mo_used_16 rfl (lv_at hl 2 rfl) ?_
  refine va_get (D := D) (ci := 11) (v := .ref (ar 5)) (C := "PageScribeModel") (T := F_Mo) (N := 45) hx hb hts i_Mo hown hK hP 0 rfl rfl 8 (by decide) (hts _ k_6_168) (fun _ h9 => h9) rfl d_Mo_used_17 ?_
  refine lv_iload_n hx hb d_Mo_used_20 rfl (lv_at hl 0 rfl) ?_
  refine va_iald hx hb hK hP 1 0 rfl rfl (by unfold vp_in; decide +kernel) d_Mo_used_21 ?_
  refine j_eqi (y := 0) (by decide +kernel) ?_
  refine lv_if_le (tgt := 29) hx hb d_Mo_used_22 (by decide) (fun _ => ?_) (fun c9 => absurd c9 (by decide +kernel))
  refine lv_iconst (v := 0) hx hb d_Mo_used_29 (by decide) ?_
  refine lv_iadd hx hb d_Mo_used_30 ?_
  refine j_eqi (y := 0) (by decide +kernel) ?_
  refine lv_istore_n (lv' := [(2, .int 0), (3, .int 1), (0, .ref h0), (1, .int p0)]) hx hb d_Mo_used_31 rfl hl (by decide) rfl (fun ls hl => ?_)
  refine lv_iinc (v := 2) (lv' := [(3, .int 2), (2, .int 0), (0, .ref h0), (1, .int p0)]) hx hb d_Mo_used_32 hl (k := 1) rfl (by decide +kernel) (by decide) rfl (fun ls hl => ?_)
  refine lv_goto (tgt := 9) hx hb d_Mo_used_35 (by decide) ?_
  refine lv_iload_n hx hb d_Mo_used_9 rfl (lv_at hl 0 rfl) ?_
  refine lv_bipush (v := 7) hx hb d_Mo_used_10 (by decide) ?_
  refine lv_icmp_ge (tgt := 38) hx hb d_Mo_used_12 (by decide) (fun c9 => absurd c9 (by decide +kernel)) (fun _ => ?_)
  refine lv_iload_n hx hb d_Mo_used_15 rfl (lv_at hl 1 rfl) ?_
  refine lv_aload_n hx hb d_Mo_used_16 rfl (lv_at hl 2 rfl) ?_
  refine va_get (D := D) (ci := 11) (v := .ref (ar 5)) (C := "PageScribeModel") (T := F_Mo) (N := 45) hx hb hts i_Mo hown hK hP 0 rfl rfl 8 (by decide) (hts _ k_6_168) (fun _ h9 => h9) rfl d_Mo_used_17 ?_
  refine lv_iload_n hx hb d_Mo_used_20 rfl (lv_at hl 0 rfl) ?_
  refine va_iald hx hb hK hP 1 0 rfl rfl (by unfold vp_in; decide +kernel) d_Mo_used_21 ?_
  refine j_eqi (y := 0) (by decide +kernel) ?_
  refine lv_if_le (tgt := 29) hx hb d_Mo_used_22 (by decide) (fun _ => ?_) (fun c9 => absurd c9 (by decide +kernel))
  refine lv_iconst (v := 0) hx hb d_Mo_used_29 (by decide) ?_
  refine lv_iadd hx hb d_Mo_used_30 ?_
  refine j_eqi (y := 0) (by decide +kernel) ?_
  refine lv_istore_n (lv' := [(2, .int 0), (3, .int 2), (0, .ref h0), (1, .int p0)]) hx hb d_Mo_used_31 rfl hl (by decide) rfl (fun ls hl => ?_)
  refine lv_iinc (v := 3) (lv' := [(3, .int 3), (2, .int 0), (0, .ref h0), (1, .int p0)]) hx hb d_Mo_used_32 hl (k := 1) rfl (by decide +kernel) (by decide) rfl (fun ls hl => ?_)
  refine lv_goto (tgt := 9) hx hb d_Mo_used_35 (by decide) ?_
  refine lv_iload_n hx hb d_Mo_used_9 rfl (lv_at hl 0 rfl) ?_
  refine lv_bipush (v := 7) hx hb d_Mo_used_10 (by decide) ?_
  refine lv_icmp_ge (tgt := 38) hx hb d_Mo_used_12 (by decide) (fun c9 => absurd c9 (by decide +kernel)) (fun _ => ?_)
  refine lv_iload_n hx hb d_Mo_used_15 rfl (lv_at hl 1 rfl) ?_
  refine lv_aload_n hx hb d_Mo_used_16 rfl (lv_at hl 2 rfl) ?_
  refine va_get (D := D) (ci := 11) (v := .ref (ar 5)) (C := "PageScribeModel") (T := F_Mo) (N := 45) hx hb hts i_Mo hown hK hP 0 rfl rfl 8 (by decide) (hts _ k_6_168) (fun _ h9 => h9) rfl d_Mo_used_17 ?_
  refine lv_iload_n hx hb d_Mo_used_20 rfl (lv_at hl 0 rfl) ?_
  refine va_iald hx hb hK hP 1 0 rfl rfl (by unfold vp_in; decide +kernel) d_Mo_used_21 ?_
  refine j_eqi (y := 0) (by decide +kernel) ?_
  refine lv_if_le (tgt := 29) hx hb d_Mo_used_22 (by decide) (fun _ => ?_) (fun c9 => absurd c9 (by decide +kernel))
  refine lv_iconst (v := 0) hx hb d_Mo_used_29 (by decide) ?_
  refine lv_iadd hx hb d_Mo_used_30 ?_
  refine j_eqi (y := 0) (by decide +kernel) ?_
  refine lv_istore_n (lv' := [(2, .int 0), (3, .int 3), (0, .ref h0), (1, .int p0)]) hx hb d_Mo_used_31 rfl hl (by decide) rfl (fun ls hl => ?_)
  refine lv_iinc (v := 4) (lv' := [(3, .int 4), (2, .int 0), (0, .ref h0), (1, .int p0)]) hx hb d_Mo_used_32 hl (k := 1) rfl (by decide +kernel) (by decide) rfl (fun ls hl => ?_)
  refine lv_goto (tgt := 9) hx hb d_Mo_used_35 (by decide) ?_
  refine lv_iload_n hx hb d_Mo_used_9 rfl (lv_at hl 0 rfl) ?_
  refine lv_bipush (v := 7) hx hb d_Mo_used_10 (by decide) ?_
  refine lv_icmp_ge (tgt := 38) hx hb d_Mo_used_12 (by decide) (fun c9 => absurd c9 (by decide +kernel)) (fun _ => ?_)
  refine lv_iload_n hx hb d_Mo_used_15 rfl (lv_at hl 1 rfl) ?_
  refine lv_aload_n hx hb d_Mo_used_16 rfl (lv_at hl 2 rfl) ?_
  refine va_get (D := D) (ci := 11) (v := .ref (ar 5)) (C := "PageScribeModel") (T := F_Mo) (N := 45) hx hb hts i_Mo hown hK hP 0 rfl rfl 8 (by decide) (hts _ k_6_168) (fun _ h9 => h9) rfl d_Mo_used_17 ?_
  refine lv_iload_n hx hb d_Mo_used_20 rfl (lv_at hl 0 rfl) ?_
  refine va_iald hx hb hK hP 1 0 rfl rfl (by unfold vp_in; decide +kernel) d_Mo_used_21 ?_
  refine j_eqi (y := 0) (by decide +kernel) ?_
  refine lv_if_le (tgt := 29) hx hb d_Mo_used_22 (by decide) (fun _ => ?_) (fun c9 => absurd c9 (by decide +kernel))
  refine lv_iconst (v := 0) hx hb d_Mo_used_29 (by decide) ?_
  refine lv_iadd hx hb d_Mo_used_30 ?_
  refine j_eqi (y := 0) (by decide +kernel) ?_
  refine lv_istore_n (lv' := [(2, .int 0), (3, .int 4), (0, .ref h0), (1, .int p0)]) hx hb d_Mo_used_31 rfl hl (by decide) rfl (fun ls hl => ?_)
  refine lv_iinc (v := 5) (lv' := [(3, .int 5), (2, .int 0), (0, .ref h0), (1, .int p0)]) hx hb d_Mo_used_32 hl (k := 1) rfl (by decide +kernel) (by decide) rfl (fun ls hl => ?_)
  refine lv_goto (tgt := 9) hx hb d_Mo_used_35 (by decide) ?_
  refine lv_iload_n hx hb d_Mo_used_9 rfl (lv_at hl 0 rfl) ?_
  refine lv_bipush (v := 7) hx hb d_Mo_used_10 (by decide) ?_
  refine lv_icmp_ge (tgt := 38) hx hb d_Mo_used_12 (by decide) (fun c9 => absurd c9 (by decide +kernel)) (fun _ => ?_)
  refine lv_iload_n hx hb d_Mo_used_15 rfl (lv_at hl 1 rfl) ?_
  refine lv_aload_n hx hb d_Mo_used_16 rfl (lv_at hl 2 rfl) ?_
  refine va_get (D := D) (ci := 11) (v := .ref (ar 5)) (C := "PageScribeModel") (T := F_Mo) (N := 45) hx hb hts i_Mo hown hK hP 0 rfl rfl 8 (by decide) (hts _ k_6_168) (fun _ h9 => h9) rfl d_Mo_used_17 ?_
  refine lv_iload_n hx hb d_Mo_used_20 rfl (lv_at hl 0 rfl) ?_
  refine va_iald hx hb hK hP 1 0 rfl rfl (by unfold vp_in; decide +kernel) d_Mo_used_21 ?_
  refine j_eqi (y := 0) (by decide +kernel) ?_
  refine lv_if_le (tgt := 29) hx hb d_Mo_used_22 (by decide) (fun _ => ?_) (fun c9 => absurd c9 (by decide +kernel))
  refine lv_iconst (v := 0) hx hb d_Mo_used_29 (by decide) ?_
  refine lv_iadd hx hb d_Mo_used_30 ?_
  refine j_eqi (y := 0) (by decide +kernel) ?_
  refine lv_istore_n (lv' := [(2, .int 0), (3, .int 5), (0, .ref h0), (1, .int p0)]) hx hb d_Mo_used_31 rfl hl (by decide) rfl (fun ls hl => ?_)
  refine lv_iinc (v := 6) (lv' := [(3, .int 6), (2, .int 0), (0, .ref h0), (1, .int p0)]) hx hb d_Mo_used_32 hl (k := 1) rfl (by decide +kernel) (by decide) rfl (fun ls hl => ?_)
  refine lv_goto (tgt := 9) hx hb d_Mo_used_35 (by decide) ?_
  refine lv_iload_n hx hb d_Mo_used_9 rfl (lv_at hl 0 rfl) ?_
  refine lv_bipush (v := 7) hx hb d_Mo_used_10 (by decide) ?_
  refine lv_icmp_ge (tgt := 38) hx hb d_Mo_used_12 (by decide) (fun c9 => absurd c9 (by decide +kernel)) (fun _ => ?_)
  refine lv_iload_n hx hb d_Mo_used_15 rfl (lv_at hl 1 rfl) ?_
  refine lv_aload_n hx hb d_Mo_used_16 rfl (lv_at hl 2 rfl) ?_
  refine va_get (D := D) (ci := 11) (v := .ref (ar 5)) (C := "PageScribeModel") (T := F_Mo) (N := 45) hx hb hts i_Mo hown hK hP 0 rfl rfl 8 (by decide) (hts _ k_6_168) (fun _ h9 => h9) rfl d_Mo_used_17 ?_
  refine lv_iload_n hx hb d_Mo_used_20 rfl (lv_at hl 0 rfl) ?_
  refine va_iald hx hb hK hP 1 0 rfl rfl (by unfold vp_in; decide +kernel) d_Mo_used_21 ?_
  refine j_eqi (y := 0) (by decide +kernel) ?_
  refine lv_if_le (tgt := 29) hx hb d_Mo_used_22 (by decide) (fun _ => ?_) (fun c9 => absurd c9 (by decide +kernel))
  refine lv_iconst (v := 0) hx hb d_Mo_used_29 (by decide) ?_
  refine lv_iadd hx hb d_Mo_used_30 ?_
  refine j_eqi (y := 0) (by decide +kernel) ?_
  refine lv_istore_n (lv' := [(2, .int 0), (3, .int 6), (0, .ref h0), (1, .int p0)]) hx hb d_Mo_used_31 rfl hl (by decide) rfl (fun ls hl => ?_)
  refine lv_iinc (v := 7) (lv' := [(3, .int 7), (2, .int 0), (0, .ref h0), (1, .int p0)]) hx hb d_Mo_used_32 hl (k := 1) rfl (by decide +kernel) (by decide) rfl (fun ls hl => ?_)
  refine lv_goto (tgt := 9) hx hb d_Mo_used_35 (by decide) ?_
  refine lv_iload_n hx hb d_Mo_used_9 rfl (lv_at hl 0 rfl) ?_
  refine lv_bipush (v := 7) hx hb d_Mo_used_10 (by decide) ?_
  refine lv_icmp_ge (tgt := 38) hx hb d_Mo_used_12 (by decide) (fun _ => ?_) (fun c9 => absurd c9 (by decide +kernel))
  refine lv_iload_n hx hb d_Mo_used_38 rfl (lv_at hl 3 rfl) ?_
  refine lv_if_ne (tgt := 49) hx hb d_Mo_used_39 (by decide) (fun c_39 => ?_) (fun c_39 => ?_)
  · refine lv_iload_n hx hb d_Mo_used_49 rfl (lv_at hl 3 rfl) ?_
    refine lv_iconst (v := 1) hx hb d_Mo_used_50 (by decide) ?_
    refine lv_icmp_ne (tgt := 58) hx hb d_Mo_used_51 (by decide) (fun c_51 => ?_) (fun c_51 => ?_)
    · refine lv_iload_n hx hb d_Mo_used_58 rfl (lv_at hl 3 rfl) ?_
      refine lv_iconst (v := 2) hx hb d_Mo_used_59 (by decide) ?_
      refine lv_icmp_ne (tgt := 70) hx hb d_Mo_used_60 (by decide) (fun c_60 => ?_) (fun c_60 => ?_)
      · refine lv_iload_n hx hb d_Mo_used_70 rfl (lv_at hl 3 rfl) ?_
        refine lv_iconst (v := 3) hx hb d_Mo_used_71 (by decide) ?_
        refine lv_icmp_ne (tgt := 82) hx hb d_Mo_used_72 (by decide) (fun c_72 => ?_) (fun c_72 => ?_)
        · refine lv_iload_n hx hb d_Mo_used_82 rfl (lv_at hl 3 rfl) ?_
          refine lv_iconst (v := 4) hx hb d_Mo_used_83 (by decide) ?_
          refine lv_icmp_ne (tgt := 94) hx hb d_Mo_used_84 (by decide) (fun c_84 => ?_) (fun c_84 => ?_)
          · refine lv_iload_n hx hb d_Mo_used_94 rfl (lv_at hl 3 rfl) ?_
            refine lv_iconst (v := 5) hx hb d_Mo_used_95 (by decide) ?_
            refine lv_icmp_ne (tgt := 106) hx hb d_Mo_used_96 (by decide) (fun c_96 => ?_) (fun c_96 => ?_)
            · refine lv_iload_n hx hb d_Mo_used_106 rfl (lv_at hl 3 rfl) ?_
              refine lv_bipush (v := 6) hx hb d_Mo_used_107 (by decide) ?_
              refine lv_icmp_ne (tgt := 119) hx hb d_Mo_used_109 (by decide) (fun c_109 => ?_) (fun c_109 => ?_)
              · refine lv_iconst (v := (-1)) hx hb d_Mo_used_119 (by decide) ?_
                have hP9 := hP.sub (ws' := [(h0, .inr (11, [.int 0, .ref (ar 0), .ref (ar 1), .ref (ar 2), .int 0, .int 0, .ref (ar 3), .ref (ar 4), .ref (ar 5), .ref (ar 6), .int 1, .int 0, .int 0, .ref (ar 7), .ref (ar 8), .int 0, .int 0, .ref (ar 9), .ref (ar 10), .ref (ar 11), .ref (ar 12), .ref (ar 13), .ref (ar 14), .ref (ar 15), .int 0, .int 0, .int 0, .int 0, .ref (ar 16), .ref (ar 17), .int 0, .int 0, .int 0, .int 0, .int (nI C), .int (nI Rr), .ref (ar 18), .float 0x3f800000, .ref (ar 19), .ref (ar 20), .ref (ar 21), .int 0, .ref (ar 22), .ref (ar 23), .ref (ar 24)]))]) [0] rfl
                have hD9 := hD.sub (ws' := [(h0, .inr (11, [.int 0, .ref (ar 0), .ref (ar 1), .ref (ar 2), .int 0, .int 0, .ref (ar 3), .ref (ar 4), .ref (ar 5), .ref (ar 6), .int 1, .int 0, .int 0, .ref (ar 7), .ref (ar 8), .int 0, .int 0, .ref (ar 9), .ref (ar 10), .ref (ar 11), .ref (ar 12), .ref (ar 13), .ref (ar 14), .ref (ar 15), .int 0, .int 0, .int 0, .int 0, .ref (ar 16), .ref (ar 17), .int 0, .int 0, .int 0, .int 0, .int (nI C), .int (nI Rr), .ref (ar 18), .float 0x3f800000, .ref (ar 19), .ref (ar 20), .ref (ar 21), .int 0, .ref (ar 22), .ref (ar 23), .ref (ar 24)]))]) [0] (by decide) rfl
                refine W.widen (k := 0) (n := 0) (Nat.le_of_ble_eq_true rfl) (Nat.le_of_ble_eq_true rfl) ?_
                exact j_iret F hr hlocks hK hS () (by first | exact (usedOf_0 (Or.inl c_39)).symm | exact (usedOf_0 (Or.inr (Or.inl c_51))).symm | exact (by rw [c_60]; decide +kernel) | exact (usedOf_0 (Or.inr (Or.inr (Or.inl c_72)))).symm | exact (usedOf_0 (Or.inr (Or.inr (Or.inr (Or.inl c_84))))).symm | exact (usedOf_0 (Or.inr (Or.inr (Or.inr (Or.inr (Or.inl c_96)))))).symm | exact (usedOf_0 (Or.inr (Or.inr (Or.inr (Or.inr (Or.inr c_109)))))).symm | exact (usedOf_m c_39 c_51 c_60 c_72 c_84 c_96 c_109).symm) hP9 hD9 d_Mo_used_120
              · refine lv_aload_n hx hb d_Mo_used_112 rfl (lv_at hl 2 rfl) ?_
                refine va_get (D := D) (ci := 11) (v := .int 0) (C := "PageScribeModel") (T := F_Mo) (N := 45) hx hb hts i_Mo hown hK hP 0 rfl rfl 24 (by decide) (hts _ k_6_184) (fun _ h9 => h9) rfl d_Mo_used_113 ?_
                refine lv_goto (tgt := 120) hx hb d_Mo_used_116 (by decide) ?_
                have hP9 := hP.sub (ws' := [(h0, .inr (11, [.int 0, .ref (ar 0), .ref (ar 1), .ref (ar 2), .int 0, .int 0, .ref (ar 3), .ref (ar 4), .ref (ar 5), .ref (ar 6), .int 1, .int 0, .int 0, .ref (ar 7), .ref (ar 8), .int 0, .int 0, .ref (ar 9), .ref (ar 10), .ref (ar 11), .ref (ar 12), .ref (ar 13), .ref (ar 14), .ref (ar 15), .int 0, .int 0, .int 0, .int 0, .ref (ar 16), .ref (ar 17), .int 0, .int 0, .int 0, .int 0, .int (nI C), .int (nI Rr), .ref (ar 18), .float 0x3f800000, .ref (ar 19), .ref (ar 20), .ref (ar 21), .int 0, .ref (ar 22), .ref (ar 23), .ref (ar 24)]))]) [0] rfl
                have hD9 := hD.sub (ws' := [(h0, .inr (11, [.int 0, .ref (ar 0), .ref (ar 1), .ref (ar 2), .int 0, .int 0, .ref (ar 3), .ref (ar 4), .ref (ar 5), .ref (ar 6), .int 1, .int 0, .int 0, .ref (ar 7), .ref (ar 8), .int 0, .int 0, .ref (ar 9), .ref (ar 10), .ref (ar 11), .ref (ar 12), .ref (ar 13), .ref (ar 14), .ref (ar 15), .int 0, .int 0, .int 0, .int 0, .ref (ar 16), .ref (ar 17), .int 0, .int 0, .int 0, .int 0, .int (nI C), .int (nI Rr), .ref (ar 18), .float 0x3f800000, .ref (ar 19), .ref (ar 20), .ref (ar 21), .int 0, .ref (ar 22), .ref (ar 23), .ref (ar 24)]))]) [0] (by decide) rfl
                refine W.widen (k := 0) (n := 0) (Nat.le_of_ble_eq_true rfl) (Nat.le_of_ble_eq_true rfl) ?_
                exact j_iret F hr hlocks hK hS () (by first | exact (usedOf_0 (Or.inl c_39)).symm | exact (usedOf_0 (Or.inr (Or.inl c_51))).symm | exact (by rw [c_60]; decide +kernel) | exact (usedOf_0 (Or.inr (Or.inr (Or.inl c_72)))).symm | exact (usedOf_0 (Or.inr (Or.inr (Or.inr (Or.inl c_84))))).symm | exact (usedOf_0 (Or.inr (Or.inr (Or.inr (Or.inr (Or.inl c_96)))))).symm | exact (usedOf_0 (Or.inr (Or.inr (Or.inr (Or.inr (Or.inr c_109)))))).symm | exact (usedOf_m c_39 c_51 c_60 c_72 c_84 c_96 c_109).symm) hP9 hD9 d_Mo_used_120
            · refine lv_aload_n hx hb d_Mo_used_99 rfl (lv_at hl 2 rfl) ?_
              refine va_get (D := D) (ci := 11) (v := .int 0) (C := "PageScribeModel") (T := F_Mo) (N := 45) hx hb hts i_Mo hown hK hP 0 rfl rfl 30 (by decide) (hts _ k_6_190) (fun _ h9 => h9) rfl d_Mo_used_100 ?_
              refine lv_goto (tgt := 120) hx hb d_Mo_used_103 (by decide) ?_
              have hP9 := hP.sub (ws' := [(h0, .inr (11, [.int 0, .ref (ar 0), .ref (ar 1), .ref (ar 2), .int 0, .int 0, .ref (ar 3), .ref (ar 4), .ref (ar 5), .ref (ar 6), .int 1, .int 0, .int 0, .ref (ar 7), .ref (ar 8), .int 0, .int 0, .ref (ar 9), .ref (ar 10), .ref (ar 11), .ref (ar 12), .ref (ar 13), .ref (ar 14), .ref (ar 15), .int 0, .int 0, .int 0, .int 0, .ref (ar 16), .ref (ar 17), .int 0, .int 0, .int 0, .int 0, .int (nI C), .int (nI Rr), .ref (ar 18), .float 0x3f800000, .ref (ar 19), .ref (ar 20), .ref (ar 21), .int 0, .ref (ar 22), .ref (ar 23), .ref (ar 24)]))]) [0] rfl
              have hD9 := hD.sub (ws' := [(h0, .inr (11, [.int 0, .ref (ar 0), .ref (ar 1), .ref (ar 2), .int 0, .int 0, .ref (ar 3), .ref (ar 4), .ref (ar 5), .ref (ar 6), .int 1, .int 0, .int 0, .ref (ar 7), .ref (ar 8), .int 0, .int 0, .ref (ar 9), .ref (ar 10), .ref (ar 11), .ref (ar 12), .ref (ar 13), .ref (ar 14), .ref (ar 15), .int 0, .int 0, .int 0, .int 0, .ref (ar 16), .ref (ar 17), .int 0, .int 0, .int 0, .int 0, .int (nI C), .int (nI Rr), .ref (ar 18), .float 0x3f800000, .ref (ar 19), .ref (ar 20), .ref (ar 21), .int 0, .ref (ar 22), .ref (ar 23), .ref (ar 24)]))]) [0] (by decide) rfl
              refine W.widen (k := 0) (n := 0) (Nat.le_of_ble_eq_true rfl) (Nat.le_of_ble_eq_true rfl) ?_
              exact j_iret F hr hlocks hK hS () (by first | exact (usedOf_0 (Or.inl c_39)).symm | exact (usedOf_0 (Or.inr (Or.inl c_51))).symm | exact (by rw [c_60]; decide +kernel) | exact (usedOf_0 (Or.inr (Or.inr (Or.inl c_72)))).symm | exact (usedOf_0 (Or.inr (Or.inr (Or.inr (Or.inl c_84))))).symm | exact (usedOf_0 (Or.inr (Or.inr (Or.inr (Or.inr (Or.inl c_96)))))).symm | exact (usedOf_0 (Or.inr (Or.inr (Or.inr (Or.inr (Or.inr c_109)))))).symm | exact (usedOf_m c_39 c_51 c_60 c_72 c_84 c_96 c_109).symm) hP9 hD9 d_Mo_used_120
          · refine lv_aload_n hx hb d_Mo_used_87 rfl (lv_at hl 2 rfl) ?_
            refine va_get (D := D) (ci := 11) (v := .int 0) (C := "PageScribeModel") (T := F_Mo) (N := 45) hx hb hts i_Mo hown hK hP 0 rfl rfl 41 (by decide) (hts _ k_6_201) (fun _ h9 => h9) rfl d_Mo_used_88 ?_
            refine lv_goto (tgt := 120) hx hb d_Mo_used_91 (by decide) ?_
            have hP9 := hP.sub (ws' := [(h0, .inr (11, [.int 0, .ref (ar 0), .ref (ar 1), .ref (ar 2), .int 0, .int 0, .ref (ar 3), .ref (ar 4), .ref (ar 5), .ref (ar 6), .int 1, .int 0, .int 0, .ref (ar 7), .ref (ar 8), .int 0, .int 0, .ref (ar 9), .ref (ar 10), .ref (ar 11), .ref (ar 12), .ref (ar 13), .ref (ar 14), .ref (ar 15), .int 0, .int 0, .int 0, .int 0, .ref (ar 16), .ref (ar 17), .int 0, .int 0, .int 0, .int 0, .int (nI C), .int (nI Rr), .ref (ar 18), .float 0x3f800000, .ref (ar 19), .ref (ar 20), .ref (ar 21), .int 0, .ref (ar 22), .ref (ar 23), .ref (ar 24)]))]) [0] rfl
            have hD9 := hD.sub (ws' := [(h0, .inr (11, [.int 0, .ref (ar 0), .ref (ar 1), .ref (ar 2), .int 0, .int 0, .ref (ar 3), .ref (ar 4), .ref (ar 5), .ref (ar 6), .int 1, .int 0, .int 0, .ref (ar 7), .ref (ar 8), .int 0, .int 0, .ref (ar 9), .ref (ar 10), .ref (ar 11), .ref (ar 12), .ref (ar 13), .ref (ar 14), .ref (ar 15), .int 0, .int 0, .int 0, .int 0, .ref (ar 16), .ref (ar 17), .int 0, .int 0, .int 0, .int 0, .int (nI C), .int (nI Rr), .ref (ar 18), .float 0x3f800000, .ref (ar 19), .ref (ar 20), .ref (ar 21), .int 0, .ref (ar 22), .ref (ar 23), .ref (ar 24)]))]) [0] (by decide) rfl
            refine W.widen (k := 0) (n := 0) (Nat.le_of_ble_eq_true rfl) (Nat.le_of_ble_eq_true rfl) ?_
            exact j_iret F hr hlocks hK hS () (by first | exact (usedOf_0 (Or.inl c_39)).symm | exact (usedOf_0 (Or.inr (Or.inl c_51))).symm | exact (by rw [c_60]; decide +kernel) | exact (usedOf_0 (Or.inr (Or.inr (Or.inl c_72)))).symm | exact (usedOf_0 (Or.inr (Or.inr (Or.inr (Or.inl c_84))))).symm | exact (usedOf_0 (Or.inr (Or.inr (Or.inr (Or.inr (Or.inl c_96)))))).symm | exact (usedOf_0 (Or.inr (Or.inr (Or.inr (Or.inr (Or.inr c_109)))))).symm | exact (usedOf_m c_39 c_51 c_60 c_72 c_84 c_96 c_109).symm) hP9 hD9 d_Mo_used_120
        · refine lv_aload_n hx hb d_Mo_used_75 rfl (lv_at hl 2 rfl) ?_
          refine va_get (D := D) (ci := 11) (v := .int 0) (C := "PageScribeModel") (T := F_Mo) (N := 45) hx hb hts i_Mo hown hK hP 0 rfl rfl 12 (by decide) (hts _ k_6_172) (fun _ h9 => h9) rfl d_Mo_used_76 ?_
          refine lv_goto (tgt := 120) hx hb d_Mo_used_79 (by decide) ?_
          have hP9 := hP.sub (ws' := [(h0, .inr (11, [.int 0, .ref (ar 0), .ref (ar 1), .ref (ar 2), .int 0, .int 0, .ref (ar 3), .ref (ar 4), .ref (ar 5), .ref (ar 6), .int 1, .int 0, .int 0, .ref (ar 7), .ref (ar 8), .int 0, .int 0, .ref (ar 9), .ref (ar 10), .ref (ar 11), .ref (ar 12), .ref (ar 13), .ref (ar 14), .ref (ar 15), .int 0, .int 0, .int 0, .int 0, .ref (ar 16), .ref (ar 17), .int 0, .int 0, .int 0, .int 0, .int (nI C), .int (nI Rr), .ref (ar 18), .float 0x3f800000, .ref (ar 19), .ref (ar 20), .ref (ar 21), .int 0, .ref (ar 22), .ref (ar 23), .ref (ar 24)]))]) [0] rfl
          have hD9 := hD.sub (ws' := [(h0, .inr (11, [.int 0, .ref (ar 0), .ref (ar 1), .ref (ar 2), .int 0, .int 0, .ref (ar 3), .ref (ar 4), .ref (ar 5), .ref (ar 6), .int 1, .int 0, .int 0, .ref (ar 7), .ref (ar 8), .int 0, .int 0, .ref (ar 9), .ref (ar 10), .ref (ar 11), .ref (ar 12), .ref (ar 13), .ref (ar 14), .ref (ar 15), .int 0, .int 0, .int 0, .int 0, .ref (ar 16), .ref (ar 17), .int 0, .int 0, .int 0, .int 0, .int (nI C), .int (nI Rr), .ref (ar 18), .float 0x3f800000, .ref (ar 19), .ref (ar 20), .ref (ar 21), .int 0, .ref (ar 22), .ref (ar 23), .ref (ar 24)]))]) [0] (by decide) rfl
          refine W.widen (k := 0) (n := 0) (Nat.le_of_ble_eq_true rfl) (Nat.le_of_ble_eq_true rfl) ?_
          exact j_iret F hr hlocks hK hS () (by first | exact (usedOf_0 (Or.inl c_39)).symm | exact (usedOf_0 (Or.inr (Or.inl c_51))).symm | exact (by rw [c_60]; decide +kernel) | exact (usedOf_0 (Or.inr (Or.inr (Or.inl c_72)))).symm | exact (usedOf_0 (Or.inr (Or.inr (Or.inr (Or.inl c_84))))).symm | exact (usedOf_0 (Or.inr (Or.inr (Or.inr (Or.inr (Or.inl c_96)))))).symm | exact (usedOf_0 (Or.inr (Or.inr (Or.inr (Or.inr (Or.inr c_109)))))).symm | exact (usedOf_m c_39 c_51 c_60 c_72 c_84 c_96 c_109).symm) hP9 hD9 d_Mo_used_120
      · refine lv_aload_n hx hb d_Mo_used_63 rfl (lv_at hl 2 rfl) ?_
        refine va_get (D := D) (ci := 11) (v := .int 1) (C := "PageScribeModel") (T := F_Mo) (N := 45) hx hb hts i_Mo hown hK hP 0 rfl rfl 10 (by decide) (hts _ k_6_170) (fun _ h9 => h9) rfl d_Mo_used_64 ?_
        refine lv_goto (tgt := 120) hx hb d_Mo_used_67 (by decide) ?_
        have hP9 := hP.sub (ws' := [(h0, .inr (11, [.int 0, .ref (ar 0), .ref (ar 1), .ref (ar 2), .int 0, .int 0, .ref (ar 3), .ref (ar 4), .ref (ar 5), .ref (ar 6), .int 1, .int 0, .int 0, .ref (ar 7), .ref (ar 8), .int 0, .int 0, .ref (ar 9), .ref (ar 10), .ref (ar 11), .ref (ar 12), .ref (ar 13), .ref (ar 14), .ref (ar 15), .int 0, .int 0, .int 0, .int 0, .ref (ar 16), .ref (ar 17), .int 0, .int 0, .int 0, .int 0, .int (nI C), .int (nI Rr), .ref (ar 18), .float 0x3f800000, .ref (ar 19), .ref (ar 20), .ref (ar 21), .int 0, .ref (ar 22), .ref (ar 23), .ref (ar 24)]))]) [0] rfl
        have hD9 := hD.sub (ws' := [(h0, .inr (11, [.int 0, .ref (ar 0), .ref (ar 1), .ref (ar 2), .int 0, .int 0, .ref (ar 3), .ref (ar 4), .ref (ar 5), .ref (ar 6), .int 1, .int 0, .int 0, .ref (ar 7), .ref (ar 8), .int 0, .int 0, .ref (ar 9), .ref (ar 10), .ref (ar 11), .ref (ar 12), .ref (ar 13), .ref (ar 14), .ref (ar 15), .int 0, .int 0, .int 0, .int 0, .ref (ar 16), .ref (ar 17), .int 0, .int 0, .int 0, .int 0, .int (nI C), .int (nI Rr), .ref (ar 18), .float 0x3f800000, .ref (ar 19), .ref (ar 20), .ref (ar 21), .int 0, .ref (ar 22), .ref (ar 23), .ref (ar 24)]))]) [0] (by decide) rfl
        refine W.widen (k := 0) (n := 0) (Nat.le_of_ble_eq_true rfl) (Nat.le_of_ble_eq_true rfl) ?_
        exact j_iret F hr hlocks hK hS () (by first | exact (usedOf_0 (Or.inl c_39)).symm | exact (usedOf_0 (Or.inr (Or.inl c_51))).symm | exact (by rw [c_60]; decide +kernel) | exact (usedOf_0 (Or.inr (Or.inr (Or.inl c_72)))).symm | exact (usedOf_0 (Or.inr (Or.inr (Or.inr (Or.inl c_84))))).symm | exact (usedOf_0 (Or.inr (Or.inr (Or.inr (Or.inr (Or.inl c_96)))))).symm | exact (usedOf_0 (Or.inr (Or.inr (Or.inr (Or.inr (Or.inr c_109)))))).symm | exact (usedOf_m c_39 c_51 c_60 c_72 c_84 c_96 c_109).symm) hP9 hD9 d_Mo_used_120
    · refine lv_iload_n hx hb d_Mo_used_54 rfl (lv_at hl 1 rfl) ?_
      refine lv_goto (tgt := 120) hx hb d_Mo_used_55 (by decide) ?_
      have hP9 := hP.sub (ws' := [(h0, .inr (11, [.int 0, .ref (ar 0), .ref (ar 1), .ref (ar 2), .int 0, .int 0, .ref (ar 3), .ref (ar 4), .ref (ar 5), .ref (ar 6), .int 1, .int 0, .int 0, .ref (ar 7), .ref (ar 8), .int 0, .int 0, .ref (ar 9), .ref (ar 10), .ref (ar 11), .ref (ar 12), .ref (ar 13), .ref (ar 14), .ref (ar 15), .int 0, .int 0, .int 0, .int 0, .ref (ar 16), .ref (ar 17), .int 0, .int 0, .int 0, .int 0, .int (nI C), .int (nI Rr), .ref (ar 18), .float 0x3f800000, .ref (ar 19), .ref (ar 20), .ref (ar 21), .int 0, .ref (ar 22), .ref (ar 23), .ref (ar 24)]))]) [0] rfl
      have hD9 := hD.sub (ws' := [(h0, .inr (11, [.int 0, .ref (ar 0), .ref (ar 1), .ref (ar 2), .int 0, .int 0, .ref (ar 3), .ref (ar 4), .ref (ar 5), .ref (ar 6), .int 1, .int 0, .int 0, .ref (ar 7), .ref (ar 8), .int 0, .int 0, .ref (ar 9), .ref (ar 10), .ref (ar 11), .ref (ar 12), .ref (ar 13), .ref (ar 14), .ref (ar 15), .int 0, .int 0, .int 0, .int 0, .ref (ar 16), .ref (ar 17), .int 0, .int 0, .int 0, .int 0, .int (nI C), .int (nI Rr), .ref (ar 18), .float 0x3f800000, .ref (ar 19), .ref (ar 20), .ref (ar 21), .int 0, .ref (ar 22), .ref (ar 23), .ref (ar 24)]))]) [0] (by decide) rfl
      refine W.widen (k := 0) (n := 0) (Nat.le_of_ble_eq_true rfl) (Nat.le_of_ble_eq_true rfl) ?_
      exact j_iret F hr hlocks hK hS () (by first | exact (usedOf_0 (Or.inl c_39)).symm | exact (usedOf_0 (Or.inr (Or.inl c_51))).symm | exact (by rw [c_60]; decide +kernel) | exact (usedOf_0 (Or.inr (Or.inr (Or.inl c_72)))).symm | exact (usedOf_0 (Or.inr (Or.inr (Or.inr (Or.inl c_84))))).symm | exact (usedOf_0 (Or.inr (Or.inr (Or.inr (Or.inr (Or.inl c_96)))))).symm | exact (usedOf_0 (Or.inr (Or.inr (Or.inr (Or.inr (Or.inr c_109)))))).symm | exact (usedOf_m c_39 c_51 c_60 c_72 c_84 c_96 c_109).symm) hP9 hD9 d_Mo_used_120
  · refine lv_aload_n hx hb d_Mo_used_42 rfl (lv_at hl 2 rfl) ?_
    refine va_get (D := D) (ci := 11) (v := .int 0) (C := "PageScribeModel") (T := F_Mo) (N := 45) hx hb hts i_Mo hown hK hP 0 rfl rfl 5 (by decide) (hts _ k_6_165) (fun _ h9 => h9) rfl d_Mo_used_43 ?_
    refine lv_goto (tgt := 120) hx hb d_Mo_used_46 (by decide) ?_
    have hP9 := hP.sub (ws' := [(h0, .inr (11, [.int 0, .ref (ar 0), .ref (ar 1), .ref (ar 2), .int 0, .int 0, .ref (ar 3), .ref (ar 4), .ref (ar 5), .ref (ar 6), .int 1, .int 0, .int 0, .ref (ar 7), .ref (ar 8), .int 0, .int 0, .ref (ar 9), .ref (ar 10), .ref (ar 11), .ref (ar 12), .ref (ar 13), .ref (ar 14), .ref (ar 15), .int 0, .int 0, .int 0, .int 0, .ref (ar 16), .ref (ar 17), .int 0, .int 0, .int 0, .int 0, .int (nI C), .int (nI Rr), .ref (ar 18), .float 0x3f800000, .ref (ar 19), .ref (ar 20), .ref (ar 21), .int 0, .ref (ar 22), .ref (ar 23), .ref (ar 24)]))]) [0] rfl
    have hD9 := hD.sub (ws' := [(h0, .inr (11, [.int 0, .ref (ar 0), .ref (ar 1), .ref (ar 2), .int 0, .int 0, .ref (ar 3), .ref (ar 4), .ref (ar 5), .ref (ar 6), .int 1, .int 0, .int 0, .ref (ar 7), .ref (ar 8), .int 0, .int 0, .ref (ar 9), .ref (ar 10), .ref (ar 11), .ref (ar 12), .ref (ar 13), .ref (ar 14), .ref (ar 15), .int 0, .int 0, .int 0, .int 0, .ref (ar 16), .ref (ar 17), .int 0, .int 0, .int 0, .int 0, .int (nI C), .int (nI Rr), .ref (ar 18), .float 0x3f800000, .ref (ar 19), .ref (ar 20), .ref (ar 21), .int 0, .ref (ar 22), .ref (ar 23), .ref (ar 24)]))]) [0] (by decide) rfl
    refine W.widen (k := 0) (n := 0) (Nat.le_of_ble_eq_true rfl) (Nat.le_of_ble_eq_true rfl) ?_
    exact j_iret F hr hlocks hK hS () (by first | exact (usedOf_0 (Or.inl c_39)).symm | exact (usedOf_0 (Or.inr (Or.inl c_51))).symm | exact (by rw [c_60]; decide +kernel) | exact (usedOf_0 (Or.inr (Or.inr (Or.inl c_72)))).symm | exact (usedOf_0 (Or.inr (Or.inr (Or.inr (Or.inl c_84))))).symm | exact (usedOf_0 (Or.inr (Or.inr (Or.inr (Or.inr (Or.inl c_96)))))).symm | exact (usedOf_0 (Or.inr (Or.inr (Or.inr (Or.inr (Or.inr c_109)))))).symm | exact (usedOf_m c_39 c_51 c_60 c_72 c_84 c_96 c_109).symm) hP9 hD9 d_Mo_used_120
theorem d_Mo_pixel_0 : decode prog_15_method_85_code 0 = .ok (.aload_n 0, 1) := by decide +kernel
theorem d_Mo_pixel_1 : decode prog_15_method_85_code 1 = .ok (.iconst 0, 1) := by decide +kernel
theorem d_Mo_pixel_2 : decode prog_15_method_85_code 2 = .ok (.putfield 242, 3) := by decide +kernel
theorem d_Mo_pixel_5 : decode prog_15_method_85_code 5 = .ok (.iload_n 1, 1) := by decide +kernel
theorem d_Mo_pixel_6 : decode prog_15_method_85_code 6 = .ok (.ifCond .lt 23, 3) := by decide +kernel
theorem d_Mo_pixel_29 : decode prog_15_method_85_code 29 = .ok (.iconst (-1), 1) := by decide +kernel
theorem d_Mo_pixel_30 : decode prog_15_method_85_code 30 = .ok (.goto 14, 3) := by decide +kernel
theorem d_Mo_pixel_44 : decode prog_15_method_85_code 44 = .ok (.ireturn, 1) := by decide +kernel
theorem d_Mo_pixel_9 : decode prog_15_method_85_code 9 = .ok (.iload_n 1, 1) := by decide +kernel
theorem d_Mo_pixel_10 : decode prog_15_method_85_code 10 = .ok (.aload_n 0, 1) := by decide +kernel
theorem d_Mo_pixel_11 : decode prog_15_method_85_code 11 = .ok (.getfield 236, 3) := by decide +kernel
theorem d_Mo_pixel_14 : decode prog_15_method_85_code 14 = .ok (.if_icmp .ge 15, 3) := by decide +kernel
theorem d_Mo_pixel_17 : decode prog_15_method_85_code 17 = .ok (.iload_n 2, 1) := by decide +kernel
theorem d_Mo_pixel_18 : decode prog_15_method_85_code 18 = .ok (.ifCond .lt 11, 3) := by decide +kernel
theorem d_Mo_pixel_21 : decode prog_15_method_85_code 21 = .ok (.iload_n 2, 1) := by decide +kernel
theorem d_Mo_pixel_22 : decode prog_15_method_85_code 22 = .ok (.aload_n 0, 1) := by decide +kernel
theorem d_Mo_pixel_23 : decode prog_15_method_85_code 23 = .ok (.getfield 239, 3) := by decide +kernel
theorem d_Mo_pixel_26 : decode prog_15_method_85_code 26 = .ok (.if_icmp .lt 7, 3) := by decide +kernel
theorem d_Mo_pixel_33 : decode prog_15_method_85_code 33 = .ok (.aload_n 0, 1) := by decide +kernel
theorem d_Mo_pixel_34 : decode prog_15_method_85_code 34 = .ok (.getfield 71, 3) := by decide +kernel
theorem d_Mo_pixel_37 : decode prog_15_method_85_code 37 = .ok (.bipush 24, 2) := by decide +kernel
theorem d_Mo_pixel_39 : decode prog_15_method_85_code 39 = .ok (.iload_n 2, 1) := by decide +kernel
theorem d_Mo_pixel_40 : decode prog_15_method_85_code 40 = .ok (.imul, 1) := by decide +kernel
theorem d_Mo_pixel_41 : decode prog_15_method_85_code 41 = .ok (.iload_n 1, 1) := by decide +kernel
theorem d_Mo_pixel_42 : decode prog_15_method_85_code 42 = .ok (.iadd, 1) := by decide +kernel
theorem d_Mo_pixel_43 : decode prog_15_method_85_code 43 = .ok (.iaload, 1) := by decide +kernel
set_option maxHeartbeats 4000000 in
set_option maxRecDepth 100000 in
theorem c_Mo_pixel (l : Launch) (D : va_G) (T : Nat → ClassId) (h0 : Nat) (ar : (Nat → Nat)) (C : Nat) (Rr : Nat) (p0 : Int32) (p1 : Int32) (sz : Nat) (hC : C ≤ 24) (hR : Rr ≤ 16) : Met l ⟨"PageScribeModel", "pixel", "(II)I"⟩ (wy ⟨"PageScribeModel", "pixel", "(II)I"⟩ prog_15_method_85_code 3 (some .int)) ({ frames := 0, cells := 0, slots := 0, locals := 0 }) (va_Pc [.ref h0, .int p0, .int p1] (Pw D T [(h0, .inr (11, [.int 0, .ref (ar 0), .ref (ar 1), .ref (ar 2), .int 0, .int 0, .ref (ar 3), .ref (ar 4), .ref (ar 5), .ref (ar 6), .int 1, .int 0, .int 0, .ref (ar 7), .ref (ar 8), .int 0, .int 0, .ref (ar 9), .ref (ar 10), .ref (ar 11), .ref (ar 12), .ref (ar 13), .ref (ar 14), .ref (ar 15), .int 0, .int 0, .int 0, .int 0, .ref (ar 16), .ref (ar 17), .int 0, .int 0, .int 0, .int 0, .int (nI C), .int (nI Rr), .ref (ar 18), .float 0x3f800000, .ref (ar 19), .ref (ar 20), .ref (ar 21), .int 0, .ref (ar 22), .ref (ar 23), .ref (ar 24)])), ((ar 18), .inl (T 0, 384, .inl zI))] sz E0)) (va_Qi (fun (r : Int32) (u : Unit) => r = pixOf (nI C) (nI Rr) p0 p1) (fun u t => Bw D T (va_A [(h0, .inr (11, [.int 0, .ref (ar 0), .ref (ar 1), .ref (ar 2), .int 0, .int 0, .ref (ar 3), .ref (ar 4), .ref (ar 5), .ref (ar 6), .int 1, .int 0, .int 0, .ref (ar 7), .ref (ar 8), .int 0, .int 0, .ref (ar 9), .ref (ar 10), .ref (ar 11), .ref (ar 12), .ref (ar 13), .ref (ar 14), .ref (ar 15), .int 0, .int 0, .int 0, .int 0, .ref (ar 16), .ref (ar 17), .int 0, .int 0, .int 0, .int 0, .int (nI C), .int (nI Rr), .ref (ar 18), .float 0x3f800000, .ref (ar 19), .ref (ar 20), .ref (ar 21), .int 0, .ref (ar 22), .ref (ar 23), .ref (ar 24)])), ((ar 18), .inl (T 0, 384, .inl zI))] sz) [(h0, .inr (11, [.int 0, .ref (ar 0), .ref (ar 1), .ref (ar 2), .int 0, .int 0, .ref (ar 3), .ref (ar 4), .ref (ar 5), .ref (ar 6), .int 1, .int 0, .int 0, .ref (ar 7), .ref (ar 8), .int 0, .int 0, .ref (ar 9), .ref (ar 10), .ref (ar 11), .ref (ar 12), .ref (ar 13), .ref (ar 14), .ref (ar 15), .int 0, .int 0, .int 0, .int 0, .ref (ar 16), .ref (ar 17), .int 0, .int 0, .int 0, .int 0, .int (nI C), .int (nI Rr), .ref (ar 18), .float 0x3f800000, .ref (ar 19), .ref (ar 20), .ref (ar 21), .int 0, .ref (ar 22), .ref (ar 23), .ref (ar 24)]))] t) (va_A [(h0, .inr (11, [.int 0, .ref (ar 0), .ref (ar 1), .ref (ar 2), .int 0, .int 0, .ref (ar 3), .ref (ar 4), .ref (ar 5), .ref (ar 6), .int 1, .int 0, .int 0, .ref (ar 7), .ref (ar 8), .int 0, .int 0, .ref (ar 9), .ref (ar 10), .ref (ar 11), .ref (ar 12), .ref (ar 13), .ref (ar 14), .ref (ar 15), .int 0, .int 0, .int 0, .int 0, .ref (ar 16), .ref (ar 17), .int 0, .int 0, .int 0, .int 0, .int (nI C), .int (nI Rr), .ref (ar 18), .float 0x3f800000, .ref (ar 19), .ref (ar 20), .ref (ar 21), .int 0, .ref (ar 22), .ref (ar 23), .ref (ar 24)])), ((ar 18), .inl (T 0, 384, .inl zI))] sz)) 0 0 (va_A [(h0, .inr (11, [.int 0, .ref (ar 0), .ref (ar 1), .ref (ar 2), .int 0, .int 0, .ref (ar 3), .ref (ar 4), .ref (ar 5), .ref (ar 6), .int 1, .int 0, .int 0, .ref (ar 7), .ref (ar 8), .int 0, .int 0, .ref (ar 9), .ref (ar 10), .ref (ar 11), .ref (ar 12), .ref (ar 13), .ref (ar 14), .ref (ar 15), .int 0, .int 0, .int 0, .int 0, .ref (ar 16), .ref (ar 17), .int 0, .int 0, .int 0, .int 0, .int (nI C), .int (nI Rr), .ref (ar 18), .float 0x3f800000, .ref (ar 19), .ref (ar 20), .ref (ar 21), .int 0, .ref (ar 22), .ref (ar 23), .ref (ar 24)])), ((ar 18), .inl (T 0, 384, .inl zI))] sz) := by
  refine j_met (y := ⟨"PageScribeModel", "pixel", "(II)I"⟩) (b := prog_15_method_85_code) (n := 3) (ret := (some .int)) (av := [.ref h0, .int p0, .int p1]) (Qc := fun A => va_Qi (fun (r : Int32) (u : Unit) => r = pixOf (nI C) (nI Rr) p0 p1) (fun u t => Bw D T A [(h0, .inr (11, [.int 0, .ref (ar 0), .ref (ar 1), .ref (ar 2), .int 0, .int 0, .ref (ar 3), .ref (ar 4), .ref (ar 5), .ref (ar 6), .int 1, .int 0, .int 0, .ref (ar 7), .ref (ar 8), .int 0, .int 0, .ref (ar 9), .ref (ar 10), .ref (ar 11), .ref (ar 12), .ref (ar 13), .ref (ar 14), .ref (ar 15), .int 0, .int 0, .int 0, .int 0, .ref (ar 16), .ref (ar 17), .int 0, .int 0, .int 0, .int 0, .int (nI C), .int (nI Rr), .ref (ar 18), .float 0x3f800000, .ref (ar 19), .ref (ar 20), .ref (ar 21), .int 0, .ref (ar 22), .ref (ar 23), .ref (ar 24)]))] t) A) (by decide +kernel) (Nat.le_of_ble_eq_true rfl) (fun p e s m args below meth c A ls F hr hlocks hnm hK hP hD hS hA hN hE hl => ?_)
  obtain ⟨hx, hb, hml, hown, hts⟩ := id F
  have hin := hnm
  have hl : lv_has ls 3 [(0, .ref h0), (1, .int p0), (2, .int p1)] := hl
  refine lv_aload_n hx hb d_Mo_pixel_0 rfl (lv_at hl 0 rfl) ?_
  refine lv_iconst (v := 0) hx hb d_Mo_pixel_1 (by decide) ?_
  refine va_put (D := D) (ci := 11) (v := .int 0) (ty := .int) (C := "PageScribeModel") (T := F_Mo) (N := 45) hx hb hts i_Mo t_Mo t_Mo_ok n_Mo hown hK hP hD hS 0 rfl rfl 0 (by decide) (hts _ k_6_160) (fun _ h9 => h9) rfl (by decide +kernel) rfl rfl (Nat.le_of_ble_eq_true rfl) d_Mo_pixel_2 (fun H locs hP hD hS => ?_)
  have hP : va_P D classes [(h0, .inr (11, [.int 0, .ref (ar 0), .ref (ar 1), .ref (ar 2), .int 0, .int 0, .ref (ar 3), .ref (ar 4), .ref (ar 5), .ref (ar 6), .int 1, .int 0, .int 0, .ref (ar 7), .ref (ar 8), .int 0, .int 0, .ref (ar 9), .ref (ar 10), .ref (ar 11), .ref (ar 12), .ref (ar 13), .ref (ar 14), .ref (ar 15), .int 0, .int 0, .int 0, .int 0, .ref (ar 16), .ref (ar 17), .int 0, .int 0, .int 0, .int 0, .int (nI C), .int (nI Rr), .ref (ar 18), .float 0x3f800000, .ref (ar 19), .ref (ar 20), .ref (ar 21), .int 0, .ref (ar 22), .ref (ar 23), .ref (ar 24)])), ((ar 18), .inl (T 0, 384, .inl zI))] H := hP
  have hD : va_D A [(h0, .inr (11, [.int 0, .ref (ar 0), .ref (ar 1), .ref (ar 2), .int 0, .int 0, .ref (ar 3), .ref (ar 4), .ref (ar 5), .ref (ar 6), .int 1, .int 0, .int 0, .ref (ar 7), .ref (ar 8), .int 0, .int 0, .ref (ar 9), .ref (ar 10), .ref (ar 11), .ref (ar 12), .ref (ar 13), .ref (ar 14), .ref (ar 15), .int 0, .int 0, .int 0, .int 0, .ref (ar 16), .ref (ar 17), .int 0, .int 0, .int 0, .int 0, .int (nI C), .int (nI Rr), .ref (ar 18), .float 0x3f800000, .ref (ar 19), .ref (ar 20), .ref (ar 21), .int 0, .ref (ar 22), .ref (ar 23), .ref (ar 24)])), ((ar 18), .inl (T 0, 384, .inl zI))] := hD
  refine lv_iload_n hx hb d_Mo_pixel_5 rfl (lv_at hl 1 rfl) ?_
  refine lv_if_lt (tgt := 29) hx hb d_Mo_pixel_6 (by decide) (fun c_6 => ?_) (fun c_6 => ?_)
  · refine lv_iconst (v := (-1)) hx hb d_Mo_pixel_29 (by decide) ?_
    refine lv_goto (tgt := 44) hx hb d_Mo_pixel_30 (by decide) ?_
    have hP9 := hP.sub (ws' := [(h0, .inr (11, [.int 0, .ref (ar 0), .ref (ar 1), .ref (ar 2), .int 0, .int 0, .ref (ar 3), .ref (ar 4), .ref (ar 5), .ref (ar 6), .int 1, .int 0, .int 0, .ref (ar 7), .ref (ar 8), .int 0, .int 0, .ref (ar 9), .ref (ar 10), .ref (ar 11), .ref (ar 12), .ref (ar 13), .ref (ar 14), .ref (ar 15), .int 0, .int 0, .int 0, .int 0, .ref (ar 16), .ref (ar 17), .int 0, .int 0, .int 0, .int 0, .int (nI C), .int (nI Rr), .ref (ar 18), .float 0x3f800000, .ref (ar 19), .ref (ar 20), .ref (ar 21), .int 0, .ref (ar 22), .ref (ar 23), .ref (ar 24)]))]) [0] rfl
    have hD9 := hD.sub (ws' := [(h0, .inr (11, [.int 0, .ref (ar 0), .ref (ar 1), .ref (ar 2), .int 0, .int 0, .ref (ar 3), .ref (ar 4), .ref (ar 5), .ref (ar 6), .int 1, .int 0, .int 0, .ref (ar 7), .ref (ar 8), .int 0, .int 0, .ref (ar 9), .ref (ar 10), .ref (ar 11), .ref (ar 12), .ref (ar 13), .ref (ar 14), .ref (ar 15), .int 0, .int 0, .int 0, .int 0, .ref (ar 16), .ref (ar 17), .int 0, .int 0, .int 0, .int 0, .int (nI C), .int (nI Rr), .ref (ar 18), .float 0x3f800000, .ref (ar 19), .ref (ar 20), .ref (ar 21), .int 0, .ref (ar 22), .ref (ar 23), .ref (ar 24)]))]) [0] (by decide) rfl
    refine W.widen (k := 0) (n := 0) (Nat.le_of_ble_eq_true rfl) (Nat.le_of_ble_eq_true rfl) ?_
    exact j_iret F hr hlocks hK hS () (by first | exact (pixOf_out (Or.inl c_6)).symm | exact (pixOf_out (Or.inr (Or.inl c_14))).symm | exact (pixOf_out (Or.inr (Or.inr (Or.inl c_18)))).symm | exact (pixOf_out (Or.inr (Or.inr (Or.inr (Int32.not_lt.mp c_26))))).symm | exact (pixOf_in c_6 c_14 c_18 (fun q => absurd c_26 (Int32.not_lt.mpr q))).symm) hP9 hD9 d_Mo_pixel_44
  · refine lv_iload_n hx hb d_Mo_pixel_9 rfl (lv_at hl 1 rfl) ?_
    refine lv_aload_n hx hb d_Mo_pixel_10 rfl (lv_at hl 0 rfl) ?_
    refine va_get (D := D) (ci := 11) (v := .int (nI C)) (C := "PageScribeModel") (T := F_Mo) (N := 45) hx hb hts i_Mo hown hK hP 0 rfl rfl 34 (by decide) (hts _ k_6_194) (fun _ h9 => h9) rfl d_Mo_pixel_11 ?_
    refine lv_icmp_ge (tgt := 29) hx hb d_Mo_pixel_14 (by decide) (fun c_14 => ?_) (fun c_14 => ?_)
    · refine lv_iconst (v := (-1)) hx hb d_Mo_pixel_29 (by decide) ?_
      refine lv_goto (tgt := 44) hx hb d_Mo_pixel_30 (by decide) ?_
      have hP9 := hP.sub (ws' := [(h0, .inr (11, [.int 0, .ref (ar 0), .ref (ar 1), .ref (ar 2), .int 0, .int 0, .ref (ar 3), .ref (ar 4), .ref (ar 5), .ref (ar 6), .int 1, .int 0, .int 0, .ref (ar 7), .ref (ar 8), .int 0, .int 0, .ref (ar 9), .ref (ar 10), .ref (ar 11), .ref (ar 12), .ref (ar 13), .ref (ar 14), .ref (ar 15), .int 0, .int 0, .int 0, .int 0, .ref (ar 16), .ref (ar 17), .int 0, .int 0, .int 0, .int 0, .int (nI C), .int (nI Rr), .ref (ar 18), .float 0x3f800000, .ref (ar 19), .ref (ar 20), .ref (ar 21), .int 0, .ref (ar 22), .ref (ar 23), .ref (ar 24)]))]) [0] rfl
      have hD9 := hD.sub (ws' := [(h0, .inr (11, [.int 0, .ref (ar 0), .ref (ar 1), .ref (ar 2), .int 0, .int 0, .ref (ar 3), .ref (ar 4), .ref (ar 5), .ref (ar 6), .int 1, .int 0, .int 0, .ref (ar 7), .ref (ar 8), .int 0, .int 0, .ref (ar 9), .ref (ar 10), .ref (ar 11), .ref (ar 12), .ref (ar 13), .ref (ar 14), .ref (ar 15), .int 0, .int 0, .int 0, .int 0, .ref (ar 16), .ref (ar 17), .int 0, .int 0, .int 0, .int 0, .int (nI C), .int (nI Rr), .ref (ar 18), .float 0x3f800000, .ref (ar 19), .ref (ar 20), .ref (ar 21), .int 0, .ref (ar 22), .ref (ar 23), .ref (ar 24)]))]) [0] (by decide) rfl
      refine W.widen (k := 0) (n := 0) (Nat.le_of_ble_eq_true rfl) (Nat.le_of_ble_eq_true rfl) ?_
      exact j_iret F hr hlocks hK hS () (by first | exact (pixOf_out (Or.inl c_6)).symm | exact (pixOf_out (Or.inr (Or.inl c_14))).symm | exact (pixOf_out (Or.inr (Or.inr (Or.inl c_18)))).symm | exact (pixOf_out (Or.inr (Or.inr (Or.inr (Int32.not_lt.mp c_26))))).symm | exact (pixOf_in c_6 c_14 c_18 (fun q => absurd c_26 (Int32.not_lt.mpr q))).symm) hP9 hD9 d_Mo_pixel_44
    · refine lv_iload_n hx hb d_Mo_pixel_17 rfl (lv_at hl 2 rfl) ?_
      refine lv_if_lt (tgt := 29) hx hb d_Mo_pixel_18 (by decide) (fun c_18 => ?_) (fun c_18 => ?_)
      · refine lv_iconst (v := (-1)) hx hb d_Mo_pixel_29 (by decide) ?_
        refine lv_goto (tgt := 44) hx hb d_Mo_pixel_30 (by decide) ?_
        have hP9 := hP.sub (ws' := [(h0, .inr (11, [.int 0, .ref (ar 0), .ref (ar 1), .ref (ar 2), .int 0, .int 0, .ref (ar 3), .ref (ar 4), .ref (ar 5), .ref (ar 6), .int 1, .int 0, .int 0, .ref (ar 7), .ref (ar 8), .int 0, .int 0, .ref (ar 9), .ref (ar 10), .ref (ar 11), .ref (ar 12), .ref (ar 13), .ref (ar 14), .ref (ar 15), .int 0, .int 0, .int 0, .int 0, .ref (ar 16), .ref (ar 17), .int 0, .int 0, .int 0, .int 0, .int (nI C), .int (nI Rr), .ref (ar 18), .float 0x3f800000, .ref (ar 19), .ref (ar 20), .ref (ar 21), .int 0, .ref (ar 22), .ref (ar 23), .ref (ar 24)]))]) [0] rfl
        have hD9 := hD.sub (ws' := [(h0, .inr (11, [.int 0, .ref (ar 0), .ref (ar 1), .ref (ar 2), .int 0, .int 0, .ref (ar 3), .ref (ar 4), .ref (ar 5), .ref (ar 6), .int 1, .int 0, .int 0, .ref (ar 7), .ref (ar 8), .int 0, .int 0, .ref (ar 9), .ref (ar 10), .ref (ar 11), .ref (ar 12), .ref (ar 13), .ref (ar 14), .ref (ar 15), .int 0, .int 0, .int 0, .int 0, .ref (ar 16), .ref (ar 17), .int 0, .int 0, .int 0, .int 0, .int (nI C), .int (nI Rr), .ref (ar 18), .float 0x3f800000, .ref (ar 19), .ref (ar 20), .ref (ar 21), .int 0, .ref (ar 22), .ref (ar 23), .ref (ar 24)]))]) [0] (by decide) rfl
        refine W.widen (k := 0) (n := 0) (Nat.le_of_ble_eq_true rfl) (Nat.le_of_ble_eq_true rfl) ?_
        exact j_iret F hr hlocks hK hS () (by first | exact (pixOf_out (Or.inl c_6)).symm | exact (pixOf_out (Or.inr (Or.inl c_14))).symm | exact (pixOf_out (Or.inr (Or.inr (Or.inl c_18)))).symm | exact (pixOf_out (Or.inr (Or.inr (Or.inr (Int32.not_lt.mp c_26))))).symm | exact (pixOf_in c_6 c_14 c_18 (fun q => absurd c_26 (Int32.not_lt.mpr q))).symm) hP9 hD9 d_Mo_pixel_44
      · refine lv_iload_n hx hb d_Mo_pixel_21 rfl (lv_at hl 2 rfl) ?_
        refine lv_aload_n hx hb d_Mo_pixel_22 rfl (lv_at hl 0 rfl) ?_
        refine va_get (D := D) (ci := 11) (v := .int (nI Rr)) (C := "PageScribeModel") (T := F_Mo) (N := 45) hx hb hts i_Mo hown hK hP 0 rfl rfl 35 (by decide) (hts _ k_6_195) (fun _ h9 => h9) rfl d_Mo_pixel_23 ?_
        refine lv_icmp_lt (tgt := 33) hx hb d_Mo_pixel_26 (by decide) (fun c_26 => ?_) (fun c_26 => ?_)
        · obtain ⟨i, hi, rfl⟩ := nI_of c_6
          obtain ⟨j, hj, rfl⟩ := nI_of c_18
          have hi2 : i < C := by
            rcases Nat.lt_or_ge i C with q | q
            · exact q
            · exact absurd (nI_le q hi) c_14
          have hj2 : j < Rr := by
            rcases Nat.lt_or_ge j Rr with q | q
            · exact q
            · exact absurd c_26 (nI_nlt q hj)
          refine lv_aload_n hx hb d_Mo_pixel_33 rfl (lv_at hl 0 rfl) ?_
          refine va_get (D := D) (ci := 11) (v := .ref (ar 18)) (C := "PageScribeModel") (T := F_Mo) (N := 45) hx hb hts i_Mo hown hK hP 0 rfl rfl 36 (by decide) (hts _ k_6_196) (fun _ h9 => h9) rfl d_Mo_pixel_34 ?_
          refine lv_bipush (v := 24) hx hb d_Mo_pixel_37 (by decide) ?_
          refine lv_iload_n hx hb d_Mo_pixel_39 rfl (lv_at hl 2 rfl) ?_
          refine lv_imul hx hb d_Mo_pixel_40 ?_
          refine j_eqi (y := (nI (24 * j))) (pk_mul 24 j) ?_
          refine lv_iload_n hx hb d_Mo_pixel_41 rfl (lv_at hl 1 rfl) ?_
          refine lv_iadd hx hb d_Mo_pixel_42 ?_
          refine j_eqi (y := (nI (24 * j + i))) (nI_add (24 * j) i) ?_
          refine va_iald hx hb hK hP 1 0 rfl rfl (vp_in_nI (n := 24 * j + i) (N := 384) (by omega) (by omega)) d_Mo_pixel_43 ?_
          refine j_eqi (y := 0) rfl ?_
          have hP9 := hP.sub (ws' := [(h0, .inr (11, [.int 0, .ref (ar 0), .ref (ar 1), .ref (ar 2), .int 0, .int 0, .ref (ar 3), .ref (ar 4), .ref (ar 5), .ref (ar 6), .int 1, .int 0, .int 0, .ref (ar 7), .ref (ar 8), .int 0, .int 0, .ref (ar 9), .ref (ar 10), .ref (ar 11), .ref (ar 12), .ref (ar 13), .ref (ar 14), .ref (ar 15), .int 0, .int 0, .int 0, .int 0, .ref (ar 16), .ref (ar 17), .int 0, .int 0, .int 0, .int 0, .int (nI C), .int (nI Rr), .ref (ar 18), .float 0x3f800000, .ref (ar 19), .ref (ar 20), .ref (ar 21), .int 0, .ref (ar 22), .ref (ar 23), .ref (ar 24)]))]) [0] rfl
          have hD9 := hD.sub (ws' := [(h0, .inr (11, [.int 0, .ref (ar 0), .ref (ar 1), .ref (ar 2), .int 0, .int 0, .ref (ar 3), .ref (ar 4), .ref (ar 5), .ref (ar 6), .int 1, .int 0, .int 0, .ref (ar 7), .ref (ar 8), .int 0, .int 0, .ref (ar 9), .ref (ar 10), .ref (ar 11), .ref (ar 12), .ref (ar 13), .ref (ar 14), .ref (ar 15), .int 0, .int 0, .int 0, .int 0, .ref (ar 16), .ref (ar 17), .int 0, .int 0, .int 0, .int 0, .int (nI C), .int (nI Rr), .ref (ar 18), .float 0x3f800000, .ref (ar 19), .ref (ar 20), .ref (ar 21), .int 0, .ref (ar 22), .ref (ar 23), .ref (ar 24)]))]) [0] (by decide) rfl
          refine W.widen (k := 0) (n := 0) (Nat.le_of_ble_eq_true rfl) (Nat.le_of_ble_eq_true rfl) ?_
          exact j_iret F hr hlocks hK hS () (by first | exact (pixOf_out (Or.inl c_6)).symm | exact (pixOf_out (Or.inr (Or.inl c_14))).symm | exact (pixOf_out (Or.inr (Or.inr (Or.inl c_18)))).symm | exact (pixOf_out (Or.inr (Or.inr (Or.inr (Int32.not_lt.mp c_26))))).symm | exact (pixOf_in c_6 c_14 c_18 (fun q => absurd c_26 (Int32.not_lt.mpr q))).symm) hP9 hD9 d_Mo_pixel_44
        · refine lv_iconst (v := (-1)) hx hb d_Mo_pixel_29 (by decide) ?_
          refine lv_goto (tgt := 44) hx hb d_Mo_pixel_30 (by decide) ?_
          have hP9 := hP.sub (ws' := [(h0, .inr (11, [.int 0, .ref (ar 0), .ref (ar 1), .ref (ar 2), .int 0, .int 0, .ref (ar 3), .ref (ar 4), .ref (ar 5), .ref (ar 6), .int 1, .int 0, .int 0, .ref (ar 7), .ref (ar 8), .int 0, .int 0, .ref (ar 9), .ref (ar 10), .ref (ar 11), .ref (ar 12), .ref (ar 13), .ref (ar 14), .ref (ar 15), .int 0, .int 0, .int 0, .int 0, .ref (ar 16), .ref (ar 17), .int 0, .int 0, .int 0, .int 0, .int (nI C), .int (nI Rr), .ref (ar 18), .float 0x3f800000, .ref (ar 19), .ref (ar 20), .ref (ar 21), .int 0, .ref (ar 22), .ref (ar 23), .ref (ar 24)]))]) [0] rfl
          have hD9 := hD.sub (ws' := [(h0, .inr (11, [.int 0, .ref (ar 0), .ref (ar 1), .ref (ar 2), .int 0, .int 0, .ref (ar 3), .ref (ar 4), .ref (ar 5), .ref (ar 6), .int 1, .int 0, .int 0, .ref (ar 7), .ref (ar 8), .int 0, .int 0, .ref (ar 9), .ref (ar 10), .ref (ar 11), .ref (ar 12), .ref (ar 13), .ref (ar 14), .ref (ar 15), .int 0, .int 0, .int 0, .int 0, .ref (ar 16), .ref (ar 17), .int 0, .int 0, .int 0, .int 0, .int (nI C), .int (nI Rr), .ref (ar 18), .float 0x3f800000, .ref (ar 19), .ref (ar 20), .ref (ar 21), .int 0, .ref (ar 22), .ref (ar 23), .ref (ar 24)]))]) [0] (by decide) rfl
          refine W.widen (k := 0) (n := 0) (Nat.le_of_ble_eq_true rfl) (Nat.le_of_ble_eq_true rfl) ?_
          exact j_iret F hr hlocks hK hS () (by first | exact (pixOf_out (Or.inl c_6)).symm | exact (pixOf_out (Or.inr (Or.inl c_14))).symm | exact (pixOf_out (Or.inr (Or.inr (Or.inl c_18)))).symm | exact (pixOf_out (Or.inr (Or.inr (Or.inr (Int32.not_lt.mp c_26))))).symm | exact (pixOf_in c_6 c_14 c_18 (fun q => absurd c_26 (Int32.not_lt.mpr q))).symm) hP9 hD9 d_Mo_pixel_44
theorem d_Mo_page_0 : decode prog_15_method_86_code 0 = .ok (.aload_n 0, 1) := by decide +kernel
theorem d_Mo_page_1 : decode prog_15_method_86_code 1 = .ok (.iconst 0, 1) := by decide +kernel
theorem d_Mo_page_2 : decode prog_15_method_86_code 2 = .ok (.putfield 242, 3) := by decide +kernel
theorem d_Mo_page_5 : decode prog_15_method_86_code 5 = .ok (.iconst 0, 1) := by decide +kernel
theorem d_Mo_page_6 : decode prog_15_method_86_code 6 = .ok (.istore_n 1, 1) := by decide +kernel
theorem d_Mo_page_7 : decode prog_15_method_86_code 7 = .ok (.iconst 0, 1) := by decide +kernel
theorem d_Mo_page_8 : decode prog_15_method_86_code 8 = .ok (.istore_n 2, 1) := by decide +kernel
theorem d_Mo_page_9 : decode prog_15_method_86_code 9 = .ok (.iload_n 2, 1) := by decide +kernel
theorem d_Mo_page_10 : decode prog_15_method_86_code 10 = .ok (.sipush 384, 3) := by decide +kernel
theorem d_Mo_page_13 : decode prog_15_method_86_code 13 = .ok (.if_icmp .ge 33, 3) := by decide +kernel
theorem d_Mo_page_46 : decode prog_15_method_86_code 46 = .ok (.iload_n 1, 1) := by decide +kernel
theorem d_Mo_page_47 : decode prog_15_method_86_code 47 = .ok (.ireturn, 1) := by decide +kernel
theorem d_Mo_page_16 : decode prog_15_method_86_code 16 = .ok (.iload_n 1, 1) := by decide +kernel
theorem d_Mo_page_17 : decode prog_15_method_86_code 17 = .ok (.aload_n 0, 1) := by decide +kernel
theorem d_Mo_page_18 : decode prog_15_method_86_code 18 = .ok (.getfield 71, 3) := by decide +kernel
theorem d_Mo_page_21 : decode prog_15_method_86_code 21 = .ok (.iload_n 2, 1) := by decide +kernel
theorem d_Mo_page_22 : decode prog_15_method_86_code 22 = .ok (.iaload, 1) := by decide +kernel
theorem d_Mo_page_23 : decode prog_15_method_86_code 23 = .ok (.ifCond .le 7, 3) := by decide +kernel
theorem d_Mo_page_30 : decode prog_15_method_86_code 30 = .ok (.iconst 0, 1) := by decide +kernel
theorem d_Mo_page_31 : decode prog_15_method_86_code 31 = .ok (.iadd, 1) := by decide +kernel
theorem d_Mo_page_32 : decode prog_15_method_86_code 32 = .ok (.istore_n 1, 1) := by decide +kernel
theorem d_Mo_page_33 : decode prog_15_method_86_code 33 = .ok (.aload_n 0, 1) := by decide +kernel
theorem d_Mo_page_34 : decode prog_15_method_86_code 34 = .ok (.getfield 71, 3) := by decide +kernel
theorem d_Mo_page_37 : decode prog_15_method_86_code 37 = .ok (.iload_n 2, 1) := by decide +kernel
theorem d_Mo_page_38 : decode prog_15_method_86_code 38 = .ok (.iconst 0, 1) := by decide +kernel
theorem d_Mo_page_39 : decode prog_15_method_86_code 39 = .ok (.iastore, 1) := by decide +kernel
theorem d_Mo_page_40 : decode prog_15_method_86_code 40 = .ok (.iinc 2 1, 3) := by decide +kernel
theorem d_Mo_page_43 : decode prog_15_method_86_code 43 = .ok (.goto (-34), 3) := by decide +kernel
set_option maxHeartbeats 4000000 in
set_option maxRecDepth 100000 in
theorem c_Mo_page (l : Launch) (D : va_G) (T : Nat → ClassId) (h0 : Nat) (ar : (Nat → Nat)) (C : Nat) (Rr : Nat) (sz : Nat) : Met l ⟨"PageScribeModel", "page", "()I"⟩ (wy ⟨"PageScribeModel", "page", "()I"⟩ prog_15_method_86_code 3 (some .int)) ({ frames := 0, cells := 0, slots := 0, locals := 0 }) (va_Pc [.ref h0] (Pw D T [(h0, .inr (11, [.int 0, .ref (ar 0), .ref (ar 1), .ref (ar 2), .int 0, .int 0, .ref (ar 3), .ref (ar 4), .ref (ar 5), .ref (ar 6), .int 1, .int 0, .int 0, .ref (ar 7), .ref (ar 8), .int 0, .int 0, .ref (ar 9), .ref (ar 10), .ref (ar 11), .ref (ar 12), .ref (ar 13), .ref (ar 14), .ref (ar 15), .int 0, .int 0, .int 0, .int 0, .ref (ar 16), .ref (ar 17), .int 0, .int 0, .int 0, .int 0, .int (nI C), .int (nI Rr), .ref (ar 18), .float 0x3f800000, .ref (ar 19), .ref (ar 20), .ref (ar 21), .int 0, .ref (ar 22), .ref (ar 23), .ref (ar 24)])), ((ar 18), .inl (T 0, 384, .inl zI))] sz E0)) (va_Qi (fun (r : Int32) (u : Unit) => r = 0) (fun u t => Bw D T (va_A [(h0, .inr (11, [.int 0, .ref (ar 0), .ref (ar 1), .ref (ar 2), .int 0, .int 0, .ref (ar 3), .ref (ar 4), .ref (ar 5), .ref (ar 6), .int 1, .int 0, .int 0, .ref (ar 7), .ref (ar 8), .int 0, .int 0, .ref (ar 9), .ref (ar 10), .ref (ar 11), .ref (ar 12), .ref (ar 13), .ref (ar 14), .ref (ar 15), .int 0, .int 0, .int 0, .int 0, .ref (ar 16), .ref (ar 17), .int 0, .int 0, .int 0, .int 0, .int (nI C), .int (nI Rr), .ref (ar 18), .float 0x3f800000, .ref (ar 19), .ref (ar 20), .ref (ar 21), .int 0, .ref (ar 22), .ref (ar 23), .ref (ar 24)])), ((ar 18), .inl (T 0, 384, .inl zI))] sz) [(h0, .inr (11, [.int 0, .ref (ar 0), .ref (ar 1), .ref (ar 2), .int 0, .int 0, .ref (ar 3), .ref (ar 4), .ref (ar 5), .ref (ar 6), .int 1, .int 0, .int 0, .ref (ar 7), .ref (ar 8), .int 0, .int 0, .ref (ar 9), .ref (ar 10), .ref (ar 11), .ref (ar 12), .ref (ar 13), .ref (ar 14), .ref (ar 15), .int 0, .int 0, .int 0, .int 0, .ref (ar 16), .ref (ar 17), .int 0, .int 0, .int 0, .int 0, .int (nI C), .int (nI Rr), .ref (ar 18), .float 0x3f800000, .ref (ar 19), .ref (ar 20), .ref (ar 21), .int 0, .ref (ar 22), .ref (ar 23), .ref (ar 24)]))] t) (va_A [(h0, .inr (11, [.int 0, .ref (ar 0), .ref (ar 1), .ref (ar 2), .int 0, .int 0, .ref (ar 3), .ref (ar 4), .ref (ar 5), .ref (ar 6), .int 1, .int 0, .int 0, .ref (ar 7), .ref (ar 8), .int 0, .int 0, .ref (ar 9), .ref (ar 10), .ref (ar 11), .ref (ar 12), .ref (ar 13), .ref (ar 14), .ref (ar 15), .int 0, .int 0, .int 0, .int 0, .ref (ar 16), .ref (ar 17), .int 0, .int 0, .int 0, .int 0, .int (nI C), .int (nI Rr), .ref (ar 18), .float 0x3f800000, .ref (ar 19), .ref (ar 20), .ref (ar 21), .int 0, .ref (ar 22), .ref (ar 23), .ref (ar 24)])), ((ar 18), .inl (T 0, 384, .inl zI))] sz)) 0 0 (va_A [(h0, .inr (11, [.int 0, .ref (ar 0), .ref (ar 1), .ref (ar 2), .int 0, .int 0, .ref (ar 3), .ref (ar 4), .ref (ar 5), .ref (ar 6), .int 1, .int 0, .int 0, .ref (ar 7), .ref (ar 8), .int 0, .int 0, .ref (ar 9), .ref (ar 10), .ref (ar 11), .ref (ar 12), .ref (ar 13), .ref (ar 14), .ref (ar 15), .int 0, .int 0, .int 0, .int 0, .ref (ar 16), .ref (ar 17), .int 0, .int 0, .int 0, .int 0, .int (nI C), .int (nI Rr), .ref (ar 18), .float 0x3f800000, .ref (ar 19), .ref (ar 20), .ref (ar 21), .int 0, .ref (ar 22), .ref (ar 23), .ref (ar 24)])), ((ar 18), .inl (T 0, 384, .inl zI))] sz) := by
  refine j_met (y := ⟨"PageScribeModel", "page", "()I"⟩) (b := prog_15_method_86_code) (n := 3) (ret := (some .int)) (av := [.ref h0]) (Qc := fun A => va_Qi (fun (r : Int32) (u : Unit) => r = 0) (fun u t => Bw D T A [(h0, .inr (11, [.int 0, .ref (ar 0), .ref (ar 1), .ref (ar 2), .int 0, .int 0, .ref (ar 3), .ref (ar 4), .ref (ar 5), .ref (ar 6), .int 1, .int 0, .int 0, .ref (ar 7), .ref (ar 8), .int 0, .int 0, .ref (ar 9), .ref (ar 10), .ref (ar 11), .ref (ar 12), .ref (ar 13), .ref (ar 14), .ref (ar 15), .int 0, .int 0, .int 0, .int 0, .ref (ar 16), .ref (ar 17), .int 0, .int 0, .int 0, .int 0, .int (nI C), .int (nI Rr), .ref (ar 18), .float 0x3f800000, .ref (ar 19), .ref (ar 20), .ref (ar 21), .int 0, .ref (ar 22), .ref (ar 23), .ref (ar 24)]))] t) A) (by decide +kernel) (Nat.le_of_ble_eq_true rfl) (fun p e s m args below meth c A ls F hr hlocks hnm hK hP hD hS hA hN hE hl => ?_)
  obtain ⟨hx, hb, hml, hown, hts⟩ := id F
  have hin := hnm
  have hl : lv_has ls 3 [(0, .ref h0)] := hl
  refine lv_aload_n hx hb d_Mo_page_0 rfl (lv_at hl 0 rfl) ?_
  refine lv_iconst (v := 0) hx hb d_Mo_page_1 (by decide) ?_
  refine va_put (D := D) (ci := 11) (v := .int 0) (ty := .int) (C := "PageScribeModel") (T := F_Mo) (N := 45) hx hb hts i_Mo t_Mo t_Mo_ok n_Mo hown hK hP hD hS 0 rfl rfl 0 (by decide) (hts _ k_6_160) (fun _ h9 => h9) rfl (by decide +kernel) rfl rfl (Nat.le_of_ble_eq_true rfl) d_Mo_page_2 (fun H locs hP hD hS => ?_)
  have hP : va_P D classes [(h0, .inr (11, [.int 0, .ref (ar 0), .ref (ar 1), .ref (ar 2), .int 0, .int 0, .ref (ar 3), .ref (ar 4), .ref (ar 5), .ref (ar 6), .int 1, .int 0, .int 0, .ref (ar 7), .ref (ar 8), .int 0, .int 0, .ref (ar 9), .ref (ar 10), .ref (ar 11), .ref (ar 12), .ref (ar 13), .ref (ar 14), .ref (ar 15), .int 0, .int 0, .int 0, .int 0, .ref (ar 16), .ref (ar 17), .int 0, .int 0, .int 0, .int 0, .int (nI C), .int (nI Rr), .ref (ar 18), .float 0x3f800000, .ref (ar 19), .ref (ar 20), .ref (ar 21), .int 0, .ref (ar 22), .ref (ar 23), .ref (ar 24)])), ((ar 18), .inl (T 0, 384, .inl zI))] H := hP
  have hD : va_D A [(h0, .inr (11, [.int 0, .ref (ar 0), .ref (ar 1), .ref (ar 2), .int 0, .int 0, .ref (ar 3), .ref (ar 4), .ref (ar 5), .ref (ar 6), .int 1, .int 0, .int 0, .ref (ar 7), .ref (ar 8), .int 0, .int 0, .ref (ar 9), .ref (ar 10), .ref (ar 11), .ref (ar 12), .ref (ar 13), .ref (ar 14), .ref (ar 15), .int 0, .int 0, .int 0, .int 0, .ref (ar 16), .ref (ar 17), .int 0, .int 0, .int 0, .int 0, .int (nI C), .int (nI Rr), .ref (ar 18), .float 0x3f800000, .ref (ar 19), .ref (ar 20), .ref (ar 21), .int 0, .ref (ar 22), .ref (ar 23), .ref (ar 24)])), ((ar 18), .inl (T 0, 384, .inl zI))] := hD
  refine lv_iconst (v := 0) hx hb d_Mo_page_5 (by decide) ?_
  refine lv_istore_n (lv' := [(1, .int 0), (0, .ref h0)]) hx hb d_Mo_page_6 rfl hl (by decide) rfl (fun ls hl => ?_)
  refine lv_iconst (v := 0) hx hb d_Mo_page_7 (by decide) ?_
  refine lv_istore_n (lv' := [(2, .int 0), (1, .int 0), (0, .ref h0)]) hx hb d_Mo_page_8 rfl hl (by decide) rfl (fun ls hl => ?_)
  refine j_loop (α := Nat) (fun k x H locs ls => (x + k = 384) ∧ va_P D classes [(h0, .inr (11, [.int 0, .ref (ar 0), .ref (ar 1), .ref (ar 2), .int 0, .int 0, .ref (ar 3), .ref (ar 4), .ref (ar 5), .ref (ar 6), .int 1, .int 0, .int 0, .ref (ar 7), .ref (ar 8), .int 0, .int 0, .ref (ar 9), .ref (ar 10), .ref (ar 11), .ref (ar 12), .ref (ar 13), .ref (ar 14), .ref (ar 15), .int 0, .int 0, .int 0, .int 0, .ref (ar 16), .ref (ar 17), .int 0, .int 0, .int 0, .int 0, .int (nI C), .int (nI Rr), .ref (ar 18), .float 0x3f800000, .ref (ar 19), .ref (ar 20), .ref (ar 21), .int 0, .ref (ar 22), .ref (ar 23), .ref (ar 24)])), ((ar 18), .inl (T 0, 384, .inl zI))] H ∧ va_D A [(h0, .inr (11, [.int 0, .ref (ar 0), .ref (ar 1), .ref (ar 2), .int 0, .int 0, .ref (ar 3), .ref (ar 4), .ref (ar 5), .ref (ar 6), .int 1, .int 0, .int 0, .ref (ar 7), .ref (ar 8), .int 0, .int 0, .ref (ar 9), .ref (ar 10), .ref (ar 11), .ref (ar 12), .ref (ar 13), .ref (ar 14), .ref (ar 15), .int 0, .int 0, .int 0, .int 0, .ref (ar 16), .ref (ar 17), .int 0, .int 0, .int 0, .int 0, .int (nI C), .int (nI Rr), .ref (ar 18), .float 0x3f800000, .ref (ar 19), .ref (ar 20), .ref (ar 21), .int 0, .ref (ar 22), .ref (ar 23), .ref (ar 24)])), ((ar 18), .inl (T 0, 384, .inl zI))] ∧ va_S A s.heap H locs ∧ lv_has ls 3 [(0, .ref h0), (1, .int 0), (2, .int (nI x))]) (fun _ _ ls => F0 m 9 ls []) (fun k x H locs ls hI ih => ?_) 384 0 _ _ _ ⟨(by omega), hP.sub [0, 1] rfl, hD.sub [0, 1] (by decide) rfl, hS, lv_sub hl [2, 1, 0] rfl⟩
  obtain ⟨i, rfl⟩ : ∃ z, z = x := ⟨_, rfl⟩
  obtain ⟨hk, hP, hD, hS, hl⟩ := hI
  have hP : va_P D classes [(h0, .inr (11, [.int 0, .ref (ar 0), .ref (ar 1), .ref (ar 2), .int 0, .int 0, .ref (ar 3), .ref (ar 4), .ref (ar 5), .ref (ar 6), .int 1, .int 0, .int 0, .ref (ar 7), .ref (ar 8), .int 0, .int 0, .ref (ar 9), .ref (ar 10), .ref (ar 11), .ref (ar 12), .ref (ar 13), .ref (ar 14), .ref (ar 15), .int 0, .int 0, .int 0, .int 0, .ref (ar 16), .ref (ar 17), .int 0, .int 0, .int 0, .int 0, .int (nI C), .int (nI Rr), .ref (ar 18), .float 0x3f800000, .ref (ar 19), .ref (ar 20), .ref (ar 21), .int 0, .ref (ar 22), .ref (ar 23), .ref (ar 24)])), ((ar 18), .inl (T 0, 384, .inl zI))] H := hP
  have hD : va_D A [(h0, .inr (11, [.int 0, .ref (ar 0), .ref (ar 1), .ref (ar 2), .int 0, .int 0, .ref (ar 3), .ref (ar 4), .ref (ar 5), .ref (ar 6), .int 1, .int 0, .int 0, .ref (ar 7), .ref (ar 8), .int 0, .int 0, .ref (ar 9), .ref (ar 10), .ref (ar 11), .ref (ar 12), .ref (ar 13), .ref (ar 14), .ref (ar 15), .int 0, .int 0, .int 0, .int 0, .ref (ar 16), .ref (ar 17), .int 0, .int 0, .int 0, .int 0, .int (nI C), .int (nI Rr), .ref (ar 18), .float 0x3f800000, .ref (ar 19), .ref (ar 20), .ref (ar 21), .int 0, .ref (ar 22), .ref (ar 23), .ref (ar 24)])), ((ar 18), .inl (T 0, 384, .inl zI))] := hD
  have hl : lv_has ls 3 [(0, .ref h0), (1, .int 0), (2, .int (nI i))] := hl
  refine lv_iload_n hx hb d_Mo_page_9 rfl (lv_at hl 2 rfl) ?_
  refine lv_sipush (v := 384) hx hb d_Mo_page_10 (by decide) ?_
  refine lv_icmp_ge (tgt := 46) hx hb d_Mo_page_13 (by decide) (fun c_13 => ?_) (fun c_13 => ?_)
  · refine lv_iload_n hx hb d_Mo_page_46 rfl (lv_at hl 1 rfl) ?_
    have hP9 := hP.sub (ws' := [(h0, .inr (11, [.int 0, .ref (ar 0), .ref (ar 1), .ref (ar 2), .int 0, .int 0, .ref (ar 3), .ref (ar 4), .ref (ar 5), .ref (ar 6), .int 1, .int 0, .int 0, .ref (ar 7), .ref (ar 8), .int 0, .int 0, .ref (ar 9), .ref (ar 10), .ref (ar 11), .ref (ar 12), .ref (ar 13), .ref (ar 14), .ref (ar 15), .int 0, .int 0, .int 0, .int 0, .ref (ar 16), .ref (ar 17), .int 0, .int 0, .int 0, .int 0, .int (nI C), .int (nI Rr), .ref (ar 18), .float 0x3f800000, .ref (ar 19), .ref (ar 20), .ref (ar 21), .int 0, .ref (ar 22), .ref (ar 23), .ref (ar 24)]))]) [0] rfl
    have hD9 := hD.sub (ws' := [(h0, .inr (11, [.int 0, .ref (ar 0), .ref (ar 1), .ref (ar 2), .int 0, .int 0, .ref (ar 3), .ref (ar 4), .ref (ar 5), .ref (ar 6), .int 1, .int 0, .int 0, .ref (ar 7), .ref (ar 8), .int 0, .int 0, .ref (ar 9), .ref (ar 10), .ref (ar 11), .ref (ar 12), .ref (ar 13), .ref (ar 14), .ref (ar 15), .int 0, .int 0, .int 0, .int 0, .ref (ar 16), .ref (ar 17), .int 0, .int 0, .int 0, .int 0, .int (nI C), .int (nI Rr), .ref (ar 18), .float 0x3f800000, .ref (ar 19), .ref (ar 20), .ref (ar 21), .int 0, .ref (ar 22), .ref (ar 23), .ref (ar 24)]))]) [0] (by decide) rfl
    refine W.widen (k := 0) (n := 0) (Nat.le_of_ble_eq_true rfl) (Nat.le_of_ble_eq_true rfl) ?_
    exact j_iret F hr hlocks hK hS () rfl hP9 hD9 d_Mo_page_47
  · have hi : i < 384 := by
      rcases Nat.lt_or_ge i 384 with q | q
      · exact q
      · exact absurd (show nI 384 ≤ nI i from nI_le q (by omega)) c_13
    refine lv_iload_n hx hb d_Mo_page_16 rfl (lv_at hl 1 rfl) ?_
    refine lv_aload_n hx hb d_Mo_page_17 rfl (lv_at hl 0 rfl) ?_
    refine va_get (D := D) (ci := 11) (v := .ref (ar 18)) (C := "PageScribeModel") (T := F_Mo) (N := 45) hx hb hts i_Mo hown hK hP 0 rfl rfl 36 (by decide) (hts _ k_6_196) (fun _ h9 => h9) rfl d_Mo_page_18 ?_
    refine lv_iload_n hx hb d_Mo_page_21 rfl (lv_at hl 2 rfl) ?_
    refine va_iald hx hb hK hP 1 0 rfl rfl (vp_in_nI hi (by omega)) d_Mo_page_22 ?_
    refine j_eqi (y := 0) rfl ?_
    refine lv_if_le (tgt := 30) hx hb d_Mo_page_23 (by decide) (fun _ => ?_) (fun c9 => absurd c9 (by decide +kernel))
    refine lv_iconst (v := 0) hx hb d_Mo_page_30 (by decide) ?_
    refine lv_iadd hx hb d_Mo_page_31 ?_
    refine j_eqi (y := 0) (by decide +kernel) ?_
    refine lv_istore_n (lv' := [(1, .int 0), (0, .ref h0), (2, .int (nI i))]) hx hb d_Mo_page_32 rfl hl (by decide) rfl (fun ls hl => ?_)
    refine lv_aload_n hx hb d_Mo_page_33 rfl (lv_at hl 1 rfl) ?_
    refine va_get (D := D) (ci := 11) (v := .ref (ar 18)) (C := "PageScribeModel") (T := F_Mo) (N := 45) hx hb hts i_Mo hown hK hP 0 rfl rfl 36 (by decide) (hts _ k_6_196) (fun _ h9 => h9) rfl d_Mo_page_34 ?_
    refine lv_iload_n hx hb d_Mo_page_37 rfl (lv_at hl 2 rfl) ?_
    refine lv_iconst (v := 0) hx hb d_Mo_page_38 (by decide) ?_
    refine va_iast hx hb hK hP hD hS 1 0 rfl rfl (vp_in_nI hi (by omega)) d_Mo_page_39 (fun H locs hP hD hS => ?_)
    have hP : va_P D classes [(h0, .inr (11, [.int 0, .ref (ar 0), .ref (ar 1), .ref (ar 2), .int 0, .int 0, .ref (ar 3), .ref (ar 4), .ref (ar 5), .ref (ar 6), .int 1, .int 0, .int 0, .ref (ar 7), .ref (ar 8), .int 0, .int 0, .ref (ar 9), .ref (ar 10), .ref (ar 11), .ref (ar 12), .ref (ar 13), .ref (ar 14), .ref (ar 15), .int 0, .int 0, .int 0, .int 0, .ref (ar 16), .ref (ar 17), .int 0, .int 0, .int 0, .int 0, .int (nI C), .int (nI Rr), .ref (ar 18), .float 0x3f800000, .ref (ar 19), .ref (ar 20), .ref (ar 21), .int 0, .ref (ar 22), .ref (ar 23), .ref (ar 24)])), ((ar 18), .inl (T 0, 384, .inl (upd zI (nI i).toNatClampNeg 0)))] H := hP
    have hD : va_D A [(h0, .inr (11, [.int 0, .ref (ar 0), .ref (ar 1), .ref (ar 2), .int 0, .int 0, .ref (ar 3), .ref (ar 4), .ref (ar 5), .ref (ar 6), .int 1, .int 0, .int 0, .ref (ar 7), .ref (ar 8), .int 0, .int 0, .ref (ar 9), .ref (ar 10), .ref (ar 11), .ref (ar 12), .ref (ar 13), .ref (ar 14), .ref (ar 15), .int 0, .int 0, .int 0, .int 0, .ref (ar 16), .ref (ar 17), .int 0, .int 0, .int 0, .int 0, .int (nI C), .int (nI Rr), .ref (ar 18), .float 0x3f800000, .ref (ar 19), .ref (ar 20), .ref (ar 21), .int 0, .ref (ar 22), .ref (ar 23), .ref (ar 24)])), ((ar 18), .inl (T 0, 384, .inl (upd zI (nI i).toNatClampNeg 0)))] := hD
    rw [zI_up] at hP hD
    have hP : va_P D classes [(h0, .inr (11, [.int 0, .ref (ar 0), .ref (ar 1), .ref (ar 2), .int 0, .int 0, .ref (ar 3), .ref (ar 4), .ref (ar 5), .ref (ar 6), .int 1, .int 0, .int 0, .ref (ar 7), .ref (ar 8), .int 0, .int 0, .ref (ar 9), .ref (ar 10), .ref (ar 11), .ref (ar 12), .ref (ar 13), .ref (ar 14), .ref (ar 15), .int 0, .int 0, .int 0, .int 0, .ref (ar 16), .ref (ar 17), .int 0, .int 0, .int 0, .int 0, .int (nI C), .int (nI Rr), .ref (ar 18), .float 0x3f800000, .ref (ar 19), .ref (ar 20), .ref (ar 21), .int 0, .ref (ar 22), .ref (ar 23), .ref (ar 24)])), ((ar 18), .inl (T 0, 384, .inl zI))] H := hP
    have hD : va_D A [(h0, .inr (11, [.int 0, .ref (ar 0), .ref (ar 1), .ref (ar 2), .int 0, .int 0, .ref (ar 3), .ref (ar 4), .ref (ar 5), .ref (ar 6), .int 1, .int 0, .int 0, .ref (ar 7), .ref (ar 8), .int 0, .int 0, .ref (ar 9), .ref (ar 10), .ref (ar 11), .ref (ar 12), .ref (ar 13), .ref (ar 14), .ref (ar 15), .int 0, .int 0, .int 0, .int 0, .ref (ar 16), .ref (ar 17), .int 0, .int 0, .int 0, .int 0, .int (nI C), .int (nI Rr), .ref (ar 18), .float 0x3f800000, .ref (ar 19), .ref (ar 20), .ref (ar 21), .int 0, .ref (ar 22), .ref (ar 23), .ref (ar 24)])), ((ar 18), .inl (T 0, 384, .inl zI))] := hD
    refine lv_iinc (v := (nI (i + 1))) (lv' := [(2, .int (nI (i + 1))), (1, .int 0), (0, .ref h0)]) hx hb d_Mo_page_40 hl (k := 2) rfl (nI_1 i) (by decide) rfl (fun ls hl => ?_)
    refine lv_goto (tgt := 9) hx hb d_Mo_page_43 (by decide) ?_
    exact ih (k - 1) (i + 1) _ _ _ (by omega) ⟨(by omega), hP.sub [0, 1] rfl, hD.sub [0, 1] (by decide) rfl, hS, lv_sub hl [2, 1, 0] rfl⟩
theorem d_Mo_token_0 : decode prog_15_method_27_code 0 = .ok (.aload_n 0, 1) := by decide +kernel
theorem d_Mo_token_1 : decode prog_15_method_27_code 1 = .ok (.iconst 0, 1) := by decide +kernel
theorem d_Mo_token_2 : decode prog_15_method_27_code 2 = .ok (.putfield 330, 3) := by decide +kernel
theorem k_6_187 : Cond.fieldLink "PageScribeModel" 330 "PageScribeModel" "level" "I" ∈ gw := gw_of (tb_6 (List.mem_of_getElem? (i := 187) (by decide +kernel))) (by decide +kernel)
theorem d_Mo_token_5 : decode prog_15_method_27_code 5 = .ok (.aload_n 0, 1) := by decide +kernel
theorem d_Mo_token_6 : decode prog_15_method_27_code 6 = .ok (.iconst 0, 1) := by decide +kernel
theorem d_Mo_token_7 : decode prog_15_method_27_code 7 = .ok (.putfield 333, 3) := by decide +kernel
theorem k_6_186 : Cond.fieldLink "PageScribeModel" 333 "PageScribeModel" "pending" "I" ∈ gw := gw_of (tb_6 (List.mem_of_getElem? (i := 186) (by decide +kernel))) (by decide +kernel)
theorem d_Mo_token_10 : decode prog_15_method_27_code 10 = .ok (.iconst 0, 1) := by decide +kernel
theorem d_Mo_token_11 : decode prog_15_method_27_code 11 = .ok (.istore_n 1, 1) := by decide +kernel
theorem d_Mo_token_12 : decode prog_15_method_27_code 12 = .ok (.iload_n 1, 1) := by decide +kernel
theorem d_Mo_token_13 : decode prog_15_method_27_code 13 = .ok (.sipush 300, 3) := by decide +kernel
theorem d_Mo_token_16 : decode prog_15_method_27_code 16 = .ok (.if_icmp .ge 196, 3) := by decide +kernel
theorem d_Mo_token_19 : decode prog_15_method_27_code 19 = .ok (.aload_n 0, 1) := by decide +kernel
theorem d_Mo_token_20 : decode prog_15_method_27_code 20 = .ok (.getfield 281, 3) := by decide +kernel
theorem k_6_185 : Cond.fieldLink "PageScribeModel" 281 "PageScribeModel" "at" "I" ∈ gw := gw_of (tb_6 (List.mem_of_getElem? (i := 185) (by decide +kernel))) (by decide +kernel)
theorem d_Mo_token_23 : decode prog_15_method_27_code 23 = .ok (.aload_n 0, 1) := by decide +kernel
theorem d_Mo_token_24 : decode prog_15_method_27_code 24 = .ok (.getfield 270, 3) := by decide +kernel
theorem d_Mo_token_27 : decode prog_15_method_27_code 27 = .ok (.if_icmp .ge 30, 3) := by decide +kernel
theorem d_Mo_token_57 : decode prog_15_method_27_code 57 = .ok (.aload_n 0, 1) := by decide +kernel
theorem d_Mo_token_58 : decode prog_15_method_27_code 58 = .ok (.getfield 281, 3) := by decide +kernel
theorem d_Mo_token_61 : decode prog_15_method_27_code 61 = .ok (.aload_n 0, 1) := by decide +kernel
theorem d_Mo_token_62 : decode prog_15_method_27_code 62 = .ok (.getfield 270, 3) := by decide +kernel
theorem d_Mo_token_65 : decode prog_15_method_27_code 65 = .ok (.if_icmp .ne 17, 3) := by decide +kernel
theorem d_Mo_token_68 : decode prog_15_method_27_code 68 = .ok (.aload_n 0, 1) := by decide +kernel
theorem d_Mo_token_69 : decode prog_15_method_27_code 69 = .ok (.getfield 330, 3) := by decide +kernel
theorem d_Mo_token_72 : decode prog_15_method_27_code 72 = .ok (.ifCond .ne 7, 3) := by decide +kernel
theorem d_Mo_token_75 : decode prog_15_method_27_code 75 = .ok (.iconst (-1), 1) := by decide +kernel
theorem d_Mo_token_76 : decode prog_15_method_27_code 76 = .ok (.goto 5, 3) := by decide +kernel
theorem d_Mo_token_81 : decode prog_15_method_27_code 81 = .ok (.ireturn, 1) := by decide +kernel
set_option maxHeartbeats 4000000 in
set_option maxRecDepth 100000 in
theorem c_Mo_token (l : Launch) (D : va_G) (T : Nat → ClassId) (h0 : Nat) (ar : (Nat → Nat)) (C : Nat) (Rr : Nat) (fu : Int32) (sz : Nat) : Met l ⟨"PageScribeModel", "token", "()I"⟩ (wy ⟨"PageScribeModel", "token", "()I"⟩ prog_15_method_27_code 3 (some .int)) ({ frames := 0, cells := 0, slots := 0, locals := 0 }) (va_Pc [.ref h0] (Pw D T [(h0, .inr (11, [.int 0, .ref (ar 0), .ref (ar 1), .ref (ar 2), .int 0, .int 0, .ref (ar 3), .ref (ar 4), .ref (ar 5), .ref (ar 6), .int 1, .int 0, .int 0, .ref (ar 7), .ref (ar 8), .int 0, .int 0, .ref (ar 9), .ref (ar 10), .ref (ar 11), .ref (ar 12), .ref (ar 13), .ref (ar 14), .ref (ar 15), .int 0, .int 0, .int 0, .int 0, .ref (ar 16), .ref (ar 17), .int 0, .int fu, .int 0, .int 0, .int (nI C), .int (nI Rr), .ref (ar 18), .float 0x3f800000, .ref (ar 19), .ref (ar 20), .ref (ar 21), .int 0, .ref (ar 22), .ref (ar 23), .ref (ar 24)]))] sz E0)) (va_Qi (fun (r : Int32) (u : Unit) => r = -1) (fun u t => Bw D T (va_A [(h0, .inr (11, [.int 0, .ref (ar 0), .ref (ar 1), .ref (ar 2), .int 0, .int 0, .ref (ar 3), .ref (ar 4), .ref (ar 5), .ref (ar 6), .int 1, .int 0, .int 0, .ref (ar 7), .ref (ar 8), .int 0, .int 0, .ref (ar 9), .ref (ar 10), .ref (ar 11), .ref (ar 12), .ref (ar 13), .ref (ar 14), .ref (ar 15), .int 0, .int 0, .int 0, .int 0, .ref (ar 16), .ref (ar 17), .int 0, .int fu, .int 0, .int 0, .int (nI C), .int (nI Rr), .ref (ar 18), .float 0x3f800000, .ref (ar 19), .ref (ar 20), .ref (ar 21), .int 0, .ref (ar 22), .ref (ar 23), .ref (ar 24)]))] sz) [(h0, .inr (11, [.int 0, .ref (ar 0), .ref (ar 1), .ref (ar 2), .int 0, .int 0, .ref (ar 3), .ref (ar 4), .ref (ar 5), .ref (ar 6), .int 1, .int 0, .int 0, .ref (ar 7), .ref (ar 8), .int 0, .int 0, .ref (ar 9), .ref (ar 10), .ref (ar 11), .ref (ar 12), .ref (ar 13), .ref (ar 14), .ref (ar 15), .int 0, .int 0, .int 0, .int 0, .ref (ar 16), .ref (ar 17), .int 0, .int fu, .int 0, .int 0, .int (nI C), .int (nI Rr), .ref (ar 18), .float 0x3f800000, .ref (ar 19), .ref (ar 20), .ref (ar 21), .int 0, .ref (ar 22), .ref (ar 23), .ref (ar 24)]))] t) (va_A [(h0, .inr (11, [.int 0, .ref (ar 0), .ref (ar 1), .ref (ar 2), .int 0, .int 0, .ref (ar 3), .ref (ar 4), .ref (ar 5), .ref (ar 6), .int 1, .int 0, .int 0, .ref (ar 7), .ref (ar 8), .int 0, .int 0, .ref (ar 9), .ref (ar 10), .ref (ar 11), .ref (ar 12), .ref (ar 13), .ref (ar 14), .ref (ar 15), .int 0, .int 0, .int 0, .int 0, .ref (ar 16), .ref (ar 17), .int 0, .int fu, .int 0, .int 0, .int (nI C), .int (nI Rr), .ref (ar 18), .float 0x3f800000, .ref (ar 19), .ref (ar 20), .ref (ar 21), .int 0, .ref (ar 22), .ref (ar 23), .ref (ar 24)]))] sz)) 0 0 (va_A [(h0, .inr (11, [.int 0, .ref (ar 0), .ref (ar 1), .ref (ar 2), .int 0, .int 0, .ref (ar 3), .ref (ar 4), .ref (ar 5), .ref (ar 6), .int 1, .int 0, .int 0, .ref (ar 7), .ref (ar 8), .int 0, .int 0, .ref (ar 9), .ref (ar 10), .ref (ar 11), .ref (ar 12), .ref (ar 13), .ref (ar 14), .ref (ar 15), .int 0, .int 0, .int 0, .int 0, .ref (ar 16), .ref (ar 17), .int 0, .int fu, .int 0, .int 0, .int (nI C), .int (nI Rr), .ref (ar 18), .float 0x3f800000, .ref (ar 19), .ref (ar 20), .ref (ar 21), .int 0, .ref (ar 22), .ref (ar 23), .ref (ar 24)]))] sz) := by
  refine j_met (y := ⟨"PageScribeModel", "token", "()I"⟩) (b := prog_15_method_27_code) (n := 3) (ret := (some .int)) (av := [.ref h0]) (Qc := fun A => va_Qi (fun (r : Int32) (u : Unit) => r = -1) (fun u t => Bw D T A [(h0, .inr (11, [.int 0, .ref (ar 0), .ref (ar 1), .ref (ar 2), .int 0, .int 0, .ref (ar 3), .ref (ar 4), .ref (ar 5), .ref (ar 6), .int 1, .int 0, .int 0, .ref (ar 7), .ref (ar 8), .int 0, .int 0, .ref (ar 9), .ref (ar 10), .ref (ar 11), .ref (ar 12), .ref (ar 13), .ref (ar 14), .ref (ar 15), .int 0, .int 0, .int 0, .int 0, .ref (ar 16), .ref (ar 17), .int 0, .int fu, .int 0, .int 0, .int (nI C), .int (nI Rr), .ref (ar 18), .float 0x3f800000, .ref (ar 19), .ref (ar 20), .ref (ar 21), .int 0, .ref (ar 22), .ref (ar 23), .ref (ar 24)]))] t) A) (by decide +kernel) (Nat.le_of_ble_eq_true rfl) (fun p e s m args below meth c A ls F hr hlocks hnm hK hP hD hS hA hN hE hl => ?_)
  obtain ⟨hx, hb, hml, hown, hts⟩ := id F
  have hin := hnm
  have hl : lv_has ls 3 [(0, .ref h0)] := hl
  refine lv_aload_n hx hb d_Mo_token_0 rfl (lv_at hl 0 rfl) ?_
  refine lv_iconst (v := 0) hx hb d_Mo_token_1 (by decide) ?_
  refine va_put (D := D) (ci := 11) (v := .int 0) (ty := .int) (C := "PageScribeModel") (T := F_Mo) (N := 45) hx hb hts i_Mo t_Mo t_Mo_ok n_Mo hown hK hP hD hS 0 rfl rfl 27 (by decide) (hts _ k_6_187) (fun _ h9 => h9) rfl (by decide +kernel) rfl rfl (Nat.le_of_ble_eq_true rfl) d_Mo_token_2 (fun H locs hP hD hS => ?_)
  have hP : va_P D classes [(h0, .inr (11, [.int 0, .ref (ar 0), .ref (ar 1), .ref (ar 2), .int 0, .int 0, .ref (ar 3), .ref (ar 4), .ref (ar 5), .ref (ar 6), .int 1, .int 0, .int 0, .ref (ar 7), .ref (ar 8), .int 0, .int 0, .ref (ar 9), .ref (ar 10), .ref (ar 11), .ref (ar 12), .ref (ar 13), .ref (ar 14), .ref (ar 15), .int 0, .int 0, .int 0, .int 0, .ref (ar 16), .ref (ar 17), .int 0, .int fu, .int 0, .int 0, .int (nI C), .int (nI Rr), .ref (ar 18), .float 0x3f800000, .ref (ar 19), .ref (ar 20), .ref (ar 21), .int 0, .ref (ar 22), .ref (ar 23), .ref (ar 24)]))] H := hP
  have hD : va_D A [(h0, .inr (11, [.int 0, .ref (ar 0), .ref (ar 1), .ref (ar 2), .int 0, .int 0, .ref (ar 3), .ref (ar 4), .ref (ar 5), .ref (ar 6), .int 1, .int 0, .int 0, .ref (ar 7), .ref (ar 8), .int 0, .int 0, .ref (ar 9), .ref (ar 10), .ref (ar 11), .ref (ar 12), .ref (ar 13), .ref (ar 14), .ref (ar 15), .int 0, .int 0, .int 0, .int 0, .ref (ar 16), .ref (ar 17), .int 0, .int fu, .int 0, .int 0, .int (nI C), .int (nI Rr), .ref (ar 18), .float 0x3f800000, .ref (ar 19), .ref (ar 20), .ref (ar 21), .int 0, .ref (ar 22), .ref (ar 23), .ref (ar 24)]))] := hD
  refine lv_aload_n hx hb d_Mo_token_5 rfl (lv_at hl 0 rfl) ?_
  refine lv_iconst (v := 0) hx hb d_Mo_token_6 (by decide) ?_
  refine va_put (D := D) (ci := 11) (v := .int 0) (ty := .int) (C := "PageScribeModel") (T := F_Mo) (N := 45) hx hb hts i_Mo t_Mo t_Mo_ok n_Mo hown hK hP hD hS 0 rfl rfl 26 (by decide) (hts _ k_6_186) (fun _ h9 => h9) rfl (by decide +kernel) rfl rfl (Nat.le_of_ble_eq_true rfl) d_Mo_token_7 (fun H locs hP hD hS => ?_)
  have hP : va_P D classes [(h0, .inr (11, [.int 0, .ref (ar 0), .ref (ar 1), .ref (ar 2), .int 0, .int 0, .ref (ar 3), .ref (ar 4), .ref (ar 5), .ref (ar 6), .int 1, .int 0, .int 0, .ref (ar 7), .ref (ar 8), .int 0, .int 0, .ref (ar 9), .ref (ar 10), .ref (ar 11), .ref (ar 12), .ref (ar 13), .ref (ar 14), .ref (ar 15), .int 0, .int 0, .int 0, .int 0, .ref (ar 16), .ref (ar 17), .int 0, .int fu, .int 0, .int 0, .int (nI C), .int (nI Rr), .ref (ar 18), .float 0x3f800000, .ref (ar 19), .ref (ar 20), .ref (ar 21), .int 0, .ref (ar 22), .ref (ar 23), .ref (ar 24)]))] H := hP
  have hD : va_D A [(h0, .inr (11, [.int 0, .ref (ar 0), .ref (ar 1), .ref (ar 2), .int 0, .int 0, .ref (ar 3), .ref (ar 4), .ref (ar 5), .ref (ar 6), .int 1, .int 0, .int 0, .ref (ar 7), .ref (ar 8), .int 0, .int 0, .ref (ar 9), .ref (ar 10), .ref (ar 11), .ref (ar 12), .ref (ar 13), .ref (ar 14), .ref (ar 15), .int 0, .int 0, .int 0, .int 0, .ref (ar 16), .ref (ar 17), .int 0, .int fu, .int 0, .int 0, .int (nI C), .int (nI Rr), .ref (ar 18), .float 0x3f800000, .ref (ar 19), .ref (ar 20), .ref (ar 21), .int 0, .ref (ar 22), .ref (ar 23), .ref (ar 24)]))] := hD
  refine lv_iconst (v := 0) hx hb d_Mo_token_10 (by decide) ?_
  refine lv_istore_n (lv' := [(1, .int 0), (0, .ref h0)]) hx hb d_Mo_token_11 rfl hl (by decide) rfl (fun ls hl => ?_)
  refine lv_iload_n hx hb d_Mo_token_12 rfl (lv_at hl 0 rfl) ?_
  refine lv_sipush (v := 300) hx hb d_Mo_token_13 (by decide) ?_
  refine lv_icmp_ge (tgt := 212) hx hb d_Mo_token_16 (by decide) (fun c9 => absurd c9 (by decide +kernel)) (fun _ => ?_)
  refine lv_aload_n hx hb d_Mo_token_19 rfl (lv_at hl 1 rfl) ?_
  refine va_get (D := D) (ci := 11) (v := .int 0) (C := "PageScribeModel") (T := F_Mo) (N := 45) hx hb hts i_Mo hown hK hP 0 rfl rfl 25 (by decide) (hts _ k_6_185) (fun _ h9 => h9) rfl d_Mo_token_20 ?_
  refine lv_aload_n hx hb d_Mo_token_23 rfl (lv_at hl 1 rfl) ?_
  refine va_get (D := D) (ci := 11) (v := .int 0) (C := "PageScribeModel") (T := F_Mo) (N := 45) hx hb hts i_Mo hown hK hP 0 rfl rfl 24 (by decide) (hts _ k_6_184) (fun _ h9 => h9) rfl d_Mo_token_24 ?_
  refine lv_icmp_ge (tgt := 57) hx hb d_Mo_token_27 (by decide) (fun _ => ?_) (fun c9 => absurd c9 (by decide +kernel))
  refine lv_aload_n hx hb d_Mo_token_57 rfl (lv_at hl 1 rfl) ?_
  refine va_get (D := D) (ci := 11) (v := .int 0) (C := "PageScribeModel") (T := F_Mo) (N := 45) hx hb hts i_Mo hown hK hP 0 rfl rfl 25 (by decide) (hts _ k_6_185) (fun _ h9 => h9) rfl d_Mo_token_58 ?_
  refine lv_aload_n hx hb d_Mo_token_61 rfl (lv_at hl 1 rfl) ?_
  refine va_get (D := D) (ci := 11) (v := .int 0) (C := "PageScribeModel") (T := F_Mo) (N := 45) hx hb hts i_Mo hown hK hP 0 rfl rfl 24 (by decide) (hts _ k_6_184) (fun _ h9 => h9) rfl d_Mo_token_62 ?_
  refine lv_icmp_ne (tgt := 82) hx hb d_Mo_token_65 (by decide) (fun c9 => absurd c9 (by decide +kernel)) (fun _ => ?_)
  refine lv_aload_n hx hb d_Mo_token_68 rfl (lv_at hl 1 rfl) ?_
  refine va_get (D := D) (ci := 11) (v := .int 0) (C := "PageScribeModel") (T := F_Mo) (N := 45) hx hb hts i_Mo hown hK hP 0 rfl rfl 27 (by decide) (hts _ k_6_187) (fun _ h9 => h9) rfl d_Mo_token_69 ?_
  refine lv_if_ne (tgt := 79) hx hb d_Mo_token_72 (by decide) (fun c9 => absurd c9 (by decide +kernel)) (fun _ => ?_)
  refine lv_iconst (v := (-1)) hx hb d_Mo_token_75 (by decide) ?_
  refine lv_goto (tgt := 81) hx hb d_Mo_token_76 (by decide) ?_
  have hP9 := hP.sub (ws' := [(h0, .inr (11, [.int 0, .ref (ar 0), .ref (ar 1), .ref (ar 2), .int 0, .int 0, .ref (ar 3), .ref (ar 4), .ref (ar 5), .ref (ar 6), .int 1, .int 0, .int 0, .ref (ar 7), .ref (ar 8), .int 0, .int 0, .ref (ar 9), .ref (ar 10), .ref (ar 11), .ref (ar 12), .ref (ar 13), .ref (ar 14), .ref (ar 15), .int 0, .int 0, .int 0, .int 0, .ref (ar 16), .ref (ar 17), .int 0, .int fu, .int 0, .int 0, .int (nI C), .int (nI Rr), .ref (ar 18), .float 0x3f800000, .ref (ar 19), .ref (ar 20), .ref (ar 21), .int 0, .ref (ar 22), .ref (ar 23), .ref (ar 24)]))]) [0] rfl
  have hD9 := hD.sub (ws' := [(h0, .inr (11, [.int 0, .ref (ar 0), .ref (ar 1), .ref (ar 2), .int 0, .int 0, .ref (ar 3), .ref (ar 4), .ref (ar 5), .ref (ar 6), .int 1, .int 0, .int 0, .ref (ar 7), .ref (ar 8), .int 0, .int 0, .ref (ar 9), .ref (ar 10), .ref (ar 11), .ref (ar 12), .ref (ar 13), .ref (ar 14), .ref (ar 15), .int 0, .int 0, .int 0, .int 0, .ref (ar 16), .ref (ar 17), .int 0, .int fu, .int 0, .int 0, .int (nI C), .int (nI Rr), .ref (ar 18), .float 0x3f800000, .ref (ar 19), .ref (ar 20), .ref (ar 21), .int 0, .ref (ar 22), .ref (ar 23), .ref (ar 24)]))]) [0] (by decide) rfl
  refine W.widen (k := 0) (n := 0) (Nat.le_of_ble_eq_true rfl) (Nat.le_of_ble_eq_true rfl) ?_
  exact j_iret F hr hlocks hK hS () rfl hP9 hD9 d_Mo_token_81
/-- whether a fuel is refused -/
def runT (p : Int32) : Int32 := if p < 1 ∨ 500 < p then 1 else 0
theorem d_Mo_run_0 : decode prog_15_method_38_code 0 = .ok (.aload_n 0, 1) := by decide +kernel
theorem d_Mo_run_1 : decode prog_15_method_38_code 1 = .ok (.iload_n 1, 1) := by decide +kernel
theorem d_Mo_run_2 : decode prog_15_method_38_code 2 = .ok (.iconst 1, 1) := by decide +kernel
theorem d_Mo_run_3 : decode prog_15_method_38_code 3 = .ok (.if_icmp .lt 10, 3) := by decide +kernel
theorem d_Mo_run_13 : decode prog_15_method_38_code 13 = .ok (.iconst 1, 1) := by decide +kernel
theorem d_Mo_run_14 : decode prog_15_method_38_code 14 = .ok (.goto 4, 3) := by decide +kernel
theorem d_Mo_run_18 : decode prog_15_method_38_code 18 = .ok (.putfield 242, 3) := by decide +kernel
theorem d_Mo_run_21 : decode prog_15_method_38_code 21 = .ok (.aload_n 0, 1) := by decide +kernel
theorem d_Mo_run_22 : decode prog_15_method_38_code 22 = .ok (.getfield 242, 3) := by decide +kernel
theorem d_Mo_run_25 : decode prog_15_method_38_code 25 = .ok (.ifCond .le 5, 3) := by decide +kernel
theorem d_Mo_run_28 : decode prog_15_method_38_code 28 = .ok (.iconst 0, 1) := by decide +kernel
theorem d_Mo_run_29 : decode prog_15_method_38_code 29 = .ok (.ireturn, 1) := by decide +kernel
theorem d_Mo_run_6 : decode prog_15_method_38_code 6 = .ok (.iload_n 1, 1) := by decide +kernel
theorem d_Mo_run_7 : decode prog_15_method_38_code 7 = .ok (.sipush 500, 3) := by decide +kernel
theorem d_Mo_run_10 : decode prog_15_method_38_code 10 = .ok (.if_icmp .le 7, 3) := by decide +kernel
theorem d_Mo_run_17 : decode prog_15_method_38_code 17 = .ok (.iconst 0, 1) := by decide +kernel
theorem d_Mo_run_30 : decode prog_15_method_38_code 30 = .ok (.aload_n 0, 1) := by decide +kernel
theorem d_Mo_run_31 : decode prog_15_method_38_code 31 = .ok (.iload_n 1, 1) := by decide +kernel
theorem d_Mo_run_32 : decode prog_15_method_38_code 32 = .ok (.putfield 359, 3) := by decide +kernel
theorem k_6_191 : Cond.fieldLink "PageScribeModel" 359 "PageScribeModel" "fuel" "I" ∈ gw := gw_of (tb_6 (List.mem_of_getElem? (i := 191) (by decide +kernel))) (by decide +kernel)
theorem d_Mo_run_35 : decode prog_15_method_38_code 35 = .ok (.aload_n 0, 1) := by decide +kernel
theorem d_Mo_run_36 : decode prog_15_method_38_code 36 = .ok (.iconst 0, 1) := by decide +kernel
theorem d_Mo_run_37 : decode prog_15_method_38_code 37 = .ok (.putfield 356, 3) := by decide +kernel
theorem d_Mo_run_40 : decode prog_15_method_38_code 40 = .ok (.aload_n 0, 1) := by decide +kernel
theorem d_Mo_run_41 : decode prog_15_method_38_code 41 = .ok (.iconst 0, 1) := by decide +kernel
theorem d_Mo_run_42 : decode prog_15_method_38_code 42 = .ok (.putfield 281, 3) := by decide +kernel
theorem d_Mo_run_45 : decode prog_15_method_38_code 45 = .ok (.iconst 0, 1) := by decide +kernel
theorem d_Mo_run_46 : decode prog_15_method_38_code 46 = .ok (.istore_n 2, 1) := by decide +kernel
theorem d_Mo_run_47 : decode prog_15_method_38_code 47 = .ok (.iconst 0, 1) := by decide +kernel
theorem d_Mo_run_48 : decode prog_15_method_38_code 48 = .ok (.istore_n 3, 1) := by decide +kernel
theorem d_Mo_run_49 : decode prog_15_method_38_code 49 = .ok (.iload_n 3, 1) := by decide +kernel
theorem d_Mo_run_50 : decode prog_15_method_38_code 50 = .ok (.sipush 130, 3) := by decide +kernel
theorem d_Mo_run_53 : decode prog_15_method_38_code 53 = .ok (.if_icmp .ge 40, 3) := by decide +kernel
theorem d_Mo_run_56 : decode prog_15_method_38_code 56 = .ok (.iload_n 2, 1) := by decide +kernel
theorem d_Mo_run_57 : decode prog_15_method_38_code 57 = .ok (.ifCond .ne 36, 3) := by decide +kernel
theorem d_Mo_run_60 : decode prog_15_method_38_code 60 = .ok (.aload_n 0, 1) := by decide +kernel
theorem d_Mo_run_61 : decode prog_15_method_38_code 61 = .ok (.invokevirtual 412, 3) := by decide +kernel
theorem k_7_68 : Cond.code ⟨"PageScribeModel", "token", "()I"⟩ prog_15_method_27_code 3 (some .int) ∈ gw := gw_of (tb_7 (List.mem_of_getElem? (i := 68) (by decide +kernel))) (by decide +kernel)
theorem k_1_12 : Cond.initialized "PageScribeModel" ∈ gw := gw_of (tb_1 (List.mem_of_getElem? (i := 12) (by decide +kernel))) (by decide +kernel)
theorem k_7_65 : Cond.methodLink "PageScribeModel" 412 ⟨"PageScribeModel", "token", "()I"⟩ ∈ gw := gw_of (tb_7 (List.mem_of_getElem? (i := 65) (by decide +kernel))) (by decide +kernel)
theorem k_7_67 : Cond.instanceMethod ⟨"PageScribeModel", "token", "()I"⟩ ∈ gw := gw_of (tb_7 (List.mem_of_getElem? (i := 67) (by decide +kernel))) (by decide +kernel)
theorem k_0_79 : Cond.selects "PageScribeModel" ⟨"PageScribeModel", "token", "()I"⟩ ⟨"PageScribeModel", "token", "()I"⟩ ∈ gw := gw_of (tb_0 (List.mem_of_getElem? (i := 79) (by decide +kernel))) (by decide +kernel)
theorem d_Mo_run_64 : decode prog_15_method_38_code 64 = .ok (.istore_n 2, 1) := by decide +kernel
theorem d_Mo_run_65 : decode prog_15_method_38_code 65 = .ok (.iload_n 2, 1) := by decide +kernel
theorem d_Mo_run_66 : decode prog_15_method_38_code 66 = .ok (.ifCond .ne 11, 3) := by decide +kernel
theorem d_Mo_run_77 : decode prog_15_method_38_code 77 = .ok (.iload_n 2, 1) := by decide +kernel
theorem d_Mo_run_78 : decode prog_15_method_38_code 78 = .ok (.iconst (-1), 1) := by decide +kernel
theorem d_Mo_run_79 : decode prog_15_method_38_code 79 = .ok (.if_icmp .eq 8, 3) := by decide +kernel
theorem d_Mo_run_87 : decode prog_15_method_38_code 87 = .ok (.iinc 3 1, 3) := by decide +kernel
theorem d_Mo_run_90 : decode prog_15_method_38_code 90 = .ok (.goto (-41), 3) := by decide +kernel
theorem d_Mo_run_93 : decode prog_15_method_38_code 93 = .ok (.aload_n 0, 1) := by decide +kernel
theorem d_Mo_run_94 : decode prog_15_method_38_code 94 = .ok (.iconst 0, 1) := by decide +kernel
theorem d_Mo_run_95 : decode prog_15_method_38_code 95 = .ok (.putfield 270, 3) := by decide +kernel
theorem d_Mo_run_98 : decode prog_15_method_38_code 98 = .ok (.iload_n 2, 1) := by decide +kernel
theorem d_Mo_run_99 : decode prog_15_method_38_code 99 = .ok (.iconst (-1), 1) := by decide +kernel
theorem d_Mo_run_100 : decode prog_15_method_38_code 100 = .ok (.if_icmp .ne 7, 3) := by decide +kernel
theorem d_Mo_run_103 : decode prog_15_method_38_code 103 = .ok (.iconst 0, 1) := by decide +kernel
theorem d_Mo_run_104 : decode prog_15_method_38_code 104 = .ok (.goto 4, 3) := by decide +kernel
theorem d_Mo_run_108 : decode prog_15_method_38_code 108 = .ok (.ireturn, 1) := by decide +kernel
set_option maxHeartbeats 4000000 in
set_option maxRecDepth 100000 in
theorem c_Mo_run (l : Launch) (D : va_G) (T : Nat → ClassId) (h0 : Nat) (ar : (Nat → Nat)) (C : Nat) (Rr : Nat) (p0 : Int32) (sz : Nat) : Met l ⟨"PageScribeModel", "run", "(I)I"⟩ (wy ⟨"PageScribeModel", "run", "(I)I"⟩ prog_15_method_38_code 4 (some .int)) ({ frames := 1, cells := 0, slots := 0, locals := 70 }) (va_Pc [.ref h0, .int p0] (Pw D T [(h0, .inr (11, [.int 0, .ref (ar 0), .ref (ar 1), .ref (ar 2), .int 0, .int 0, .ref (ar 3), .ref (ar 4), .ref (ar 5), .ref (ar 6), .int 1, .int 0, .int 0, .ref (ar 7), .ref (ar 8), .int 0, .int 0, .ref (ar 9), .ref (ar 10), .ref (ar 11), .ref (ar 12), .ref (ar 13), .ref (ar 14), .ref (ar 15), .int 0, .int 0, .int 0, .int 0, .ref (ar 16), .ref (ar 17), .int 0, .int 0, .int 0, .int 0, .int (nI C), .int (nI Rr), .ref (ar 18), .float 0x3f800000, .ref (ar 19), .ref (ar 20), .ref (ar 21), .int 0, .ref (ar 22), .ref (ar 23), .ref (ar 24)]))] sz E0)) (va_Qi (fun (r : Int32) (u : Int32 × Int32) => r = 0 ∧ u.1 = runT p0) (fun u t => Bw D T (va_A [(h0, .inr (11, [.int 0, .ref (ar 0), .ref (ar 1), .ref (ar 2), .int 0, .int 0, .ref (ar 3), .ref (ar 4), .ref (ar 5), .ref (ar 6), .int 1, .int 0, .int 0, .ref (ar 7), .ref (ar 8), .int 0, .int 0, .ref (ar 9), .ref (ar 10), .ref (ar 11), .ref (ar 12), .ref (ar 13), .ref (ar 14), .ref (ar 15), .int 0, .int 0, .int 0, .int 0, .ref (ar 16), .ref (ar 17), .int 0, .int 0, .int 0, .int 0, .int (nI C), .int (nI Rr), .ref (ar 18), .float 0x3f800000, .ref (ar 19), .ref (ar 20), .ref (ar 21), .int 0, .ref (ar 22), .ref (ar 23), .ref (ar 24)]))] sz) [(h0, .inr (11, [.int u.1, .ref (ar 0), .ref (ar 1), .ref (ar 2), .int 0, .int 0, .ref (ar 3), .ref (ar 4), .ref (ar 5), .ref (ar 6), .int 1, .int 0, .int 0, .ref (ar 7), .ref (ar 8), .int 0, .int 0, .ref (ar 9), .ref (ar 10), .ref (ar 11), .ref (ar 12), .ref (ar 13), .ref (ar 14), .ref (ar 15), .int 0, .int 0, .int 0, .int 0, .ref (ar 16), .ref (ar 17), .int 0, .int u.2, .int 0, .int 0, .int (nI C), .int (nI Rr), .ref (ar 18), .float 0x3f800000, .ref (ar 19), .ref (ar 20), .ref (ar 21), .int 0, .ref (ar 22), .ref (ar 23), .ref (ar 24)]))] t) (va_A [(h0, .inr (11, [.int 0, .ref (ar 0), .ref (ar 1), .ref (ar 2), .int 0, .int 0, .ref (ar 3), .ref (ar 4), .ref (ar 5), .ref (ar 6), .int 1, .int 0, .int 0, .ref (ar 7), .ref (ar 8), .int 0, .int 0, .ref (ar 9), .ref (ar 10), .ref (ar 11), .ref (ar 12), .ref (ar 13), .ref (ar 14), .ref (ar 15), .int 0, .int 0, .int 0, .int 0, .ref (ar 16), .ref (ar 17), .int 0, .int 0, .int 0, .int 0, .int (nI C), .int (nI Rr), .ref (ar 18), .float 0x3f800000, .ref (ar 19), .ref (ar 20), .ref (ar 21), .int 0, .ref (ar 22), .ref (ar 23), .ref (ar 24)]))] sz)) 0 0 (va_A [(h0, .inr (11, [.int 0, .ref (ar 0), .ref (ar 1), .ref (ar 2), .int 0, .int 0, .ref (ar 3), .ref (ar 4), .ref (ar 5), .ref (ar 6), .int 1, .int 0, .int 0, .ref (ar 7), .ref (ar 8), .int 0, .int 0, .ref (ar 9), .ref (ar 10), .ref (ar 11), .ref (ar 12), .ref (ar 13), .ref (ar 14), .ref (ar 15), .int 0, .int 0, .int 0, .int 0, .ref (ar 16), .ref (ar 17), .int 0, .int 0, .int 0, .int 0, .int (nI C), .int (nI Rr), .ref (ar 18), .float 0x3f800000, .ref (ar 19), .ref (ar 20), .ref (ar 21), .int 0, .ref (ar 22), .ref (ar 23), .ref (ar 24)]))] sz) := by
  refine j_met (y := ⟨"PageScribeModel", "run", "(I)I"⟩) (b := prog_15_method_38_code) (n := 4) (ret := (some .int)) (av := [.ref h0, .int p0]) (Qc := fun A => va_Qi (fun (r : Int32) (u : Int32 × Int32) => r = 0 ∧ u.1 = runT p0) (fun u t => Bw D T A [(h0, .inr (11, [.int u.1, .ref (ar 0), .ref (ar 1), .ref (ar 2), .int 0, .int 0, .ref (ar 3), .ref (ar 4), .ref (ar 5), .ref (ar 6), .int 1, .int 0, .int 0, .ref (ar 7), .ref (ar 8), .int 0, .int 0, .ref (ar 9), .ref (ar 10), .ref (ar 11), .ref (ar 12), .ref (ar 13), .ref (ar 14), .ref (ar 15), .int 0, .int 0, .int 0, .int 0, .ref (ar 16), .ref (ar 17), .int 0, .int u.2, .int 0, .int 0, .int (nI C), .int (nI Rr), .ref (ar 18), .float 0x3f800000, .ref (ar 19), .ref (ar 20), .ref (ar 21), .int 0, .ref (ar 22), .ref (ar 23), .ref (ar 24)]))] t) A) (by decide +kernel) (Nat.le_of_ble_eq_true rfl) (fun p e s m args below meth c A ls F hr hlocks hnm hK hP hD hS hA hN hE hl => ?_)
  obtain ⟨hx, hb, hml, hown, hts⟩ := id F
  have hin := hnm
  have hl : lv_has ls 4 [(0, .ref h0), (1, .int p0)] := hl
  refine lv_aload_n hx hb d_Mo_run_0 rfl (lv_at hl 0 rfl) ?_
  refine lv_iload_n hx hb d_Mo_run_1 rfl (lv_at hl 1 rfl) ?_
  refine lv_iconst (v := 1) hx hb d_Mo_run_2 (by decide) ?_
  refine lv_icmp_lt (tgt := 13) hx hb d_Mo_run_3 (by decide) (fun c_3 => ?_) (fun c_3 => ?_)
  · refine lv_iconst (v := 1) hx hb d_Mo_run_13 (by decide) ?_
    refine lv_goto (tgt := 18) hx hb d_Mo_run_14 (by decide) ?_
    refine va_put (D := D) (ci := 11) (v := .int 1) (ty := .int) (C := "PageScribeModel") (T := F_Mo) (N := 45) hx hb hts i_Mo t_Mo t_Mo_ok n_Mo hown hK hP hD hS 0 rfl rfl 0 (by decide) (hts _ k_6_160) (fun _ h9 => h9) rfl (by decide +kernel) rfl rfl (Nat.le_of_ble_eq_true rfl) d_Mo_run_18 (fun H locs hP hD hS => ?_)
    have hP : va_P D classes [(h0, .inr (11, [.int 1, .ref (ar 0), .ref (ar 1), .ref (ar 2), .int 0, .int 0, .ref (ar 3), .ref (ar 4), .ref (ar 5), .ref (ar 6), .int 1, .int 0, .int 0, .ref (ar 7), .ref (ar 8), .int 0, .int 0, .ref (ar 9), .ref (ar 10), .ref (ar 11), .ref (ar 12), .ref (ar 13), .ref (ar 14), .ref (ar 15), .int 0, .int 0, .int 0, .int 0, .ref (ar 16), .ref (ar 17), .int 0, .int 0, .int 0, .int 0, .int (nI C), .int (nI Rr), .ref (ar 18), .float 0x3f800000, .ref (ar 19), .ref (ar 20), .ref (ar 21), .int 0, .ref (ar 22), .ref (ar 23), .ref (ar 24)]))] H := hP
    have hD : va_D A [(h0, .inr (11, [.int 1, .ref (ar 0), .ref (ar 1), .ref (ar 2), .int 0, .int 0, .ref (ar 3), .ref (ar 4), .ref (ar 5), .ref (ar 6), .int 1, .int 0, .int 0, .ref (ar 7), .ref (ar 8), .int 0, .int 0, .ref (ar 9), .ref (ar 10), .ref (ar 11), .ref (ar 12), .ref (ar 13), .ref (ar 14), .ref (ar 15), .int 0, .int 0, .int 0, .int 0, .ref (ar 16), .ref (ar 17), .int 0, .int 0, .int 0, .int 0, .int (nI C), .int (nI Rr), .ref (ar 18), .float 0x3f800000, .ref (ar 19), .ref (ar 20), .ref (ar 21), .int 0, .ref (ar 22), .ref (ar 23), .ref (ar 24)]))] := hD
    refine lv_aload_n hx hb d_Mo_run_21 rfl (lv_at hl 0 rfl) ?_
    refine va_get (D := D) (ci := 11) (v := .int 1) (C := "PageScribeModel") (T := F_Mo) (N := 45) hx hb hts i_Mo hown hK hP 0 rfl rfl 0 (by decide) (hts _ k_6_160) (fun _ h9 => h9) rfl d_Mo_run_22 ?_
    refine lv_if_le (tgt := 30) hx hb d_Mo_run_25 (by decide) (fun c9 => absurd c9 (by decide +kernel)) (fun _ => ?_)
    refine lv_iconst (v := 0) hx hb d_Mo_run_28 (by decide) ?_
    have hP9 := hP.sub (ws' := [(h0, .inr (11, [.int 1, .ref (ar 0), .ref (ar 1), .ref (ar 2), .int 0, .int 0, .ref (ar 3), .ref (ar 4), .ref (ar 5), .ref (ar 6), .int 1, .int 0, .int 0, .ref (ar 7), .ref (ar 8), .int 0, .int 0, .ref (ar 9), .ref (ar 10), .ref (ar 11), .ref (ar 12), .ref (ar 13), .ref (ar 14), .ref (ar 15), .int 0, .int 0, .int 0, .int 0, .ref (ar 16), .ref (ar 17), .int 0, .int 0, .int 0, .int 0, .int (nI C), .int (nI Rr), .ref (ar 18), .float 0x3f800000, .ref (ar 19), .ref (ar 20), .ref (ar 21), .int 0, .ref (ar 22), .ref (ar 23), .ref (ar 24)]))]) [0] rfl
    have hD9 := hD.sub (ws' := [(h0, .inr (11, [.int 1, .ref (ar 0), .ref (ar 1), .ref (ar 2), .int 0, .int 0, .ref (ar 3), .ref (ar 4), .ref (ar 5), .ref (ar 6), .int 1, .int 0, .int 0, .ref (ar 7), .ref (ar 8), .int 0, .int 0, .ref (ar 9), .ref (ar 10), .ref (ar 11), .ref (ar 12), .ref (ar 13), .ref (ar 14), .ref (ar 15), .int 0, .int 0, .int 0, .int 0, .ref (ar 16), .ref (ar 17), .int 0, .int 0, .int 0, .int 0, .int (nI C), .int (nI Rr), .ref (ar 18), .float 0x3f800000, .ref (ar 19), .ref (ar 20), .ref (ar 21), .int 0, .ref (ar 22), .ref (ar 23), .ref (ar 24)]))]) [0] (by decide) rfl
    refine W.widen (k := 0) (n := 0) (Nat.le_of_ble_eq_true rfl) (Nat.le_of_ble_eq_true rfl) ?_
    exact j_iret F hr hlocks hK hS (1, 0) (by first | exact ⟨rfl, (if_pos (Or.inl c_3)).symm⟩ | exact ⟨rfl, (if_pos (Or.inr (Int32.not_le.mp c_10))).symm⟩ | exact ⟨rfl, (if_neg (fun q => q.elim (fun z => c_3 z) (fun z => absurd z (Int32.not_lt.mpr c_10)))).symm⟩) hP9 hD9 d_Mo_run_29
  · refine lv_iload_n hx hb d_Mo_run_6 rfl (lv_at hl 1 rfl) ?_
    refine lv_sipush (v := 500) hx hb d_Mo_run_7 (by decide) ?_
    refine lv_icmp_le (tgt := 17) hx hb d_Mo_run_10 (by decide) (fun c_10 => ?_) (fun c_10 => ?_)
    · refine lv_iconst (v := 0) hx hb d_Mo_run_17 (by decide) ?_
      refine va_put (D := D) (ci := 11) (v := .int 0) (ty := .int) (C := "PageScribeModel") (T := F_Mo) (N := 45) hx hb hts i_Mo t_Mo t_Mo_ok n_Mo hown hK hP hD hS 0 rfl rfl 0 (by decide) (hts _ k_6_160) (fun _ h9 => h9) rfl (by decide +kernel) rfl rfl (Nat.le_of_ble_eq_true rfl) d_Mo_run_18 (fun H locs hP hD hS => ?_)
      have hP : va_P D classes [(h0, .inr (11, [.int 0, .ref (ar 0), .ref (ar 1), .ref (ar 2), .int 0, .int 0, .ref (ar 3), .ref (ar 4), .ref (ar 5), .ref (ar 6), .int 1, .int 0, .int 0, .ref (ar 7), .ref (ar 8), .int 0, .int 0, .ref (ar 9), .ref (ar 10), .ref (ar 11), .ref (ar 12), .ref (ar 13), .ref (ar 14), .ref (ar 15), .int 0, .int 0, .int 0, .int 0, .ref (ar 16), .ref (ar 17), .int 0, .int 0, .int 0, .int 0, .int (nI C), .int (nI Rr), .ref (ar 18), .float 0x3f800000, .ref (ar 19), .ref (ar 20), .ref (ar 21), .int 0, .ref (ar 22), .ref (ar 23), .ref (ar 24)]))] H := hP
      have hD : va_D A [(h0, .inr (11, [.int 0, .ref (ar 0), .ref (ar 1), .ref (ar 2), .int 0, .int 0, .ref (ar 3), .ref (ar 4), .ref (ar 5), .ref (ar 6), .int 1, .int 0, .int 0, .ref (ar 7), .ref (ar 8), .int 0, .int 0, .ref (ar 9), .ref (ar 10), .ref (ar 11), .ref (ar 12), .ref (ar 13), .ref (ar 14), .ref (ar 15), .int 0, .int 0, .int 0, .int 0, .ref (ar 16), .ref (ar 17), .int 0, .int 0, .int 0, .int 0, .int (nI C), .int (nI Rr), .ref (ar 18), .float 0x3f800000, .ref (ar 19), .ref (ar 20), .ref (ar 21), .int 0, .ref (ar 22), .ref (ar 23), .ref (ar 24)]))] := hD
      refine lv_aload_n hx hb d_Mo_run_21 rfl (lv_at hl 0 rfl) ?_
      refine va_get (D := D) (ci := 11) (v := .int 0) (C := "PageScribeModel") (T := F_Mo) (N := 45) hx hb hts i_Mo hown hK hP 0 rfl rfl 0 (by decide) (hts _ k_6_160) (fun _ h9 => h9) rfl d_Mo_run_22 ?_
      refine lv_if_le (tgt := 30) hx hb d_Mo_run_25 (by decide) (fun _ => ?_) (fun c9 => absurd c9 (by decide +kernel))
      refine lv_aload_n hx hb d_Mo_run_30 rfl (lv_at hl 0 rfl) ?_
      refine lv_iload_n hx hb d_Mo_run_31 rfl (lv_at hl 1 rfl) ?_
      refine va_put (D := D) (ci := 11) (v := .int p0) (ty := .int) (C := "PageScribeModel") (T := F_Mo) (N := 45) hx hb hts i_Mo t_Mo t_Mo_ok n_Mo hown hK hP hD hS 0 rfl rfl 31 (by decide) (hts _ k_6_191) (fun _ h9 => h9) rfl (by decide +kernel) rfl rfl (Nat.le_of_ble_eq_true rfl) d_Mo_run_32 (fun H locs hP hD hS => ?_)
      have hP : va_P D classes [(h0, .inr (11, [.int 0, .ref (ar 0), .ref (ar 1), .ref (ar 2), .int 0, .int 0, .ref (ar 3), .ref (ar 4), .ref (ar 5), .ref (ar 6), .int 1, .int 0, .int 0, .ref (ar 7), .ref (ar 8), .int 0, .int 0, .ref (ar 9), .ref (ar 10), .ref (ar 11), .ref (ar 12), .ref (ar 13), .ref (ar 14), .ref (ar 15), .int 0, .int 0, .int 0, .int 0, .ref (ar 16), .ref (ar 17), .int 0, .int p0, .int 0, .int 0, .int (nI C), .int (nI Rr), .ref (ar 18), .float 0x3f800000, .ref (ar 19), .ref (ar 20), .ref (ar 21), .int 0, .ref (ar 22), .ref (ar 23), .ref (ar 24)]))] H := hP
      have hD : va_D A [(h0, .inr (11, [.int 0, .ref (ar 0), .ref (ar 1), .ref (ar 2), .int 0, .int 0, .ref (ar 3), .ref (ar 4), .ref (ar 5), .ref (ar 6), .int 1, .int 0, .int 0, .ref (ar 7), .ref (ar 8), .int 0, .int 0, .ref (ar 9), .ref (ar 10), .ref (ar 11), .ref (ar 12), .ref (ar 13), .ref (ar 14), .ref (ar 15), .int 0, .int 0, .int 0, .int 0, .ref (ar 16), .ref (ar 17), .int 0, .int p0, .int 0, .int 0, .int (nI C), .int (nI Rr), .ref (ar 18), .float 0x3f800000, .ref (ar 19), .ref (ar 20), .ref (ar 21), .int 0, .ref (ar 22), .ref (ar 23), .ref (ar 24)]))] := hD
      refine lv_aload_n hx hb d_Mo_run_35 rfl (lv_at hl 0 rfl) ?_
      refine lv_iconst (v := 0) hx hb d_Mo_run_36 (by decide) ?_
      refine va_put (D := D) (ci := 11) (v := .int 0) (ty := .int) (C := "PageScribeModel") (T := F_Mo) (N := 45) hx hb hts i_Mo t_Mo t_Mo_ok n_Mo hown hK hP hD hS 0 rfl rfl 32 (by decide) (hts _ k_6_192) (fun _ h9 => h9) rfl (by decide +kernel) rfl rfl (Nat.le_of_ble_eq_true rfl) d_Mo_run_37 (fun H locs hP hD hS => ?_)
      have hP : va_P D classes [(h0, .inr (11, [.int 0, .ref (ar 0), .ref (ar 1), .ref (ar 2), .int 0, .int 0, .ref (ar 3), .ref (ar 4), .ref (ar 5), .ref (ar 6), .int 1, .int 0, .int 0, .ref (ar 7), .ref (ar 8), .int 0, .int 0, .ref (ar 9), .ref (ar 10), .ref (ar 11), .ref (ar 12), .ref (ar 13), .ref (ar 14), .ref (ar 15), .int 0, .int 0, .int 0, .int 0, .ref (ar 16), .ref (ar 17), .int 0, .int p0, .int 0, .int 0, .int (nI C), .int (nI Rr), .ref (ar 18), .float 0x3f800000, .ref (ar 19), .ref (ar 20), .ref (ar 21), .int 0, .ref (ar 22), .ref (ar 23), .ref (ar 24)]))] H := hP
      have hD : va_D A [(h0, .inr (11, [.int 0, .ref (ar 0), .ref (ar 1), .ref (ar 2), .int 0, .int 0, .ref (ar 3), .ref (ar 4), .ref (ar 5), .ref (ar 6), .int 1, .int 0, .int 0, .ref (ar 7), .ref (ar 8), .int 0, .int 0, .ref (ar 9), .ref (ar 10), .ref (ar 11), .ref (ar 12), .ref (ar 13), .ref (ar 14), .ref (ar 15), .int 0, .int 0, .int 0, .int 0, .ref (ar 16), .ref (ar 17), .int 0, .int p0, .int 0, .int 0, .int (nI C), .int (nI Rr), .ref (ar 18), .float 0x3f800000, .ref (ar 19), .ref (ar 20), .ref (ar 21), .int 0, .ref (ar 22), .ref (ar 23), .ref (ar 24)]))] := hD
      refine lv_aload_n hx hb d_Mo_run_40 rfl (lv_at hl 0 rfl) ?_
      refine lv_iconst (v := 0) hx hb d_Mo_run_41 (by decide) ?_
      refine va_put (D := D) (ci := 11) (v := .int 0) (ty := .int) (C := "PageScribeModel") (T := F_Mo) (N := 45) hx hb hts i_Mo t_Mo t_Mo_ok n_Mo hown hK hP hD hS 0 rfl rfl 25 (by decide) (hts _ k_6_185) (fun _ h9 => h9) rfl (by decide +kernel) rfl rfl (Nat.le_of_ble_eq_true rfl) d_Mo_run_42 (fun H locs hP hD hS => ?_)
      have hP : va_P D classes [(h0, .inr (11, [.int 0, .ref (ar 0), .ref (ar 1), .ref (ar 2), .int 0, .int 0, .ref (ar 3), .ref (ar 4), .ref (ar 5), .ref (ar 6), .int 1, .int 0, .int 0, .ref (ar 7), .ref (ar 8), .int 0, .int 0, .ref (ar 9), .ref (ar 10), .ref (ar 11), .ref (ar 12), .ref (ar 13), .ref (ar 14), .ref (ar 15), .int 0, .int 0, .int 0, .int 0, .ref (ar 16), .ref (ar 17), .int 0, .int p0, .int 0, .int 0, .int (nI C), .int (nI Rr), .ref (ar 18), .float 0x3f800000, .ref (ar 19), .ref (ar 20), .ref (ar 21), .int 0, .ref (ar 22), .ref (ar 23), .ref (ar 24)]))] H := hP
      have hD : va_D A [(h0, .inr (11, [.int 0, .ref (ar 0), .ref (ar 1), .ref (ar 2), .int 0, .int 0, .ref (ar 3), .ref (ar 4), .ref (ar 5), .ref (ar 6), .int 1, .int 0, .int 0, .ref (ar 7), .ref (ar 8), .int 0, .int 0, .ref (ar 9), .ref (ar 10), .ref (ar 11), .ref (ar 12), .ref (ar 13), .ref (ar 14), .ref (ar 15), .int 0, .int 0, .int 0, .int 0, .ref (ar 16), .ref (ar 17), .int 0, .int p0, .int 0, .int 0, .int (nI C), .int (nI Rr), .ref (ar 18), .float 0x3f800000, .ref (ar 19), .ref (ar 20), .ref (ar 21), .int 0, .ref (ar 22), .ref (ar 23), .ref (ar 24)]))] := hD
      refine lv_iconst (v := 0) hx hb d_Mo_run_45 (by decide) ?_
      refine lv_istore_n (lv' := [(2, .int 0), (0, .ref h0), (1, .int p0)]) hx hb d_Mo_run_46 rfl hl (by decide) rfl (fun ls hl => ?_)
      refine lv_iconst (v := 0) hx hb d_Mo_run_47 (by decide) ?_
      refine lv_istore_n (lv' := [(3, .int 0), (2, .int 0), (0, .ref h0), (1, .int p0)]) hx hb d_Mo_run_48 rfl hl (by decide) rfl (fun ls hl => ?_)
      refine lv_iload_n hx hb d_Mo_run_49 rfl (lv_at hl 0 rfl) ?_
      refine lv_sipush (v := 130) hx hb d_Mo_run_50 (by decide) ?_
      refine lv_icmp_ge (tgt := 93) hx hb d_Mo_run_53 (by decide) (fun c9 => absurd c9 (by decide +kernel)) (fun _ => ?_)
      refine lv_iload_n hx hb d_Mo_run_56 rfl (lv_at hl 1 rfl) ?_
      refine lv_if_ne (tgt := 93) hx hb d_Mo_run_57 (by decide) (fun c9 => absurd c9 (by decide +kernel)) (fun _ => ?_)
      refine lv_aload_n hx hb d_Mo_run_60 rfl (lv_at hl 2 rfl) ?_
      refine j_ci (wc := [(h0, .inr (11, [.int 0, .ref (ar 0), .ref (ar 1), .ref (ar 2), .int 0, .int 0, .ref (ar 3), .ref (ar 4), .ref (ar 5), .ref (ar 6), .int 1, .int 0, .int 0, .ref (ar 7), .ref (ar 8), .int 0, .int 0, .ref (ar 9), .ref (ar 10), .ref (ar 11), .ref (ar 12), .ref (ar 13), .ref (ar 14), .ref (ar 15), .int 0, .int 0, .int 0, .int 0, .ref (ar 16), .ref (ar 17), .int 0, .int p0, .int 0, .int 0, .int (nI C), .int (nI Rr), .ref (ar 18), .float 0x3f800000, .ref (ar 19), .ref (ar 20), .ref (ar 21), .int 0, .ref (ar 22), .ref (ar 23), .ref (ar 24)]))]) (wr := []) hK hP hD hS hA [0] [] rfl rfl (by decide) (by decide) (va_runV (As := []) (rest := []) F (c_Mo_token l D T h0 ar C Rr p0 H.size) (j_cV (k := 0) (C := "PageScribeModel") hts k_7_68 k_1_12 k_7_65 k_7_67 k_0_79 (by decide +kernel) ⟨Nat.le_of_ble_eq_true rfl, Nat.le_of_ble_eq_true rfl⟩) (j_preV (q0 := 0) (ci := 11) hK hP hD [0] rfl (by decide) rfl rfl (fun _ _ _ _ h => h) (fun _ _ _ => trivial)) rfl rfl hl.1 rfl (lv_room (Nat.le_of_ble_eq_true rfl)) d_Mo_run_61 ⟨Nat.le_of_ble_eq_true rfl, Nat.le_of_ble_eq_true rfl⟩) (fun rv1 u1 H locs hw hP hD hS => ?_)
      have hP : va_P D classes [(h0, .inr (11, [.int 0, .ref (ar 0), .ref (ar 1), .ref (ar 2), .int 0, .int 0, .ref (ar 3), .ref (ar 4), .ref (ar 5), .ref (ar 6), .int 1, .int 0, .int 0, .ref (ar 7), .ref (ar 8), .int 0, .int 0, .ref (ar 9), .ref (ar 10), .ref (ar 11), .ref (ar 12), .ref (ar 13), .ref (ar 14), .ref (ar 15), .int 0, .int 0, .int 0, .int 0, .ref (ar 16), .ref (ar 17), .int 0, .int p0, .int 0, .int 0, .int (nI C), .int (nI Rr), .ref (ar 18), .float 0x3f800000, .ref (ar 19), .ref (ar 20), .ref (ar 21), .int 0, .ref (ar 22), .ref (ar 23), .ref (ar 24)]))] H := hP
      have hD : va_D A [(h0, .inr (11, [.int 0, .ref (ar 0), .ref (ar 1), .ref (ar 2), .int 0, .int 0, .ref (ar 3), .ref (ar 4), .ref (ar 5), .ref (ar 6), .int 1, .int 0, .int 0, .ref (ar 7), .ref (ar 8), .int 0, .int 0, .ref (ar 9), .ref (ar 10), .ref (ar 11), .ref (ar 12), .ref (ar 13), .ref (ar 14), .ref (ar 15), .int 0, .int 0, .int 0, .int 0, .ref (ar 16), .ref (ar 17), .int 0, .int p0, .int 0, .int 0, .int (nI C), .int (nI Rr), .ref (ar 18), .float 0x3f800000, .ref (ar 19), .ref (ar 20), .ref (ar 21), .int 0, .ref (ar 22), .ref (ar 23), .ref (ar 24)]))] := hD
      have hw1 : rv1 = -1 := hw
      refine j_eqi (y := (-1)) hw1 ?_
      refine lv_istore_n (lv' := [(2, .int (-1)), (3, .int 0), (0, .ref h0), (1, .int p0)]) hx hb d_Mo_run_64 rfl hl (by decide) rfl (fun ls hl => ?_)
      refine lv_iload_n hx hb d_Mo_run_65 rfl (lv_at hl 0 rfl) ?_
      refine lv_if_ne (tgt := 77) hx hb d_Mo_run_66 (by decide) (fun _ => ?_) (fun c9 => absurd c9 (by decide +kernel))
      refine lv_iload_n hx hb d_Mo_run_77 rfl (lv_at hl 0 rfl) ?_
      refine lv_iconst (v := (-1)) hx hb d_Mo_run_78 (by decide) ?_
      refine lv_icmp_eq (tgt := 87) hx hb d_Mo_run_79 (by decide) (fun _ => ?_) (fun c9 => absurd c9 (by decide +kernel))
      refine lv_iinc (v := 1) (lv' := [(3, .int 1), (2, .int (-1)), (0, .ref h0), (1, .int p0)]) hx hb d_Mo_run_87 hl (k := 1) rfl (by decide +kernel) (by decide) rfl (fun ls hl => ?_)
      refine lv_goto (tgt := 49) hx hb d_Mo_run_90 (by decide) ?_
      refine lv_iload_n hx hb d_Mo_run_49 rfl (lv_at hl 0 rfl) ?_
      refine lv_sipush (v := 130) hx hb d_Mo_run_50 (by decide) ?_
      refine lv_icmp_ge (tgt := 93) hx hb d_Mo_run_53 (by decide) (fun c9 => absurd c9 (by decide +kernel)) (fun _ => ?_)
      refine lv_iload_n hx hb d_Mo_run_56 rfl (lv_at hl 1 rfl) ?_
      refine lv_if_ne (tgt := 93) hx hb d_Mo_run_57 (by decide) (fun _ => ?_) (fun c9 => absurd c9 (by decide +kernel))
      refine lv_aload_n hx hb d_Mo_run_93 rfl (lv_at hl 2 rfl) ?_
      refine lv_iconst (v := 0) hx hb d_Mo_run_94 (by decide) ?_
      refine va_put (D := D) (ci := 11) (v := .int 0) (ty := .int) (C := "PageScribeModel") (T := F_Mo) (N := 45) hx hb hts i_Mo t_Mo t_Mo_ok n_Mo hown hK hP hD hS 0 rfl rfl 24 (by decide) (hts _ k_6_184) (fun _ h9 => h9) rfl (by decide +kernel) rfl rfl (Nat.le_of_ble_eq_true rfl) d_Mo_run_95 (fun H locs hP hD hS => ?_)
      have hP : va_P D classes [(h0, .inr (11, [.int 0, .ref (ar 0), .ref (ar 1), .ref (ar 2), .int 0, .int 0, .ref (ar 3), .ref (ar 4), .ref (ar 5), .ref (ar 6), .int 1, .int 0, .int 0, .ref (ar 7), .ref (ar 8), .int 0, .int 0, .ref (ar 9), .ref (ar 10), .ref (ar 11), .ref (ar 12), .ref (ar 13), .ref (ar 14), .ref (ar 15), .int 0, .int 0, .int 0, .int 0, .ref (ar 16), .ref (ar 17), .int 0, .int p0, .int 0, .int 0, .int (nI C), .int (nI Rr), .ref (ar 18), .float 0x3f800000, .ref (ar 19), .ref (ar 20), .ref (ar 21), .int 0, .ref (ar 22), .ref (ar 23), .ref (ar 24)]))] H := hP
      have hD : va_D A [(h0, .inr (11, [.int 0, .ref (ar 0), .ref (ar 1), .ref (ar 2), .int 0, .int 0, .ref (ar 3), .ref (ar 4), .ref (ar 5), .ref (ar 6), .int 1, .int 0, .int 0, .ref (ar 7), .ref (ar 8), .int 0, .int 0, .ref (ar 9), .ref (ar 10), .ref (ar 11), .ref (ar 12), .ref (ar 13), .ref (ar 14), .ref (ar 15), .int 0, .int 0, .int 0, .int 0, .ref (ar 16), .ref (ar 17), .int 0, .int p0, .int 0, .int 0, .int (nI C), .int (nI Rr), .ref (ar 18), .float 0x3f800000, .ref (ar 19), .ref (ar 20), .ref (ar 21), .int 0, .ref (ar 22), .ref (ar 23), .ref (ar 24)]))] := hD
      refine lv_iload_n hx hb d_Mo_run_98 rfl (lv_at hl 1 rfl) ?_
      refine lv_iconst (v := (-1)) hx hb d_Mo_run_99 (by decide) ?_
      refine lv_icmp_ne (tgt := 107) hx hb d_Mo_run_100 (by decide) (fun c9 => absurd c9 (by decide +kernel)) (fun _ => ?_)
      refine lv_iconst (v := 0) hx hb d_Mo_run_103 (by decide) ?_
      refine lv_goto (tgt := 108) hx hb d_Mo_run_104 (by decide) ?_
      have hP9 := hP.sub (ws' := [(h0, .inr (11, [.int 0, .ref (ar 0), .ref (ar 1), .ref (ar 2), .int 0, .int 0, .ref (ar 3), .ref (ar 4), .ref (ar 5), .ref (ar 6), .int 1, .int 0, .int 0, .ref (ar 7), .ref (ar 8), .int 0, .int 0, .ref (ar 9), .ref (ar 10), .ref (ar 11), .ref (ar 12), .ref (ar 13), .ref (ar 14), .ref (ar 15), .int 0, .int 0, .int 0, .int 0, .ref (ar 16), .ref (ar 17), .int 0, .int p0, .int 0, .int 0, .int (nI C), .int (nI Rr), .ref (ar 18), .float 0x3f800000, .ref (ar 19), .ref (ar 20), .ref (ar 21), .int 0, .ref (ar 22), .ref (ar 23), .ref (ar 24)]))]) [0] rfl
      have hD9 := hD.sub (ws' := [(h0, .inr (11, [.int 0, .ref (ar 0), .ref (ar 1), .ref (ar 2), .int 0, .int 0, .ref (ar 3), .ref (ar 4), .ref (ar 5), .ref (ar 6), .int 1, .int 0, .int 0, .ref (ar 7), .ref (ar 8), .int 0, .int 0, .ref (ar 9), .ref (ar 10), .ref (ar 11), .ref (ar 12), .ref (ar 13), .ref (ar 14), .ref (ar 15), .int 0, .int 0, .int 0, .int 0, .ref (ar 16), .ref (ar 17), .int 0, .int p0, .int 0, .int 0, .int (nI C), .int (nI Rr), .ref (ar 18), .float 0x3f800000, .ref (ar 19), .ref (ar 20), .ref (ar 21), .int 0, .ref (ar 22), .ref (ar 23), .ref (ar 24)]))]) [0] (by decide) rfl
      refine W.widen (k := 0) (n := 0) (Nat.le_of_ble_eq_true rfl) (Nat.le_of_ble_eq_true rfl) ?_
      exact j_iret F hr hlocks hK hS (0, p0) (by first | exact ⟨rfl, (if_pos (Or.inl c_3)).symm⟩ | exact ⟨rfl, (if_pos (Or.inr (Int32.not_le.mp c_10))).symm⟩ | exact ⟨rfl, (if_neg (fun q => q.elim (fun z => c_3 z) (fun z => absurd z (Int32.not_lt.mpr c_10)))).symm⟩) hP9 hD9 d_Mo_run_108
    · refine lv_iconst (v := 1) hx hb d_Mo_run_13 (by decide) ?_
      refine lv_goto (tgt := 18) hx hb d_Mo_run_14 (by decide) ?_
      refine va_put (D := D) (ci := 11) (v := .int 1) (ty := .int) (C := "PageScribeModel") (T := F_Mo) (N := 45) hx hb hts i_Mo t_Mo t_Mo_ok n_Mo hown hK hP hD hS 0 rfl rfl 0 (by decide) (hts _ k_6_160) (fun _ h9 => h9) rfl (by decide +kernel) rfl rfl (Nat.le_of_ble_eq_true rfl) d_Mo_run_18 (fun H locs hP hD hS => ?_)
      have hP : va_P D classes [(h0, .inr (11, [.int 1, .ref (ar 0), .ref (ar 1), .ref (ar 2), .int 0, .int 0, .ref (ar 3), .ref (ar 4), .ref (ar 5), .ref (ar 6), .int 1, .int 0, .int 0, .ref (ar 7), .ref (ar 8), .int 0, .int 0, .ref (ar 9), .ref (ar 10), .ref (ar 11), .ref (ar 12), .ref (ar 13), .ref (ar 14), .ref (ar 15), .int 0, .int 0, .int 0, .int 0, .ref (ar 16), .ref (ar 17), .int 0, .int 0, .int 0, .int 0, .int (nI C), .int (nI Rr), .ref (ar 18), .float 0x3f800000, .ref (ar 19), .ref (ar 20), .ref (ar 21), .int 0, .ref (ar 22), .ref (ar 23), .ref (ar 24)]))] H := hP
      have hD : va_D A [(h0, .inr (11, [.int 1, .ref (ar 0), .ref (ar 1), .ref (ar 2), .int 0, .int 0, .ref (ar 3), .ref (ar 4), .ref (ar 5), .ref (ar 6), .int 1, .int 0, .int 0, .ref (ar 7), .ref (ar 8), .int 0, .int 0, .ref (ar 9), .ref (ar 10), .ref (ar 11), .ref (ar 12), .ref (ar 13), .ref (ar 14), .ref (ar 15), .int 0, .int 0, .int 0, .int 0, .ref (ar 16), .ref (ar 17), .int 0, .int 0, .int 0, .int 0, .int (nI C), .int (nI Rr), .ref (ar 18), .float 0x3f800000, .ref (ar 19), .ref (ar 20), .ref (ar 21), .int 0, .ref (ar 22), .ref (ar 23), .ref (ar 24)]))] := hD
      refine lv_aload_n hx hb d_Mo_run_21 rfl (lv_at hl 0 rfl) ?_
      refine va_get (D := D) (ci := 11) (v := .int 1) (C := "PageScribeModel") (T := F_Mo) (N := 45) hx hb hts i_Mo hown hK hP 0 rfl rfl 0 (by decide) (hts _ k_6_160) (fun _ h9 => h9) rfl d_Mo_run_22 ?_
      refine lv_if_le (tgt := 30) hx hb d_Mo_run_25 (by decide) (fun c9 => absurd c9 (by decide +kernel)) (fun _ => ?_)
      refine lv_iconst (v := 0) hx hb d_Mo_run_28 (by decide) ?_
      have hP9 := hP.sub (ws' := [(h0, .inr (11, [.int 1, .ref (ar 0), .ref (ar 1), .ref (ar 2), .int 0, .int 0, .ref (ar 3), .ref (ar 4), .ref (ar 5), .ref (ar 6), .int 1, .int 0, .int 0, .ref (ar 7), .ref (ar 8), .int 0, .int 0, .ref (ar 9), .ref (ar 10), .ref (ar 11), .ref (ar 12), .ref (ar 13), .ref (ar 14), .ref (ar 15), .int 0, .int 0, .int 0, .int 0, .ref (ar 16), .ref (ar 17), .int 0, .int 0, .int 0, .int 0, .int (nI C), .int (nI Rr), .ref (ar 18), .float 0x3f800000, .ref (ar 19), .ref (ar 20), .ref (ar 21), .int 0, .ref (ar 22), .ref (ar 23), .ref (ar 24)]))]) [0] rfl
      have hD9 := hD.sub (ws' := [(h0, .inr (11, [.int 1, .ref (ar 0), .ref (ar 1), .ref (ar 2), .int 0, .int 0, .ref (ar 3), .ref (ar 4), .ref (ar 5), .ref (ar 6), .int 1, .int 0, .int 0, .ref (ar 7), .ref (ar 8), .int 0, .int 0, .ref (ar 9), .ref (ar 10), .ref (ar 11), .ref (ar 12), .ref (ar 13), .ref (ar 14), .ref (ar 15), .int 0, .int 0, .int 0, .int 0, .ref (ar 16), .ref (ar 17), .int 0, .int 0, .int 0, .int 0, .int (nI C), .int (nI Rr), .ref (ar 18), .float 0x3f800000, .ref (ar 19), .ref (ar 20), .ref (ar 21), .int 0, .ref (ar 22), .ref (ar 23), .ref (ar 24)]))]) [0] (by decide) rfl
      refine W.widen (k := 0) (n := 0) (Nat.le_of_ble_eq_true rfl) (Nat.le_of_ble_eq_true rfl) ?_
      exact j_iret F hr hlocks hK hS (1, 0) (by first | exact ⟨rfl, (if_pos (Or.inl c_3)).symm⟩ | exact ⟨rfl, (if_pos (Or.inr (Int32.not_le.mp c_10))).symm⟩ | exact ⟨rfl, (if_neg (fun q => q.elim (fun z => c_3 z) (fun z => absurd z (Int32.not_lt.mpr c_10)))).symm⟩) hP9 hD9 d_Mo_run_29
theorem d_Mo_set_0 : decode prog_15_method_4_code 0 = .ok (.aload_n 0, 1) := by decide +kernel
theorem d_Mo_set_1 : decode prog_15_method_4_code 1 = .ok (.getfield 7, 3) := by decide +kernel
theorem d_Mo_set_4 : decode prog_15_method_4_code 4 = .ok (.iload_n 1, 1) := by decide +kernel
theorem d_Mo_set_5 : decode prog_15_method_4_code 5 = .ok (.iload_n 2, 1) := by decide +kernel
theorem d_Mo_set_6 : decode prog_15_method_4_code 6 = .ok (.iastore, 1) := by decide +kernel
theorem d_Mo_set_7 : decode prog_15_method_4_code 7 = .ok (.aload_n 0, 1) := by decide +kernel
theorem d_Mo_set_8 : decode prog_15_method_4_code 8 = .ok (.getfield 13, 3) := by decide +kernel
theorem d_Mo_set_11 : decode prog_15_method_4_code 11 = .ok (.iload_n 1, 1) := by decide +kernel
theorem d_Mo_set_12 : decode prog_15_method_4_code 12 = .ok (.lload_n 3, 1) := by decide +kernel
theorem d_Mo_set_13 : decode prog_15_method_4_code 13 = .ok (.lastore, 1) := by decide +kernel
theorem d_Mo_set_14 : decode prog_15_method_4_code 14 = .ok (.aload_n 0, 1) := by decide +kernel
theorem d_Mo_set_15 : decode prog_15_method_4_code 15 = .ok (.getfield 17, 3) := by decide +kernel
theorem d_Mo_set_18 : decode prog_15_method_4_code 18 = .ok (.iload_n 1, 1) := by decide +kernel
theorem d_Mo_set_19 : decode prog_15_method_4_code 19 = .ok (.dconst 0, 1) := by decide +kernel
theorem d_Mo_set_20 : decode prog_15_method_4_code 20 = .ok (.dastore, 1) := by decide +kernel
theorem d_Mo_set_21 : decode prog_15_method_4_code 21 = .ok (.return_, 1) := by decide +kernel
set_option maxHeartbeats 4000000 in
set_option maxRecDepth 100000 in
theorem c_Mo_set (l : Launch) (D : va_G) (T : Nat → ClassId) (h0 : Nat) (ar : (Nat → Nat)) (C : Nat) (Rr : Nat) (p0 : Int32) (v0 : Int64) (sz : Nat) : Met l ⟨"PageScribeModel", "set", "(IIJ)V"⟩ (wy ⟨"PageScribeModel", "set", "(IIJ)V"⟩ prog_15_method_4_code 5 none) ({ frames := 0, cells := 0, slots := 0, locals := 0 }) (va_Pc [.ref h0, .int 0, .int p0, .long v0] (Pw D T [(h0, .inr (11, [.int 0, .ref (ar 0), .ref (ar 1), .ref (ar 2), .int 0, .int 0, .ref (ar 3), .ref (ar 4), .ref (ar 5), .ref (ar 6), .int 1, .int 0, .int 0, .ref (ar 7), .ref (ar 8), .int 0, .int 0, .ref (ar 9), .ref (ar 10), .ref (ar 11), .ref (ar 12), .ref (ar 13), .ref (ar 14), .ref (ar 15), .int 0, .int 0, .int 0, .int 0, .ref (ar 16), .ref (ar 17), .int 0, .int 0, .int 0, .int 0, .int (nI C), .int (nI Rr), .ref (ar 18), .float 0x3f800000, .ref (ar 19), .ref (ar 20), .ref (ar 21), .int 0, .ref (ar 22), .ref (ar 23), .ref (ar 24)])), ((ar 0), .inl (T 0, 1300, .inl zI)), ((ar 1), .inl (T 1, 1300, .inr (.inl zJ))), ((ar 2), .inl (T 3, 1300, .inr (.inr (.inr (.inl zD)))))] sz E0)) (va_Qv (fun (u : (Nat → Int32) × (Nat → Int64) × (Nat → UInt64)) => True) (fun u t => Bw D T (va_A [(h0, .inr (11, [.int 0, .ref (ar 0), .ref (ar 1), .ref (ar 2), .int 0, .int 0, .ref (ar 3), .ref (ar 4), .ref (ar 5), .ref (ar 6), .int 1, .int 0, .int 0, .ref (ar 7), .ref (ar 8), .int 0, .int 0, .ref (ar 9), .ref (ar 10), .ref (ar 11), .ref (ar 12), .ref (ar 13), .ref (ar 14), .ref (ar 15), .int 0, .int 0, .int 0, .int 0, .ref (ar 16), .ref (ar 17), .int 0, .int 0, .int 0, .int 0, .int (nI C), .int (nI Rr), .ref (ar 18), .float 0x3f800000, .ref (ar 19), .ref (ar 20), .ref (ar 21), .int 0, .ref (ar 22), .ref (ar 23), .ref (ar 24)])), ((ar 0), .inl (T 0, 1300, .inl zI)), ((ar 1), .inl (T 1, 1300, .inr (.inl zJ))), ((ar 2), .inl (T 3, 1300, .inr (.inr (.inr (.inl zD)))))] sz) [(h0, .inr (11, [.int 0, .ref (ar 0), .ref (ar 1), .ref (ar 2), .int 0, .int 0, .ref (ar 3), .ref (ar 4), .ref (ar 5), .ref (ar 6), .int 1, .int 0, .int 0, .ref (ar 7), .ref (ar 8), .int 0, .int 0, .ref (ar 9), .ref (ar 10), .ref (ar 11), .ref (ar 12), .ref (ar 13), .ref (ar 14), .ref (ar 15), .int 0, .int 0, .int 0, .int 0, .ref (ar 16), .ref (ar 17), .int 0, .int 0, .int 0, .int 0, .int (nI C), .int (nI Rr), .ref (ar 18), .float 0x3f800000, .ref (ar 19), .ref (ar 20), .ref (ar 21), .int 0, .ref (ar 22), .ref (ar 23), .ref (ar 24)])), ((ar 0), .inl (T 0, 1300, .inl u.1)), ((ar 1), .inl (T 1, 1300, .inr (.inl u.2.1))), ((ar 2), .inl (T 3, 1300, .inr (.inr (.inr (.inl u.2.2)))))] t) (va_A [(h0, .inr (11, [.int 0, .ref (ar 0), .ref (ar 1), .ref (ar 2), .int 0, .int 0, .ref (ar 3), .ref (ar 4), .ref (ar 5), .ref (ar 6), .int 1, .int 0, .int 0, .ref (ar 7), .ref (ar 8), .int 0, .int 0, .ref (ar 9), .ref (ar 10), .ref (ar 11), .ref (ar 12), .ref (ar 13), .ref (ar 14), .ref (ar 15), .int 0, .int 0, .int 0, .int 0, .ref (ar 16), .ref (ar 17), .int 0, .int 0, .int 0, .int 0, .int (nI C), .int (nI Rr), .ref (ar 18), .float 0x3f800000, .ref (ar 19), .ref (ar 20), .ref (ar 21), .int 0, .ref (ar 22), .ref (ar 23), .ref (ar 24)])), ((ar 0), .inl (T 0, 1300, .inl zI)), ((ar 1), .inl (T 1, 1300, .inr (.inl zJ))), ((ar 2), .inl (T 3, 1300, .inr (.inr (.inr (.inl zD)))))] sz)) 0 0 (va_A [(h0, .inr (11, [.int 0, .ref (ar 0), .ref (ar 1), .ref (ar 2), .int 0, .int 0, .ref (ar 3), .ref (ar 4), .ref (ar 5), .ref (ar 6), .int 1, .int 0, .int 0, .ref (ar 7), .ref (ar 8), .int 0, .int 0, .ref (ar 9), .ref (ar 10), .ref (ar 11), .ref (ar 12), .ref (ar 13), .ref (ar 14), .ref (ar 15), .int 0, .int 0, .int 0, .int 0, .ref (ar 16), .ref (ar 17), .int 0, .int 0, .int 0, .int 0, .int (nI C), .int (nI Rr), .ref (ar 18), .float 0x3f800000, .ref (ar 19), .ref (ar 20), .ref (ar 21), .int 0, .ref (ar 22), .ref (ar 23), .ref (ar 24)])), ((ar 0), .inl (T 0, 1300, .inl zI)), ((ar 1), .inl (T 1, 1300, .inr (.inl zJ))), ((ar 2), .inl (T 3, 1300, .inr (.inr (.inr (.inl zD)))))] sz) := by
  refine j_met (y := ⟨"PageScribeModel", "set", "(IIJ)V"⟩) (b := prog_15_method_4_code) (n := 5) (ret := none) (av := [.ref h0, .int 0, .int p0, .long v0]) (Qc := fun A => va_Qv (fun (u : (Nat → Int32) × (Nat → Int64) × (Nat → UInt64)) => True) (fun u t => Bw D T A [(h0, .inr (11, [.int 0, .ref (ar 0), .ref (ar 1), .ref (ar 2), .int 0, .int 0, .ref (ar 3), .ref (ar 4), .ref (ar 5), .ref (ar 6), .int 1, .int 0, .int 0, .ref (ar 7), .ref (ar 8), .int 0, .int 0, .ref (ar 9), .ref (ar 10), .ref (ar 11), .ref (ar 12), .ref (ar 13), .ref (ar 14), .ref (ar 15), .int 0, .int 0, .int 0, .int 0, .ref (ar 16), .ref (ar 17), .int 0, .int 0, .int 0, .int 0, .int (nI C), .int (nI Rr), .ref (ar 18), .float 0x3f800000, .ref (ar 19), .ref (ar 20), .ref (ar 21), .int 0, .ref (ar 22), .ref (ar 23), .ref (ar 24)])), ((ar 0), .inl (T 0, 1300, .inl u.1)), ((ar 1), .inl (T 1, 1300, .inr (.inl u.2.1))), ((ar 2), .inl (T 3, 1300, .inr (.inr (.inr (.inl u.2.2)))))] t) A) (by decide +kernel) (Nat.le_of_ble_eq_true rfl) (fun p e s m args below meth c A ls F hr hlocks hnm hK hP hD hS hA hN hE hl => ?_)
  obtain ⟨hx, hb, hml, hown, hts⟩ := id F
  have hin := hnm
  have hl : lv_has ls 5 [(0, .ref h0), (1, .int 0), (2, .int p0), (3, .long v0)] := hl
  refine lv_aload_n hx hb d_Mo_set_0 rfl (lv_at hl 0 rfl) ?_
  refine va_get (D := D) (ci := 11) (v := .ref (ar 0)) (C := "PageScribeModel") (T := F_Mo) (N := 45) hx hb hts i_Mo hown hK hP 0 rfl rfl 1 (by decide) (hts _ k_6_161) (fun _ h9 => h9) rfl d_Mo_set_1 ?_
  refine lv_iload_n hx hb d_Mo_set_4 rfl (lv_at hl 1 rfl) ?_
  refine lv_iload_n hx hb d_Mo_set_5 rfl (lv_at hl 2 rfl) ?_
  refine j_iast F hK hP hD hS 1 0 rfl rfl (by unfold vp_in; decide +kernel) d_Mo_set_6 (fun g1 H locs hP hD hS => ?_)
  have hP : va_P D classes [(h0, .inr (11, [.int 0, .ref (ar 0), .ref (ar 1), .ref (ar 2), .int 0, .int 0, .ref (ar 3), .ref (ar 4), .ref (ar 5), .ref (ar 6), .int 1, .int 0, .int 0, .ref (ar 7), .ref (ar 8), .int 0, .int 0, .ref (ar 9), .ref (ar 10), .ref (ar 11), .ref (ar 12), .ref (ar 13), .ref (ar 14), .ref (ar 15), .int 0, .int 0, .int 0, .int 0, .ref (ar 16), .ref (ar 17), .int 0, .int 0, .int 0, .int 0, .int (nI C), .int (nI Rr), .ref (ar 18), .float 0x3f800000, .ref (ar 19), .ref (ar 20), .ref (ar 21), .int 0, .ref (ar 22), .ref (ar 23), .ref (ar 24)])), ((ar 0), .inl (T 0, 1300, .inl g1)), ((ar 1), .inl (T 1, 1300, .inr (.inl zJ))), ((ar 2), .inl (T 3, 1300, .inr (.inr (.inr (.inl zD)))))] H := hP
  have hD : va_D A [(h0, .inr (11, [.int 0, .ref (ar 0), .ref (ar 1), .ref (ar 2), .int 0, .int 0, .ref (ar 3), .ref (ar 4), .ref (ar 5), .ref (ar 6), .int 1, .int 0, .int 0, .ref (ar 7), .ref (ar 8), .int 0, .int 0, .ref (ar 9), .ref (ar 10), .ref (ar 11), .ref (ar 12), .ref (ar 13), .ref (ar 14), .ref (ar 15), .int 0, .int 0, .int 0, .int 0, .ref (ar 16), .ref (ar 17), .int 0, .int 0, .int 0, .int 0, .int (nI C), .int (nI Rr), .ref (ar 18), .float 0x3f800000, .ref (ar 19), .ref (ar 20), .ref (ar 21), .int 0, .ref (ar 22), .ref (ar 23), .ref (ar 24)])), ((ar 0), .inl (T 0, 1300, .inl g1)), ((ar 1), .inl (T 1, 1300, .inr (.inl zJ))), ((ar 2), .inl (T 3, 1300, .inr (.inr (.inr (.inl zD)))))] := hD
  refine lv_aload_n hx hb d_Mo_set_7 rfl (lv_at hl 0 rfl) ?_
  refine va_get (D := D) (ci := 11) (v := .ref (ar 1)) (C := "PageScribeModel") (T := F_Mo) (N := 45) hx hb hts i_Mo hown hK hP 0 rfl rfl 2 (by decide) (hts _ k_6_162) (fun _ h9 => h9) rfl d_Mo_set_8 ?_
  refine lv_iload_n hx hb d_Mo_set_11 rfl (lv_at hl 1 rfl) ?_
  refine lv_lload_n hx hb d_Mo_set_12 rfl (lv_at hl 3 rfl) ?_
  refine j_last F hK hP hD hS 2 1 rfl rfl (by unfold vp_in; decide +kernel) d_Mo_set_13 (fun g2 H locs hP hD hS => ?_)
  have hP : va_P D classes [(h0, .inr (11, [.int 0, .ref (ar 0), .ref (ar 1), .ref (ar 2), .int 0, .int 0, .ref (ar 3), .ref (ar 4), .ref (ar 5), .ref (ar 6), .int 1, .int 0, .int 0, .ref (ar 7), .ref (ar 8), .int 0, .int 0, .ref (ar 9), .ref (ar 10), .ref (ar 11), .ref (ar 12), .ref (ar 13), .ref (ar 14), .ref (ar 15), .int 0, .int 0, .int 0, .int 0, .ref (ar 16), .ref (ar 17), .int 0, .int 0, .int 0, .int 0, .int (nI C), .int (nI Rr), .ref (ar 18), .float 0x3f800000, .ref (ar 19), .ref (ar 20), .ref (ar 21), .int 0, .ref (ar 22), .ref (ar 23), .ref (ar 24)])), ((ar 0), .inl (T 0, 1300, .inl g1)), ((ar 1), .inl (T 1, 1300, .inr (.inl g2))), ((ar 2), .inl (T 3, 1300, .inr (.inr (.inr (.inl zD)))))] H := hP
  have hD : va_D A [(h0, .inr (11, [.int 0, .ref (ar 0), .ref (ar 1), .ref (ar 2), .int 0, .int 0, .ref (ar 3), .ref (ar 4), .ref (ar 5), .ref (ar 6), .int 1, .int 0, .int 0, .ref (ar 7), .ref (ar 8), .int 0, .int 0, .ref (ar 9), .ref (ar 10), .ref (ar 11), .ref (ar 12), .ref (ar 13), .ref (ar 14), .ref (ar 15), .int 0, .int 0, .int 0, .int 0, .ref (ar 16), .ref (ar 17), .int 0, .int 0, .int 0, .int 0, .int (nI C), .int (nI Rr), .ref (ar 18), .float 0x3f800000, .ref (ar 19), .ref (ar 20), .ref (ar 21), .int 0, .ref (ar 22), .ref (ar 23), .ref (ar 24)])), ((ar 0), .inl (T 0, 1300, .inl g1)), ((ar 1), .inl (T 1, 1300, .inr (.inl g2))), ((ar 2), .inl (T 3, 1300, .inr (.inr (.inr (.inl zD)))))] := hD
  refine lv_aload_n hx hb d_Mo_set_14 rfl (lv_at hl 0 rfl) ?_
  refine va_get (D := D) (ci := 11) (v := .ref (ar 2)) (C := "PageScribeModel") (T := F_Mo) (N := 45) hx hb hts i_Mo hown hK hP 0 rfl rfl 3 (by decide) (hts _ k_6_163) (fun _ h9 => h9) rfl d_Mo_set_15 ?_
  refine lv_iload_n hx hb d_Mo_set_18 rfl (lv_at hl 1 rfl) ?_
  refine lv_dconst0 hx hb d_Mo_set_19 ?_
  refine j_dast F hK hP hD hS 3 3 rfl rfl (by unfold vp_in; decide +kernel) d_Mo_set_20 (fun g3 H locs hP hD hS => ?_)
  have hP : va_P D classes [(h0, .inr (11, [.int 0, .ref (ar 0), .ref (ar 1), .ref (ar 2), .int 0, .int 0, .ref (ar 3), .ref (ar 4), .ref (ar 5), .ref (ar 6), .int 1, .int 0, .int 0, .ref (ar 7), .ref (ar 8), .int 0, .int 0, .ref (ar 9), .ref (ar 10), .ref (ar 11), .ref (ar 12), .ref (ar 13), .ref (ar 14), .ref (ar 15), .int 0, .int 0, .int 0, .int 0, .ref (ar 16), .ref (ar 17), .int 0, .int 0, .int 0, .int 0, .int (nI C), .int (nI Rr), .ref (ar 18), .float 0x3f800000, .ref (ar 19), .ref (ar 20), .ref (ar 21), .int 0, .ref (ar 22), .ref (ar 23), .ref (ar 24)])), ((ar 0), .inl (T 0, 1300, .inl g1)), ((ar 1), .inl (T 1, 1300, .inr (.inl g2))), ((ar 2), .inl (T 3, 1300, .inr (.inr (.inr (.inl g3)))))] H := hP
  have hD : va_D A [(h0, .inr (11, [.int 0, .ref (ar 0), .ref (ar 1), .ref (ar 2), .int 0, .int 0, .ref (ar 3), .ref (ar 4), .ref (ar 5), .ref (ar 6), .int 1, .int 0, .int 0, .ref (ar 7), .ref (ar 8), .int 0, .int 0, .ref (ar 9), .ref (ar 10), .ref (ar 11), .ref (ar 12), .ref (ar 13), .ref (ar 14), .ref (ar 15), .int 0, .int 0, .int 0, .int 0, .ref (ar 16), .ref (ar 17), .int 0, .int 0, .int 0, .int 0, .int (nI C), .int (nI Rr), .ref (ar 18), .float 0x3f800000, .ref (ar 19), .ref (ar 20), .ref (ar 21), .int 0, .ref (ar 22), .ref (ar 23), .ref (ar 24)])), ((ar 0), .inl (T 0, 1300, .inl g1)), ((ar 1), .inl (T 1, 1300, .inr (.inl g2))), ((ar 2), .inl (T 3, 1300, .inr (.inr (.inr (.inl g3)))))] := hD
  have hP9 := hP.sub (ws' := [(h0, .inr (11, [.int 0, .ref (ar 0), .ref (ar 1), .ref (ar 2), .int 0, .int 0, .ref (ar 3), .ref (ar 4), .ref (ar 5), .ref (ar 6), .int 1, .int 0, .int 0, .ref (ar 7), .ref (ar 8), .int 0, .int 0, .ref (ar 9), .ref (ar 10), .ref (ar 11), .ref (ar 12), .ref (ar 13), .ref (ar 14), .ref (ar 15), .int 0, .int 0, .int 0, .int 0, .ref (ar 16), .ref (ar 17), .int 0, .int 0, .int 0, .int 0, .int (nI C), .int (nI Rr), .ref (ar 18), .float 0x3f800000, .ref (ar 19), .ref (ar 20), .ref (ar 21), .int 0, .ref (ar 22), .ref (ar 23), .ref (ar 24)])), ((ar 0), .inl (T 0, 1300, .inl g1)), ((ar 1), .inl (T 1, 1300, .inr (.inl g2))), ((ar 2), .inl (T 3, 1300, .inr (.inr (.inr (.inl g3)))))]) [0, 1, 2, 3] rfl
  have hD9 := hD.sub (ws' := [(h0, .inr (11, [.int 0, .ref (ar 0), .ref (ar 1), .ref (ar 2), .int 0, .int 0, .ref (ar 3), .ref (ar 4), .ref (ar 5), .ref (ar 6), .int 1, .int 0, .int 0, .ref (ar 7), .ref (ar 8), .int 0, .int 0, .ref (ar 9), .ref (ar 10), .ref (ar 11), .ref (ar 12), .ref (ar 13), .ref (ar 14), .ref (ar 15), .int 0, .int 0, .int 0, .int 0, .ref (ar 16), .ref (ar 17), .int 0, .int 0, .int 0, .int 0, .int (nI C), .int (nI Rr), .ref (ar 18), .float 0x3f800000, .ref (ar 19), .ref (ar 20), .ref (ar 21), .int 0, .ref (ar 22), .ref (ar 23), .ref (ar 24)])), ((ar 0), .inl (T 0, 1300, .inl g1)), ((ar 1), .inl (T 1, 1300, .inr (.inl g2))), ((ar 2), .inl (T 3, 1300, .inr (.inr (.inr (.inl g3)))))]) [0, 1, 2, 3] (by decide) rfl
  refine W.widen (k := 0) (n := 0) (Nat.le_of_ble_eq_true rfl) (Nat.le_of_ble_eq_true rfl) ?_
  exact j_vret F hr hlocks hK hS (g1, g2, g3) trivial hP9 hD9 d_Mo_set_21
theorem d_Mo_feed_0 : decode prog_15_method_77_code 0 = .ok (.aload_n 0, 1) := by decide +kernel
theorem d_Mo_feed_1 : decode prog_15_method_77_code 1 = .ok (.iconst 0, 1) := by decide +kernel
theorem d_Mo_feed_2 : decode prog_15_method_77_code 2 = .ok (.putfield 242, 3) := by decide +kernel
theorem d_Mo_feed_5 : decode prog_15_method_77_code 5 = .ok (.aload_n 0, 1) := by decide +kernel
theorem d_Mo_feed_6 : decode prog_15_method_77_code 6 = .ok (.getfield 247, 3) := by decide +kernel
theorem d_Mo_feed_9 : decode prog_15_method_77_code 9 = .ok (.bipush 40, 2) := by decide +kernel
theorem d_Mo_feed_11 : decode prog_15_method_77_code 11 = .ok (.if_icmp .eq 19, 3) := by decide +kernel
theorem d_Mo_feed_14 : decode prog_15_method_77_code 14 = .ok (.dload_n 1, 1) := by decide +kernel
theorem d_Mo_feed_15 : decode prog_15_method_77_code 15 = .ok (.ldc2_w 260, 3) := by decide +kernel
theorem k_7_217 : Cond.constantDouble "PageScribeModel" 260 (14009883241494872064 : UInt64) ∈ gw := gw_of (tb_7 (List.mem_of_getElem? (i := 217) (by decide +kernel))) (by decide +kernel)
theorem d_Mo_feed_18 : decode prog_15_method_77_code 18 = .ok (.dcmp .l, 1) := by decide +kernel
theorem d_Mo_feed_19 : decode prog_15_method_77_code 19 = .ok (.ifCond .lt 11, 3) := by decide +kernel
theorem d_Mo_feed_30 : decode prog_15_method_77_code 30 = .ok (.iconst 0, 1) := by decide +kernel
theorem d_Mo_feed_31 : decode prog_15_method_77_code 31 = .ok (.ireturn, 1) := by decide +kernel
theorem d_Mo_feed_22 : decode prog_15_method_77_code 22 = .ok (.dload_n 1, 1) := by decide +kernel
theorem d_Mo_feed_23 : decode prog_15_method_77_code 23 = .ok (.ldc2_w 258, 3) := by decide +kernel
theorem k_7_216 : Cond.constantDouble "PageScribeModel" 258 (4786511204640096256 : UInt64) ∈ gw := gw_of (tb_7 (List.mem_of_getElem? (i := 216) (by decide +kernel))) (by decide +kernel)
theorem d_Mo_feed_26 : decode prog_15_method_77_code 26 = .ok (.dcmp .g, 1) := by decide +kernel
theorem d_Mo_feed_27 : decode prog_15_method_77_code 27 = .ok (.ifCond .le 5, 3) := by decide +kernel
theorem d_Mo_feed_32 : decode prog_15_method_77_code 32 = .ok (.aload_n 0, 1) := by decide +kernel
theorem d_Mo_feed_33 : decode prog_15_method_77_code 33 = .ok (.aload_n 0, 1) := by decide +kernel
theorem d_Mo_feed_34 : decode prog_15_method_77_code 34 = .ok (.getfield 247, 3) := by decide +kernel
theorem d_Mo_feed_37 : decode prog_15_method_77_code 37 = .ok (.iconst 1, 1) := by decide +kernel
theorem d_Mo_feed_38 : decode prog_15_method_77_code 38 = .ok (.lconst 0, 1) := by decide +kernel
theorem d_Mo_feed_39 : decode prog_15_method_77_code 39 = .ok (.invokevirtual 250, 3) := by decide +kernel
theorem k_7_85 : Cond.code ⟨"PageScribeModel", "set", "(IIJ)V"⟩ prog_15_method_4_code 5 none ∈ gw := gw_of (tb_7 (List.mem_of_getElem? (i := 85) (by decide +kernel))) (by decide +kernel)
theorem k_7_82 : Cond.methodLink "PageScribeModel" 250 ⟨"PageScribeModel", "set", "(IIJ)V"⟩ ∈ gw := gw_of (tb_7 (List.mem_of_getElem? (i := 82) (by decide +kernel))) (by decide +kernel)
theorem k_7_84 : Cond.instanceMethod ⟨"PageScribeModel", "set", "(IIJ)V"⟩ ∈ gw := gw_of (tb_7 (List.mem_of_getElem? (i := 84) (by decide +kernel))) (by decide +kernel)
theorem k_0_83 : Cond.selects "PageScribeModel" ⟨"PageScribeModel", "set", "(IIJ)V"⟩ ⟨"PageScribeModel", "set", "(IIJ)V"⟩ ∈ gw := gw_of (tb_0 (List.mem_of_getElem? (i := 83) (by decide +kernel))) (by decide +kernel)
theorem d_Mo_feed_42 : decode prog_15_method_77_code 42 = .ok (.aload_n 0, 1) := by decide +kernel
theorem d_Mo_feed_43 : decode prog_15_method_77_code 43 = .ok (.getfield 17, 3) := by decide +kernel
theorem d_Mo_feed_46 : decode prog_15_method_77_code 46 = .ok (.aload_n 0, 1) := by decide +kernel
theorem d_Mo_feed_47 : decode prog_15_method_77_code 47 = .ok (.getfield 247, 3) := by decide +kernel
theorem d_Mo_feed_50 : decode prog_15_method_77_code 50 = .ok (.dload_n 1, 1) := by decide +kernel
theorem d_Mo_feed_51 : decode prog_15_method_77_code 51 = .ok (.dastore, 1) := by decide +kernel
theorem d_Mo_feed_52 : decode prog_15_method_77_code 52 = .ok (.aload_n 0, 1) := by decide +kernel
theorem d_Mo_feed_53 : decode prog_15_method_77_code 53 = .ok (.dup, 1) := by decide +kernel
theorem d_Mo_feed_54 : decode prog_15_method_77_code 54 = .ok (.getfield 247, 3) := by decide +kernel
theorem d_Mo_feed_57 : decode prog_15_method_77_code 57 = .ok (.iconst 1, 1) := by decide +kernel
theorem d_Mo_feed_58 : decode prog_15_method_77_code 58 = .ok (.iadd, 1) := by decide +kernel
theorem d_Mo_feed_59 : decode prog_15_method_77_code 59 = .ok (.putfield 247, 3) := by decide +kernel
theorem d_Mo_feed_62 : decode prog_15_method_77_code 62 = .ok (.iconst 1, 1) := by decide +kernel
theorem d_Mo_feed_63 : decode prog_15_method_77_code 63 = .ok (.ireturn, 1) := by decide +kernel
set_option maxHeartbeats 4000000 in
set_option maxRecDepth 100000 in
theorem c_Mo_feed (l : Launch) (D : va_G) (T : Nat → ClassId) (h0 : Nat) (ar : (Nat → Nat)) (C : Nat) (Rr : Nat) (v0 : UInt64) (sz : Nat) : Met l ⟨"PageScribeModel", "feed", "(D)Z"⟩ (wy ⟨"PageScribeModel", "feed", "(D)Z"⟩ prog_15_method_77_code 3 (some .boolean)) ({ frames := 1, cells := 0, slots := 0, locals := 70 }) (va_Pc [.ref h0, .double v0] (Pw D T [(h0, .inr (11, [.int 0, .ref (ar 0), .ref (ar 1), .ref (ar 2), .int 0, .int 0, .ref (ar 3), .ref (ar 4), .ref (ar 5), .ref (ar 6), .int 1, .int 0, .int 0, .ref (ar 7), .ref (ar 8), .int 0, .int 0, .ref (ar 9), .ref (ar 10), .ref (ar 11), .ref (ar 12), .ref (ar 13), .ref (ar 14), .ref (ar 15), .int 0, .int 0, .int 0, .int 0, .ref (ar 16), .ref (ar 17), .int 0, .int 0, .int 0, .int 0, .int (nI C), .int (nI Rr), .ref (ar 18), .float 0x3f800000, .ref (ar 19), .ref (ar 20), .ref (ar 21), .int 0, .ref (ar 22), .ref (ar 23), .ref (ar 24)])), ((ar 0), .inl (T 0, 1300, .inl zI)), ((ar 1), .inl (T 1, 1300, .inr (.inl zJ))), ((ar 2), .inl (T 3, 1300, .inr (.inr (.inr (.inl zD)))))] sz E0)) (va_Qi (fun (r : Int32) (u : Unit) => (r = 1 ∧ feedOk v0) ∨ (r = 0 ∧ ¬ feedOk v0)) (fun u t => Bw D T (va_A [(h0, .inr (11, [.int 0, .ref (ar 0), .ref (ar 1), .ref (ar 2), .int 0, .int 0, .ref (ar 3), .ref (ar 4), .ref (ar 5), .ref (ar 6), .int 1, .int 0, .int 0, .ref (ar 7), .ref (ar 8), .int 0, .int 0, .ref (ar 9), .ref (ar 10), .ref (ar 11), .ref (ar 12), .ref (ar 13), .ref (ar 14), .ref (ar 15), .int 0, .int 0, .int 0, .int 0, .ref (ar 16), .ref (ar 17), .int 0, .int 0, .int 0, .int 0, .int (nI C), .int (nI Rr), .ref (ar 18), .float 0x3f800000, .ref (ar 19), .ref (ar 20), .ref (ar 21), .int 0, .ref (ar 22), .ref (ar 23), .ref (ar 24)])), ((ar 0), .inl (T 0, 1300, .inl zI)), ((ar 1), .inl (T 1, 1300, .inr (.inl zJ))), ((ar 2), .inl (T 3, 1300, .inr (.inr (.inr (.inl zD)))))] sz) [] t) (va_A [(h0, .inr (11, [.int 0, .ref (ar 0), .ref (ar 1), .ref (ar 2), .int 0, .int 0, .ref (ar 3), .ref (ar 4), .ref (ar 5), .ref (ar 6), .int 1, .int 0, .int 0, .ref (ar 7), .ref (ar 8), .int 0, .int 0, .ref (ar 9), .ref (ar 10), .ref (ar 11), .ref (ar 12), .ref (ar 13), .ref (ar 14), .ref (ar 15), .int 0, .int 0, .int 0, .int 0, .ref (ar 16), .ref (ar 17), .int 0, .int 0, .int 0, .int 0, .int (nI C), .int (nI Rr), .ref (ar 18), .float 0x3f800000, .ref (ar 19), .ref (ar 20), .ref (ar 21), .int 0, .ref (ar 22), .ref (ar 23), .ref (ar 24)])), ((ar 0), .inl (T 0, 1300, .inl zI)), ((ar 1), .inl (T 1, 1300, .inr (.inl zJ))), ((ar 2), .inl (T 3, 1300, .inr (.inr (.inr (.inl zD)))))] sz)) 0 0 (va_A [(h0, .inr (11, [.int 0, .ref (ar 0), .ref (ar 1), .ref (ar 2), .int 0, .int 0, .ref (ar 3), .ref (ar 4), .ref (ar 5), .ref (ar 6), .int 1, .int 0, .int 0, .ref (ar 7), .ref (ar 8), .int 0, .int 0, .ref (ar 9), .ref (ar 10), .ref (ar 11), .ref (ar 12), .ref (ar 13), .ref (ar 14), .ref (ar 15), .int 0, .int 0, .int 0, .int 0, .ref (ar 16), .ref (ar 17), .int 0, .int 0, .int 0, .int 0, .int (nI C), .int (nI Rr), .ref (ar 18), .float 0x3f800000, .ref (ar 19), .ref (ar 20), .ref (ar 21), .int 0, .ref (ar 22), .ref (ar 23), .ref (ar 24)])), ((ar 0), .inl (T 0, 1300, .inl zI)), ((ar 1), .inl (T 1, 1300, .inr (.inl zJ))), ((ar 2), .inl (T 3, 1300, .inr (.inr (.inr (.inl zD)))))] sz) := by
  refine j_met (y := ⟨"PageScribeModel", "feed", "(D)Z"⟩) (b := prog_15_method_77_code) (n := 3) (ret := (some .boolean)) (av := [.ref h0, .double v0]) (Qc := fun A => va_Qi (fun (r : Int32) (u : Unit) => (r = 1 ∧ feedOk v0) ∨ (r = 0 ∧ ¬ feedOk v0)) (fun u t => Bw D T A [] t) A) (by decide +kernel) (Nat.le_of_ble_eq_true rfl) (fun p e s m args below meth c A ls F hr hlocks hnm hK hP hD hS hA hN hE hl => ?_)
  obtain ⟨hx, hb, hml, hown, hts⟩ := id F
  have hin := hnm
  have hl : lv_has ls 3 [(0, .ref h0), (1, .double v0)] := hl
  refine lv_aload_n hx hb d_Mo_feed_0 rfl (lv_at hl 0 rfl) ?_
  refine lv_iconst (v := 0) hx hb d_Mo_feed_1 (by decide) ?_
  refine va_put (D := D) (ci := 11) (v := .int 0) (ty := .int) (C := "PageScribeModel") (T := F_Mo) (N := 45) hx hb hts i_Mo t_Mo t_Mo_ok n_Mo hown hK hP hD hS 0 rfl rfl 0 (by decide) (hts _ k_6_160) (fun _ h9 => h9) rfl (by decide +kernel) rfl rfl (Nat.le_of_ble_eq_true rfl) d_Mo_feed_2 (fun H locs hP hD hS => ?_)
  have hP : va_P D classes [(h0, .inr (11, [.int 0, .ref (ar 0), .ref (ar 1), .ref (ar 2), .int 0, .int 0, .ref (ar 3), .ref (ar 4), .ref (ar 5), .ref (ar 6), .int 1, .int 0, .int 0, .ref (ar 7), .ref (ar 8), .int 0, .int 0, .ref (ar 9), .ref (ar 10), .ref (ar 11), .ref (ar 12), .ref (ar 13), .ref (ar 14), .ref (ar 15), .int 0, .int 0, .int 0, .int 0, .ref (ar 16), .ref (ar 17), .int 0, .int 0, .int 0, .int 0, .int (nI C), .int (nI Rr), .ref (ar 18), .float 0x3f800000, .ref (ar 19), .ref (ar 20), .ref (ar 21), .int 0, .ref (ar 22), .ref (ar 23), .ref (ar 24)])), ((ar 0), .inl (T 0, 1300, .inl zI)), ((ar 1), .inl (T 1, 1300, .inr (.inl zJ))), ((ar 2), .inl (T 3, 1300, .inr (.inr (.inr (.inl zD)))))] H := hP
  have hD : va_D A [(h0, .inr (11, [.int 0, .ref (ar 0), .ref (ar 1), .ref (ar 2), .int 0, .int 0, .ref (ar 3), .ref (ar 4), .ref (ar 5), .ref (ar 6), .int 1, .int 0, .int 0, .ref (ar 7), .ref (ar 8), .int 0, .int 0, .ref (ar 9), .ref (ar 10), .ref (ar 11), .ref (ar 12), .ref (ar 13), .ref (ar 14), .ref (ar 15), .int 0, .int 0, .int 0, .int 0, .ref (ar 16), .ref (ar 17), .int 0, .int 0, .int 0, .int 0, .int (nI C), .int (nI Rr), .ref (ar 18), .float 0x3f800000, .ref (ar 19), .ref (ar 20), .ref (ar 21), .int 0, .ref (ar 22), .ref (ar 23), .ref (ar 24)])), ((ar 0), .inl (T 0, 1300, .inl zI)), ((ar 1), .inl (T 1, 1300, .inr (.inl zJ))), ((ar 2), .inl (T 3, 1300, .inr (.inr (.inr (.inl zD)))))] := hD
  refine lv_aload_n hx hb d_Mo_feed_5 rfl (lv_at hl 0 rfl) ?_
  refine va_get (D := D) (ci := 11) (v := .int 0) (C := "PageScribeModel") (T := F_Mo) (N := 45) hx hb hts i_Mo hown hK hP 0 rfl rfl 4 (by decide) (hts _ k_6_164) (fun _ h9 => h9) rfl d_Mo_feed_6 ?_
  refine lv_bipush (v := 40) hx hb d_Mo_feed_9 (by decide) ?_
  refine lv_icmp_eq (tgt := 30) hx hb d_Mo_feed_11 (by decide) (fun c9 => absurd c9 (by decide +kernel)) (fun _ => ?_)
  refine lv_dload_n hx hb d_Mo_feed_14 rfl (lv_at hl 1 rfl) ?_
  refine lv_ldc2d (v := 14009883241494872064) hx hb hown (hts _ k_7_217) d_Mo_feed_15 ?_
  refine lv_dcmp hx hb d_Mo_feed_18 ?_
  refine lv_topi (fun x1 ex1 => ?_)
  refine lv_if_lt (tgt := 30) hx hb d_Mo_feed_19 (by decide) (fun c_19 => ?_) (fun c_19 => ?_)
  · refine lv_iconst (v := 0) hx hb d_Mo_feed_30 (by decide) ?_
    have hP9 := hP.sub (ws' := []) [] rfl
    have hD9 := hD.sub (ws' := []) [] (by decide) rfl
    refine W.widen (k := 0) (n := 0) (Nat.le_of_ble_eq_true rfl) (Nat.le_of_ble_eq_true rfl) ?_
    exact j_zret F hr rfl hlocks hK hS () (by first | exact Or.inl ⟨rfl, ⟨ex1 ▸ c_19, ex2 ▸ Int32.not_lt.mpr c_27⟩⟩ | exact Or.inr ⟨rfl, fun h => h.2 (ex2 ▸ Int32.not_le.mp c_27)⟩ | exact Or.inr ⟨rfl, fun h => h.1 (ex1 ▸ c_19)⟩) hP9 hD9 d_Mo_feed_31
  · refine lv_dload_n hx hb d_Mo_feed_22 rfl (lv_at hl 1 rfl) ?_
    refine lv_ldc2d (v := 4786511204640096256) hx hb hown (hts _ k_7_216) d_Mo_feed_23 ?_
    refine lv_dcmp hx hb d_Mo_feed_26 ?_
    refine lv_topi (fun x2 ex2 => ?_)
    refine lv_if_le (tgt := 32) hx hb d_Mo_feed_27 (by decide) (fun c_27 => ?_) (fun c_27 => ?_)
    · refine lv_aload_n hx hb d_Mo_feed_32 rfl (lv_at hl 0 rfl) ?_
      refine lv_aload_n hx hb d_Mo_feed_33 rfl (lv_at hl 0 rfl) ?_
      refine va_get (D := D) (ci := 11) (v := .int 0) (C := "PageScribeModel") (T := F_Mo) (N := 45) hx hb hts i_Mo hown hK hP 0 rfl rfl 4 (by decide) (hts _ k_6_164) (fun _ h9 => h9) rfl d_Mo_feed_34 ?_
      refine lv_iconst (v := 1) hx hb d_Mo_feed_37 (by decide) ?_
      refine lv_lconst (v := 0) hx hb d_Mo_feed_38 (by decide) ?_
      refine j_cv (wc := [(h0, .inr (11, [.int 0, .ref (ar 0), .ref (ar 1), .ref (ar 2), .int 0, .int 0, .ref (ar 3), .ref (ar 4), .ref (ar 5), .ref (ar 6), .int 1, .int 0, .int 0, .ref (ar 7), .ref (ar 8), .int 0, .int 0, .ref (ar 9), .ref (ar 10), .ref (ar 11), .ref (ar 12), .ref (ar 13), .ref (ar 14), .ref (ar 15), .int 0, .int 0, .int 0, .int 0, .ref (ar 16), .ref (ar 17), .int 0, .int 0, .int 0, .int 0, .int (nI C), .int (nI Rr), .ref (ar 18), .float 0x3f800000, .ref (ar 19), .ref (ar 20), .ref (ar 21), .int 0, .ref (ar 22), .ref (ar 23), .ref (ar 24)])), ((ar 0), .inl (T 0, 1300, .inl zI)), ((ar 1), .inl (T 1, 1300, .inr (.inl zJ))), ((ar 2), .inl (T 3, 1300, .inr (.inr (.inr (.inl zD)))))]) (wr := []) hK hP hD hS hA [0, 1, 2, 3] [] rfl rfl (by decide) (by decide) (va_runV (As := [.int 0, .int 1, .long 0]) (rest := []) F (c_Mo_set l D T h0 ar C Rr 1 0 H.size) (j_cV (k := 3) (C := "PageScribeModel") hts k_7_85 k_1_12 k_7_82 k_7_84 k_0_83 (by decide +kernel) ⟨Nat.le_of_ble_eq_true rfl, Nat.le_of_ble_eq_true rfl⟩) (j_preV (q0 := 0) (ci := 11) hK hP hD [0, 1, 2, 3] rfl (by decide) rfl rfl (fun _ _ _ _ h => h) (fun _ _ _ => trivial)) rfl rfl hl.1 rfl (lv_room (Nat.le_of_ble_eq_true rfl)) d_Mo_feed_39 ⟨Nat.le_of_ble_eq_true rfl, Nat.le_of_ble_eq_true rfl⟩) (fun u1 H locs hw hP hD hS => ?_)
      obtain ⟨g1_1, g2_1, g3_1⟩ := u1
      have hP : va_P D classes [(h0, .inr (11, [.int 0, .ref (ar 0), .ref (ar 1), .ref (ar 2), .int 0, .int 0, .ref (ar 3), .ref (ar 4), .ref (ar 5), .ref (ar 6), .int 1, .int 0, .int 0, .ref (ar 7), .ref (ar 8), .int 0, .int 0, .ref (ar 9), .ref (ar 10), .ref (ar 11), .ref (ar 12), .ref (ar 13), .ref (ar 14), .ref (ar 15), .int 0, .int 0, .int 0, .int 0, .ref (ar 16), .ref (ar 17), .int 0, .int 0, .int 0, .int 0, .int (nI C), .int (nI Rr), .ref (ar 18), .float 0x3f800000, .ref (ar 19), .ref (ar 20), .ref (ar 21), .int 0, .ref (ar 22), .ref (ar 23), .ref (ar 24)])), ((ar 0), .inl (T 0, 1300, .inl g1_1)), ((ar 1), .inl (T 1, 1300, .inr (.inl g2_1))), ((ar 2), .inl (T 3, 1300, .inr (.inr (.inr (.inl g3_1)))))] H := hP
      have hD : va_D A [(h0, .inr (11, [.int 0, .ref (ar 0), .ref (ar 1), .ref (ar 2), .int 0, .int 0, .ref (ar 3), .ref (ar 4), .ref (ar 5), .ref (ar 6), .int 1, .int 0, .int 0, .ref (ar 7), .ref (ar 8), .int 0, .int 0, .ref (ar 9), .ref (ar 10), .ref (ar 11), .ref (ar 12), .ref (ar 13), .ref (ar 14), .ref (ar 15), .int 0, .int 0, .int 0, .int 0, .ref (ar 16), .ref (ar 17), .int 0, .int 0, .int 0, .int 0, .int (nI C), .int (nI Rr), .ref (ar 18), .float 0x3f800000, .ref (ar 19), .ref (ar 20), .ref (ar 21), .int 0, .ref (ar 22), .ref (ar 23), .ref (ar 24)])), ((ar 0), .inl (T 0, 1300, .inl g1_1)), ((ar 1), .inl (T 1, 1300, .inr (.inl g2_1))), ((ar 2), .inl (T 3, 1300, .inr (.inr (.inr (.inl g3_1)))))] := hD
      refine lv_aload_n hx hb d_Mo_feed_42 rfl (lv_at hl 0 rfl) ?_
      refine va_get (D := D) (ci := 11) (v := .ref (ar 2)) (C := "PageScribeModel") (T := F_Mo) (N := 45) hx hb hts i_Mo hown hK hP 0 rfl rfl 3 (by decide) (hts _ k_6_163) (fun _ h9 => h9) rfl d_Mo_feed_43 ?_
      refine lv_aload_n hx hb d_Mo_feed_46 rfl (lv_at hl 0 rfl) ?_
      refine va_get (D := D) (ci := 11) (v := .int 0) (C := "PageScribeModel") (T := F_Mo) (N := 45) hx hb hts i_Mo hown hK hP 0 rfl rfl 4 (by decide) (hts _ k_6_164) (fun _ h9 => h9) rfl d_Mo_feed_47 ?_
      refine lv_dload_n hx hb d_Mo_feed_50 rfl (lv_at hl 1 rfl) ?_
      refine j_dast F hK hP hD hS 3 3 rfl rfl (by unfold vp_in; decide +kernel) d_Mo_feed_51 (fun g1 H locs hP hD hS => ?_)
      have hP : va_P D classes [(h0, .inr (11, [.int 0, .ref (ar 0), .ref (ar 1), .ref (ar 2), .int 0, .int 0, .ref (ar 3), .ref (ar 4), .ref (ar 5), .ref (ar 6), .int 1, .int 0, .int 0, .ref (ar 7), .ref (ar 8), .int 0, .int 0, .ref (ar 9), .ref (ar 10), .ref (ar 11), .ref (ar 12), .ref (ar 13), .ref (ar 14), .ref (ar 15), .int 0, .int 0, .int 0, .int 0, .ref (ar 16), .ref (ar 17), .int 0, .int 0, .int 0, .int 0, .int (nI C), .int (nI Rr), .ref (ar 18), .float 0x3f800000, .ref (ar 19), .ref (ar 20), .ref (ar 21), .int 0, .ref (ar 22), .ref (ar 23), .ref (ar 24)])), ((ar 0), .inl (T 0, 1300, .inl g1_1)), ((ar 1), .inl (T 1, 1300, .inr (.inl g2_1))), ((ar 2), .inl (T 3, 1300, .inr (.inr (.inr (.inl g1)))))] H := hP
      have hD : va_D A [(h0, .inr (11, [.int 0, .ref (ar 0), .ref (ar 1), .ref (ar 2), .int 0, .int 0, .ref (ar 3), .ref (ar 4), .ref (ar 5), .ref (ar 6), .int 1, .int 0, .int 0, .ref (ar 7), .ref (ar 8), .int 0, .int 0, .ref (ar 9), .ref (ar 10), .ref (ar 11), .ref (ar 12), .ref (ar 13), .ref (ar 14), .ref (ar 15), .int 0, .int 0, .int 0, .int 0, .ref (ar 16), .ref (ar 17), .int 0, .int 0, .int 0, .int 0, .int (nI C), .int (nI Rr), .ref (ar 18), .float 0x3f800000, .ref (ar 19), .ref (ar 20), .ref (ar 21), .int 0, .ref (ar 22), .ref (ar 23), .ref (ar 24)])), ((ar 0), .inl (T 0, 1300, .inl g1_1)), ((ar 1), .inl (T 1, 1300, .inr (.inl g2_1))), ((ar 2), .inl (T 3, 1300, .inr (.inr (.inr (.inl g1)))))] := hD
      refine lv_aload_n hx hb d_Mo_feed_52 rfl (lv_at hl 0 rfl) ?_
      refine lv_dup hx hb d_Mo_feed_53 rfl ?_
      refine va_get (D := D) (ci := 11) (v := .int 0) (C := "PageScribeModel") (T := F_Mo) (N := 45) hx hb hts i_Mo hown hK hP 0 rfl rfl 4 (by decide) (hts _ k_6_164) (fun _ h9 => h9) rfl d_Mo_feed_54 ?_
      refine lv_iconst (v := 1) hx hb d_Mo_feed_57 (by decide) ?_
      refine lv_iadd hx hb d_Mo_feed_58 ?_
      refine j_eqi (y := 1) (by decide +kernel) ?_
      refine va_put (D := D) (ci := 11) (v := .int 1) (ty := .int) (C := "PageScribeModel") (T := F_Mo) (N := 45) hx hb hts i_Mo t_Mo t_Mo_ok n_Mo hown hK hP hD hS 0 rfl rfl 4 (by decide) (hts _ k_6_164) (fun _ h9 => h9) rfl (by decide +kernel) rfl rfl (Nat.le_of_ble_eq_true rfl) d_Mo_feed_59 (fun H locs hP hD hS => ?_)
      have hP : va_P D classes [(h0, .inr (11, [.int 0, .ref (ar 0), .ref (ar 1), .ref (ar 2), .int 1, .int 0, .ref (ar 3), .ref (ar 4), .ref (ar 5), .ref (ar 6), .int 1, .int 0, .int 0, .ref (ar 7), .ref (ar 8), .int 0, .int 0, .ref (ar 9), .ref (ar 10), .ref (ar 11), .ref (ar 12), .ref (ar 13), .ref (ar 14), .ref (ar 15), .int 0, .int 0, .int 0, .int 0, .ref (ar 16), .ref (ar 17), .int 0, .int 0, .int 0, .int 0, .int (nI C), .int (nI Rr), .ref (ar 18), .float 0x3f800000, .ref (ar 19), .ref (ar 20), .ref (ar 21), .int 0, .ref (ar 22), .ref (ar 23), .ref (ar 24)])), ((ar 0), .inl (T 0, 1300, .inl g1_1)), ((ar 1), .inl (T 1, 1300, .inr (.inl g2_1))), ((ar 2), .inl (T 3, 1300, .inr (.inr (.inr (.inl g1)))))] H := hP
      have hD : va_D A [(h0, .inr (11, [.int 0, .ref (ar 0), .ref (ar 1), .ref (ar 2), .int 1, .int 0, .ref (ar 3), .ref (ar 4), .ref (ar 5), .ref (ar 6), .int 1, .int 0, .int 0, .ref (ar 7), .ref (ar 8), .int 0, .int 0, .ref (ar 9), .ref (ar 10), .ref (ar 11), .ref (ar 12), .ref (ar 13), .ref (ar 14), .ref (ar 15), .int 0, .int 0, .int 0, .int 0, .ref (ar 16), .ref (ar 17), .int 0, .int 0, .int 0, .int 0, .int (nI C), .int (nI Rr), .ref (ar 18), .float 0x3f800000, .ref (ar 19), .ref (ar 20), .ref (ar 21), .int 0, .ref (ar 22), .ref (ar 23), .ref (ar 24)])), ((ar 0), .inl (T 0, 1300, .inl g1_1)), ((ar 1), .inl (T 1, 1300, .inr (.inl g2_1))), ((ar 2), .inl (T 3, 1300, .inr (.inr (.inr (.inl g1)))))] := hD
      refine lv_iconst (v := 1) hx hb d_Mo_feed_62 (by decide) ?_
      have hP9 := hP.sub (ws' := []) [] rfl
      have hD9 := hD.sub (ws' := []) [] (by decide) rfl
      refine W.widen (k := 0) (n := 0) (Nat.le_of_ble_eq_true rfl) (Nat.le_of_ble_eq_true rfl) ?_
      exact j_zret F hr rfl hlocks hK hS () (by first | exact Or.inl ⟨rfl, ⟨ex1 ▸ c_19, ex2 ▸ Int32.not_lt.mpr c_27⟩⟩ | exact Or.inr ⟨rfl, fun h => h.2 (ex2 ▸ Int32.not_le.mp c_27)⟩ | exact Or.inr ⟨rfl, fun h => h.1 (ex1 ▸ c_19)⟩) hP9 hD9 d_Mo_feed_63
    · refine lv_iconst (v := 0) hx hb d_Mo_feed_30 (by decide) ?_
      have hP9 := hP.sub (ws' := []) [] rfl
      have hD9 := hD.sub (ws' := []) [] (by decide) rfl
      refine W.widen (k := 0) (n := 0) (Nat.le_of_ble_eq_true rfl) (Nat.le_of_ble_eq_true rfl) ?_
      exact j_zret F hr rfl hlocks hK hS () (by first | exact Or.inl ⟨rfl, ⟨ex1 ▸ c_19, ex2 ▸ Int32.not_lt.mpr c_27⟩⟩ | exact Or.inr ⟨rfl, fun h => h.2 (ex2 ▸ Int32.not_le.mp c_27)⟩ | exact Or.inr ⟨rfl, fun h => h.1 (ex1 ▸ c_19)⟩) hP9 hD9 d_Mo_feed_31
/-- the byte k of eight, from the lowest -/
def byM (x : Int64) (k : Nat) : Int32 := ((x >>> ((nI (8 * k)).toInt64 &&& 63)) &&& 255).toInt32
def okM (x : Int64) : Prop := ∀ i, i < 8 → okB (byM x i)
def mI : Nat → Int32
  | 0 => -1
  | k + 1 => nI k
theorem mI_s (j : Nat) : nI j + Int32.ofInt (-1) = mI j := by
  cases j with
  | zero => decide +kernel
  | succ j => exact pk_m1 j
theorem d_Mo_write_0 : decode prog_15_method_74_code 0 = .ok (.aload_n 0, 1) := by decide +kernel
theorem d_Mo_write_1 : decode prog_15_method_74_code 1 = .ok (.iconst 0, 1) := by decide +kernel
theorem d_Mo_write_2 : decode prog_15_method_74_code 2 = .ok (.putfield 242, 3) := by decide +kernel
theorem d_Mo_write_5 : decode prog_15_method_74_code 5 = .ok (.iconst 0, 1) := by decide +kernel
theorem d_Mo_write_6 : decode prog_15_method_74_code 6 = .ok (.istore_n 3, 1) := by decide +kernel
theorem d_Mo_write_7 : decode prog_15_method_74_code 7 = .ok (.iconst 0, 1) := by decide +kernel
theorem d_Mo_write_8 : decode prog_15_method_74_code 8 = .ok (.istore 4, 2) := by decide +kernel
theorem d_Mo_write_10 : decode prog_15_method_74_code 10 = .ok (.iload 4, 2) := by decide +kernel
theorem d_Mo_write_12 : decode prog_15_method_74_code 12 = .ok (.bipush 8, 2) := by decide +kernel
theorem d_Mo_write_14 : decode prog_15_method_74_code 14 = .ok (.if_icmp .ge 57, 3) := by decide +kernel
theorem d_Mo_write_71 : decode prog_15_method_74_code 71 = .ok (.aload_n 0, 1) := by decide +kernel
theorem d_Mo_write_72 : decode prog_15_method_74_code 72 = .ok (.getfield 270, 3) := by decide +kernel
theorem d_Mo_write_75 : decode prog_15_method_74_code 75 = .ok (.iload_n 3, 1) := by decide +kernel
theorem d_Mo_write_76 : decode prog_15_method_74_code 76 = .ok (.iadd, 1) := by decide +kernel
theorem d_Mo_write_77 : decode prog_15_method_74_code 77 = .ok (.bipush 120, 2) := by decide +kernel
theorem d_Mo_write_79 : decode prog_15_method_74_code 79 = .ok (.if_icmp .le 5, 3) := by decide +kernel
theorem d_Mo_write_84 : decode prog_15_method_74_code 84 = .ok (.bipush 7, 2) := by decide +kernel
theorem d_Mo_write_86 : decode prog_15_method_74_code 86 = .ok (.istore 4, 2) := by decide +kernel
theorem d_Mo_write_88 : decode prog_15_method_74_code 88 = .ok (.iload 4, 2) := by decide +kernel
theorem d_Mo_write_90 : decode prog_15_method_74_code 90 = .ok (.ifCond .lt 50, 3) := by decide +kernel
theorem d_Mo_write_140 : decode prog_15_method_74_code 140 = .ok (.iconst 1, 1) := by decide +kernel
theorem d_Mo_write_141 : decode prog_15_method_74_code 141 = .ok (.ireturn, 1) := by decide +kernel
theorem d_Mo_write_93 : decode prog_15_method_74_code 93 = .ok (.lload_n 1, 1) := by decide +kernel
theorem d_Mo_write_94 : decode prog_15_method_74_code 94 = .ok (.bipush 8, 2) := by decide +kernel
theorem d_Mo_write_96 : decode prog_15_method_74_code 96 = .ok (.iload 4, 2) := by decide +kernel
theorem d_Mo_write_98 : decode prog_15_method_74_code 98 = .ok (.imul, 1) := by decide +kernel
theorem d_Mo_write_99 : decode prog_15_method_74_code 99 = .ok (.lshr, 1) := by decide +kernel
theorem d_Mo_write_100 : decode prog_15_method_74_code 100 = .ok (.ldc2_w 564, 3) := by decide +kernel
theorem k_8_125 : Cond.constantLong "PageScribeModel" 564 (255 : Int64) ∈ gw := gw_of (tb_8 (List.mem_of_getElem? (i := 125) (by decide +kernel))) (by decide +kernel)
theorem d_Mo_write_103 : decode prog_15_method_74_code 103 = .ok (.land, 1) := by decide +kernel
theorem d_Mo_write_104 : decode prog_15_method_74_code 104 = .ok (.l2i, 1) := by decide +kernel
theorem d_Mo_write_105 : decode prog_15_method_74_code 105 = .ok (.istore 5, 2) := by decide +kernel
theorem d_Mo_write_107 : decode prog_15_method_74_code 107 = .ok (.iload 5, 2) := by decide +kernel
theorem d_Mo_write_109 : decode prog_15_method_74_code 109 = .ok (.ifCond .eq 25, 3) := by decide +kernel
theorem d_Mo_write_134 : decode prog_15_method_74_code 134 = .ok (.iinc 4 (-1), 3) := by decide +kernel
theorem d_Mo_write_137 : decode prog_15_method_74_code 137 = .ok (.goto (-49), 3) := by decide +kernel
theorem d_Mo_write_112 : decode prog_15_method_74_code 112 = .ok (.aload_n 0, 1) := by decide +kernel
theorem d_Mo_write_113 : decode prog_15_method_74_code 113 = .ok (.getfield 61, 3) := by decide +kernel
theorem d_Mo_write_116 : decode prog_15_method_74_code 116 = .ok (.aload_n 0, 1) := by decide +kernel
theorem d_Mo_write_117 : decode prog_15_method_74_code 117 = .ok (.getfield 270, 3) := by decide +kernel
theorem d_Mo_write_120 : decode prog_15_method_74_code 120 = .ok (.iload 5, 2) := by decide +kernel
theorem d_Mo_write_122 : decode prog_15_method_74_code 122 = .ok (.i2c, 1) := by decide +kernel
theorem d_Mo_write_123 : decode prog_15_method_74_code 123 = .ok (.castore, 1) := by decide +kernel
theorem d_Mo_write_124 : decode prog_15_method_74_code 124 = .ok (.aload_n 0, 1) := by decide +kernel
theorem d_Mo_write_125 : decode prog_15_method_74_code 125 = .ok (.dup, 1) := by decide +kernel
theorem d_Mo_write_126 : decode prog_15_method_74_code 126 = .ok (.getfield 270, 3) := by decide +kernel
theorem d_Mo_write_129 : decode prog_15_method_74_code 129 = .ok (.iconst 1, 1) := by decide +kernel
theorem d_Mo_write_130 : decode prog_15_method_74_code 130 = .ok (.iadd, 1) := by decide +kernel
theorem d_Mo_write_131 : decode prog_15_method_74_code 131 = .ok (.putfield 270, 3) := by decide +kernel
theorem d_Mo_write_17 : decode prog_15_method_74_code 17 = .ok (.lload_n 1, 1) := by decide +kernel
theorem d_Mo_write_18 : decode prog_15_method_74_code 18 = .ok (.bipush 8, 2) := by decide +kernel
theorem d_Mo_write_20 : decode prog_15_method_74_code 20 = .ok (.iload 4, 2) := by decide +kernel
theorem d_Mo_write_22 : decode prog_15_method_74_code 22 = .ok (.imul, 1) := by decide +kernel
theorem d_Mo_write_23 : decode prog_15_method_74_code 23 = .ok (.lshr, 1) := by decide +kernel
theorem d_Mo_write_24 : decode prog_15_method_74_code 24 = .ok (.ldc2_w 564, 3) := by decide +kernel
theorem d_Mo_write_27 : decode prog_15_method_74_code 27 = .ok (.land, 1) := by decide +kernel
theorem d_Mo_write_28 : decode prog_15_method_74_code 28 = .ok (.l2i, 1) := by decide +kernel
theorem d_Mo_write_29 : decode prog_15_method_74_code 29 = .ok (.istore 5, 2) := by decide +kernel
theorem d_Mo_write_52 : decode prog_15_method_74_code 52 = .ok (.iload_n 3, 1) := by decide +kernel
theorem d_Mo_write_53 : decode prog_15_method_74_code 53 = .ok (.iload 5, 2) := by decide +kernel
theorem d_Mo_write_55 : decode prog_15_method_74_code 55 = .ok (.ifCond .ne 7, 3) := by decide +kernel
theorem d_Mo_write_62 : decode prog_15_method_74_code 62 = .ok (.iconst 1, 1) := by decide +kernel
theorem d_Mo_write_63 : decode prog_15_method_74_code 63 = .ok (.iadd, 1) := by decide +kernel
theorem d_Mo_write_64 : decode prog_15_method_74_code 64 = .ok (.istore_n 3, 1) := by decide +kernel
theorem d_Mo_write_65 : decode prog_15_method_74_code 65 = .ok (.iinc 4 1, 3) := by decide +kernel
theorem d_Mo_write_68 : decode prog_15_method_74_code 68 = .ok (.goto (-58), 3) := by decide +kernel
theorem d_Mo_write_58 : decode prog_15_method_74_code 58 = .ok (.iconst 0, 1) := by decide +kernel
theorem d_Mo_write_59 : decode prog_15_method_74_code 59 = .ok (.goto 4, 3) := by decide +kernel
theorem d_Mo_write_31 : decode prog_15_method_74_code 31 = .ok (.iload 5, 2) := by decide +kernel
theorem d_Mo_write_33 : decode prog_15_method_74_code 33 = .ok (.ifCond .eq 19, 3) := by decide +kernel
theorem d_Mo_write_36 : decode prog_15_method_74_code 36 = .ok (.iload 5, 2) := by decide +kernel
theorem d_Mo_write_38 : decode prog_15_method_74_code 38 = .ok (.bipush 32, 2) := by decide +kernel
theorem d_Mo_write_40 : decode prog_15_method_74_code 40 = .ok (.if_icmp .lt 10, 3) := by decide +kernel
theorem d_Mo_write_50 : decode prog_15_method_74_code 50 = .ok (.iconst 0, 1) := by decide +kernel
theorem d_Mo_write_51 : decode prog_15_method_74_code 51 = .ok (.ireturn, 1) := by decide +kernel
theorem d_Mo_write_43 : decode prog_15_method_74_code 43 = .ok (.iload 5, 2) := by decide +kernel
theorem d_Mo_write_45 : decode prog_15_method_74_code 45 = .ok (.bipush 126, 2) := by decide +kernel
theorem d_Mo_write_47 : decode prog_15_method_74_code 47 = .ok (.if_icmp .le 5, 3) := by decide +kernel
set_option maxHeartbeats 4000000 in
set_option maxRecDepth 100000 in
theorem c_Mo_write (l : Launch) (D : va_G) (T : Nat → ClassId) (h0 : Nat) (ar : (Nat → Nat)) (C : Nat) (Rr : Nat) (v0 : Int64) (sz : Nat) : Met l ⟨"PageScribeModel", "write", "(J)Z"⟩ (wy ⟨"PageScribeModel", "write", "(J)Z"⟩ prog_15_method_74_code 6 (some .boolean)) ({ frames := 0, cells := 0, slots := 0, locals := 0 }) (va_Pc [.ref h0, .long v0] (Pw D T [(h0, .inr (11, [.int 0, .ref (ar 0), .ref (ar 1), .ref (ar 2), .int 0, .int 0, .ref (ar 3), .ref (ar 4), .ref (ar 5), .ref (ar 6), .int 1, .int 0, .int 0, .ref (ar 7), .ref (ar 8), .int 0, .int 0, .ref (ar 9), .ref (ar 10), .ref (ar 11), .ref (ar 12), .ref (ar 13), .ref (ar 14), .ref (ar 15), .int 0, .int 0, .int 0, .int 0, .ref (ar 16), .ref (ar 17), .int 0, .int 0, .int 0, .int 0, .int (nI C), .int (nI Rr), .ref (ar 18), .float 0x3f800000, .ref (ar 19), .ref (ar 20), .ref (ar 21), .int 0, .ref (ar 22), .ref (ar 23), .ref (ar 24)])), ((ar 15), .inl (T 2, 120, .inl zI))] sz E0)) (va_Qi (fun (r : Int32) (u : Unit) => (r = 1 ∧ okM v0) ∨ (r = 0 ∧ ¬ okM v0)) (fun u t => Bw D T (va_A [(h0, .inr (11, [.int 0, .ref (ar 0), .ref (ar 1), .ref (ar 2), .int 0, .int 0, .ref (ar 3), .ref (ar 4), .ref (ar 5), .ref (ar 6), .int 1, .int 0, .int 0, .ref (ar 7), .ref (ar 8), .int 0, .int 0, .ref (ar 9), .ref (ar 10), .ref (ar 11), .ref (ar 12), .ref (ar 13), .ref (ar 14), .ref (ar 15), .int 0, .int 0, .int 0, .int 0, .ref (ar 16), .ref (ar 17), .int 0, .int 0, .int 0, .int 0, .int (nI C), .int (nI Rr), .ref (ar 18), .float 0x3f800000, .ref (ar 19), .ref (ar 20), .ref (ar 21), .int 0, .ref (ar 22), .ref (ar 23), .ref (ar 24)])), ((ar 15), .inl (T 2, 120, .inl zI))] sz) [] t) (va_A [(h0, .inr (11, [.int 0, .ref (ar 0), .ref (ar 1), .ref (ar 2), .int 0, .int 0, .ref (ar 3), .ref (ar 4), .ref (ar 5), .ref (ar 6), .int 1, .int 0, .int 0, .ref (ar 7), .ref (ar 8), .int 0, .int 0, .ref (ar 9), .ref (ar 10), .ref (ar 11), .ref (ar 12), .ref (ar 13), .ref (ar 14), .ref (ar 15), .int 0, .int 0, .int 0, .int 0, .ref (ar 16), .ref (ar 17), .int 0, .int 0, .int 0, .int 0, .int (nI C), .int (nI Rr), .ref (ar 18), .float 0x3f800000, .ref (ar 19), .ref (ar 20), .ref (ar 21), .int 0, .ref (ar 22), .ref (ar 23), .ref (ar 24)])), ((ar 15), .inl (T 2, 120, .inl zI))] sz)) 0 0 (va_A [(h0, .inr (11, [.int 0, .ref (ar 0), .ref (ar 1), .ref (ar 2), .int 0, .int 0, .ref (ar 3), .ref (ar 4), .ref (ar 5), .ref (ar 6), .int 1, .int 0, .int 0, .ref (ar 7), .ref (ar 8), .int 0, .int 0, .ref (ar 9), .ref (ar 10), .ref (ar 11), .ref (ar 12), .ref (ar 13), .ref (ar 14), .ref (ar 15), .int 0, .int 0, .int 0, .int 0, .ref (ar 16), .ref (ar 17), .int 0, .int 0, .int 0, .int 0, .int (nI C), .int (nI Rr), .ref (ar 18), .float 0x3f800000, .ref (ar 19), .ref (ar 20), .ref (ar 21), .int 0, .ref (ar 22), .ref (ar 23), .ref (ar 24)])), ((ar 15), .inl (T 2, 120, .inl zI))] sz) := by
  refine j_met (y := ⟨"PageScribeModel", "write", "(J)Z"⟩) (b := prog_15_method_74_code) (n := 6) (ret := (some .boolean)) (av := [.ref h0, .long v0]) (Qc := fun A => va_Qi (fun (r : Int32) (u : Unit) => (r = 1 ∧ okM v0) ∨ (r = 0 ∧ ¬ okM v0)) (fun u t => Bw D T A [] t) A) (by decide +kernel) (Nat.le_of_ble_eq_true rfl) (fun p e s m args below meth c A ls F hr hlocks hnm hK hP hD hS hA hN hE hl => ?_)
  obtain ⟨hx, hb, hml, hown, hts⟩ := id F
  have hin := hnm
  have hl : lv_has ls 6 [(0, .ref h0), (1, .long v0)] := hl
  refine lv_aload_n hx hb d_Mo_write_0 rfl (lv_at hl 0 rfl) ?_
  refine lv_iconst (v := 0) hx hb d_Mo_write_1 (by decide) ?_
  refine va_put (D := D) (ci := 11) (v := .int 0) (ty := .int) (C := "PageScribeModel") (T := F_Mo) (N := 45) hx hb hts i_Mo t_Mo t_Mo_ok n_Mo hown hK hP hD hS 0 rfl rfl 0 (by decide) (hts _ k_6_160) (fun _ h9 => h9) rfl (by decide +kernel) rfl rfl (Nat.le_of_ble_eq_true rfl) d_Mo_write_2 (fun H locs hP hD hS => ?_)
  have hP : va_P D classes [(h0, .inr (11, [.int 0, .ref (ar 0), .ref (ar 1), .ref (ar 2), .int 0, .int 0, .ref (ar 3), .ref (ar 4), .ref (ar 5), .ref (ar 6), .int 1, .int 0, .int 0, .ref (ar 7), .ref (ar 8), .int 0, .int 0, .ref (ar 9), .ref (ar 10), .ref (ar 11), .ref (ar 12), .ref (ar 13), .ref (ar 14), .ref (ar 15), .int 0, .int 0, .int 0, .int 0, .ref (ar 16), .ref (ar 17), .int 0, .int 0, .int 0, .int 0, .int (nI C), .int (nI Rr), .ref (ar 18), .float 0x3f800000, .ref (ar 19), .ref (ar 20), .ref (ar 21), .int 0, .ref (ar 22), .ref (ar 23), .ref (ar 24)])), ((ar 15), .inl (T 2, 120, .inl zI))] H := hP
  have hD : va_D A [(h0, .inr (11, [.int 0, .ref (ar 0), .ref (ar 1), .ref (ar 2), .int 0, .int 0, .ref (ar 3), .ref (ar 4), .ref (ar 5), .ref (ar 6), .int 1, .int 0, .int 0, .ref (ar 7), .ref (ar 8), .int 0, .int 0, .ref (ar 9), .ref (ar 10), .ref (ar 11), .ref (ar 12), .ref (ar 13), .ref (ar 14), .ref (ar 15), .int 0, .int 0, .int 0, .int 0, .ref (ar 16), .ref (ar 17), .int 0, .int 0, .int 0, .int 0, .int (nI C), .int (nI Rr), .ref (ar 18), .float 0x3f800000, .ref (ar 19), .ref (ar 20), .ref (ar 21), .int 0, .ref (ar 22), .ref (ar 23), .ref (ar 24)])), ((ar 15), .inl (T 2, 120, .inl zI))] := hD
  refine lv_iconst (v := 0) hx hb d_Mo_write_5 (by decide) ?_
  refine lv_istore_n (lv' := [(3, .int 0), (0, .ref h0), (1, .long v0)]) hx hb d_Mo_write_6 rfl hl (by decide) rfl (fun ls hl => ?_)
  refine lv_iconst (v := 0) hx hb d_Mo_write_7 (by decide) ?_
  refine lv_istore (lv' := [(4, .int 0), (3, .int 0), (0, .ref h0), (1, .long v0)]) hx hb d_Mo_write_8 hl (by decide) rfl (fun ls hl => ?_)
  refine j_loop (α := Nat × Nat) (fun k x H locs ls => (x.1 + k = 8 ∧ x.2 ≤ x.1 ∧ ∀ i, i < x.1 → okB (byM v0 i)) ∧ va_P D classes [(h0, .inr (11, [.int 0, .ref (ar 0), .ref (ar 1), .ref (ar 2), .int 0, .int 0, .ref (ar 3), .ref (ar 4), .ref (ar 5), .ref (ar 6), .int 1, .int 0, .int 0, .ref (ar 7), .ref (ar 8), .int 0, .int 0, .ref (ar 9), .ref (ar 10), .ref (ar 11), .ref (ar 12), .ref (ar 13), .ref (ar 14), .ref (ar 15), .int 0, .int 0, .int 0, .int 0, .ref (ar 16), .ref (ar 17), .int 0, .int 0, .int 0, .int 0, .int (nI C), .int (nI Rr), .ref (ar 18), .float 0x3f800000, .ref (ar 19), .ref (ar 20), .ref (ar 21), .int 0, .ref (ar 22), .ref (ar 23), .ref (ar 24)])), ((ar 15), .inl (T 2, 120, .inl zI))] H ∧ va_D A [(h0, .inr (11, [.int 0, .ref (ar 0), .ref (ar 1), .ref (ar 2), .int 0, .int 0, .ref (ar 3), .ref (ar 4), .ref (ar 5), .ref (ar 6), .int 1, .int 0, .int 0, .ref (ar 7), .ref (ar 8), .int 0, .int 0, .ref (ar 9), .ref (ar 10), .ref (ar 11), .ref (ar 12), .ref (ar 13), .ref (ar 14), .ref (ar 15), .int 0, .int 0, .int 0, .int 0, .ref (ar 16), .ref (ar 17), .int 0, .int 0, .int 0, .int 0, .int (nI C), .int (nI Rr), .ref (ar 18), .float 0x3f800000, .ref (ar 19), .ref (ar 20), .ref (ar 21), .int 0, .ref (ar 22), .ref (ar 23), .ref (ar 24)])), ((ar 15), .inl (T 2, 120, .inl zI))] ∧ va_S A s.heap H locs ∧ lv_has ls 6 [(0, .ref h0), (1, .long v0), (3, .int (nI x.2)), (4, .int (nI x.1))]) (fun _ _ ls => F0 m 10 ls []) (fun k x H locs ls hI ih => ?_) 8 (0, 0) _ _ _ ⟨⟨(by dsimp only <;> omega), (by dsimp only <;> omega), fun i hi => absurd hi (Nat.not_lt_zero i)⟩, hP.sub [0, 1] rfl, hD.sub [0, 1] (by decide) rfl, hS, lv_sub hl [2, 3, 1, 0] rfl⟩
  obtain ⟨j, t⟩ := x
  obtain ⟨⟨hj1, hj2, hj3⟩, hP, hD, hS, hl⟩ := hI
  dsimp only at hj1 hj2 hj3
  have hP : va_P D classes [(h0, .inr (11, [.int 0, .ref (ar 0), .ref (ar 1), .ref (ar 2), .int 0, .int 0, .ref (ar 3), .ref (ar 4), .ref (ar 5), .ref (ar 6), .int 1, .int 0, .int 0, .ref (ar 7), .ref (ar 8), .int 0, .int 0, .ref (ar 9), .ref (ar 10), .ref (ar 11), .ref (ar 12), .ref (ar 13), .ref (ar 14), .ref (ar 15), .int 0, .int 0, .int 0, .int 0, .ref (ar 16), .ref (ar 17), .int 0, .int 0, .int 0, .int 0, .int (nI C), .int (nI Rr), .ref (ar 18), .float 0x3f800000, .ref (ar 19), .ref (ar 20), .ref (ar 21), .int 0, .ref (ar 22), .ref (ar 23), .ref (ar 24)])), ((ar 15), .inl (T 2, 120, .inl zI))] H := hP
  have hD : va_D A [(h0, .inr (11, [.int 0, .ref (ar 0), .ref (ar 1), .ref (ar 2), .int 0, .int 0, .ref (ar 3), .ref (ar 4), .ref (ar 5), .ref (ar 6), .int 1, .int 0, .int 0, .ref (ar 7), .ref (ar 8), .int 0, .int 0, .ref (ar 9), .ref (ar 10), .ref (ar 11), .ref (ar 12), .ref (ar 13), .ref (ar 14), .ref (ar 15), .int 0, .int 0, .int 0, .int 0, .ref (ar 16), .ref (ar 17), .int 0, .int 0, .int 0, .int 0, .int (nI C), .int (nI Rr), .ref (ar 18), .float 0x3f800000, .ref (ar 19), .ref (ar 20), .ref (ar 21), .int 0, .ref (ar 22), .ref (ar 23), .ref (ar 24)])), ((ar 15), .inl (T 2, 120, .inl zI))] := hD
  have hl : lv_has ls 6 [(0, .ref h0), (1, .long v0), (3, .int (nI t)), (4, .int (nI j))] := hl
  refine lv_iload hx hb d_Mo_write_10 (lv_at hl 3 rfl) ?_
  refine lv_bipush (v := 8) hx hb d_Mo_write_12 (by decide) ?_
  refine lv_icmp_ge (tgt := 71) hx hb d_Mo_write_14 (by decide) (fun c_14 => ?_) (fun c_14 => ?_)
  · have hj : j = 8 := by
      rcases Nat.lt_or_ge j 8 with q | q
      · exact absurd c_14 (nI_ge (a := j) (b := 8) q (by omega))
      · omega
    subst hj
    have hall : okM v0 := hj3
    refine lv_aload_n hx hb d_Mo_write_71 rfl (lv_at hl 0 rfl) ?_
    refine va_get (D := D) (ci := 11) (v := .int 0) (C := "PageScribeModel") (T := F_Mo) (N := 45) hx hb hts i_Mo hown hK hP 0 rfl rfl 24 (by decide) (hts _ k_6_184) (fun _ h9 => h9) rfl d_Mo_write_72 ?_
    refine lv_iload_n hx hb d_Mo_write_75 rfl (lv_at hl 2 rfl) ?_
    refine lv_iadd hx hb d_Mo_write_76 ?_
    refine j_eqi (y := (nI t)) (by rw [← nI_0, nI_add, Nat.zero_add]) ?_
    refine lv_bipush (v := 120) hx hb d_Mo_write_77 (by decide) ?_
    refine lv_icmp_le (tgt := 84) hx hb d_Mo_write_79 (by decide) (fun c_79 => ?_) (fun c_79 => absurd c_79 (fun q => q (show nI t ≤ nI 120 from nI_le (by omega) (by omega))))
    refine lv_bipush (v := 7) hx hb d_Mo_write_84 (by decide) ?_
    refine lv_istore (lv' := [(4, .int 7), (0, .ref h0), (1, .long v0), (3, .int (nI t))]) hx hb d_Mo_write_86 hl (by decide) rfl (fun ls hl => ?_)
    refine j_loop (α := Nat × (Nat → Int32)) (fun k x H locs ls => (x.1 + k ≤ 8) ∧ va_P D classes [(h0, .inr (11, [.int 0, .ref (ar 0), .ref (ar 1), .ref (ar 2), .int 0, .int 0, .ref (ar 3), .ref (ar 4), .ref (ar 5), .ref (ar 6), .int 1, .int 0, .int 0, .ref (ar 7), .ref (ar 8), .int 0, .int 0, .ref (ar 9), .ref (ar 10), .ref (ar 11), .ref (ar 12), .ref (ar 13), .ref (ar 14), .ref (ar 15), .int (nI x.1), .int 0, .int 0, .int 0, .ref (ar 16), .ref (ar 17), .int 0, .int 0, .int 0, .int 0, .int (nI C), .int (nI Rr), .ref (ar 18), .float 0x3f800000, .ref (ar 19), .ref (ar 20), .ref (ar 21), .int 0, .ref (ar 22), .ref (ar 23), .ref (ar 24)])), ((ar 15), .inl (T 2, 120, .inl x.2))] H ∧ va_D A [(h0, .inr (11, [.int 0, .ref (ar 0), .ref (ar 1), .ref (ar 2), .int 0, .int 0, .ref (ar 3), .ref (ar 4), .ref (ar 5), .ref (ar 6), .int 1, .int 0, .int 0, .ref (ar 7), .ref (ar 8), .int 0, .int 0, .ref (ar 9), .ref (ar 10), .ref (ar 11), .ref (ar 12), .ref (ar 13), .ref (ar 14), .ref (ar 15), .int (nI x.1), .int 0, .int 0, .int 0, .ref (ar 16), .ref (ar 17), .int 0, .int 0, .int 0, .int 0, .int (nI C), .int (nI Rr), .ref (ar 18), .float 0x3f800000, .ref (ar 19), .ref (ar 20), .ref (ar 21), .int 0, .ref (ar 22), .ref (ar 23), .ref (ar 24)])), ((ar 15), .inl (T 2, 120, .inl x.2))] ∧ va_S A s.heap H locs ∧ lv_has ls 6 [(0, .ref h0), (1, .long v0), (4, .int (mI k))]) (fun _ _ ls => F0 m 88 ls []) (fun k x H locs ls hI ih => ?_) 8 (0, zI) _ _ _ ⟨(by dsimp only <;> omega), hP.sub [0, 1] rfl, hD.sub [0, 1] (by decide) rfl, hS, lv_sub hl [1, 2, 0] rfl⟩
    obtain ⟨t, g⟩ := x
    obtain ⟨hj1, hP, hD, hS, hl⟩ := hI
    dsimp only at hj1
    have hP : va_P D classes [(h0, .inr (11, [.int 0, .ref (ar 0), .ref (ar 1), .ref (ar 2), .int 0, .int 0, .ref (ar 3), .ref (ar 4), .ref (ar 5), .ref (ar 6), .int 1, .int 0, .int 0, .ref (ar 7), .ref (ar 8), .int 0, .int 0, .ref (ar 9), .ref (ar 10), .ref (ar 11), .ref (ar 12), .ref (ar 13), .ref (ar 14), .ref (ar 15), .int (nI t), .int 0, .int 0, .int 0, .ref (ar 16), .ref (ar 17), .int 0, .int 0, .int 0, .int 0, .int (nI C), .int (nI Rr), .ref (ar 18), .float 0x3f800000, .ref (ar 19), .ref (ar 20), .ref (ar 21), .int 0, .ref (ar 22), .ref (ar 23), .ref (ar 24)])), ((ar 15), .inl (T 2, 120, .inl g))] H := hP
    have hD : va_D A [(h0, .inr (11, [.int 0, .ref (ar 0), .ref (ar 1), .ref (ar 2), .int 0, .int 0, .ref (ar 3), .ref (ar 4), .ref (ar 5), .ref (ar 6), .int 1, .int 0, .int 0, .ref (ar 7), .ref (ar 8), .int 0, .int 0, .ref (ar 9), .ref (ar 10), .ref (ar 11), .ref (ar 12), .ref (ar 13), .ref (ar 14), .ref (ar 15), .int (nI t), .int 0, .int 0, .int 0, .ref (ar 16), .ref (ar 17), .int 0, .int 0, .int 0, .int 0, .int (nI C), .int (nI Rr), .ref (ar 18), .float 0x3f800000, .ref (ar 19), .ref (ar 20), .ref (ar 21), .int 0, .ref (ar 22), .ref (ar 23), .ref (ar 24)])), ((ar 15), .inl (T 2, 120, .inl g))] := hD
    have hl : lv_has ls 6 [(0, .ref h0), (1, .long v0), (4, .int (mI k))] := hl
    refine lv_iload hx hb d_Mo_write_88 (lv_at hl 2 rfl) ?_
    refine lv_if_lt (tgt := 140) hx hb d_Mo_write_90 (by decide) (fun c_90 => ?_) (fun c_90 => ?_)
    · refine lv_iconst (v := 1) hx hb d_Mo_write_140 (by decide) ?_
      have hP9 := hP.sub (ws' := []) [] rfl
      have hD9 := hD.sub (ws' := []) [] (by decide) rfl
      refine W.widen (k := 0) (n := 0) (Nat.le_of_ble_eq_true rfl) (Nat.le_of_ble_eq_true rfl) ?_
      exact j_zret F hr rfl hlocks hK hS () (by first | exact Or.inr ⟨rfl, fun hw => (by rw [← hb9]; exact fun h => h.elim c_33 (fun h => h.1 c_40) : ¬ okB (byM v0 j)) (hw j hj8)⟩ | exact Or.inr ⟨rfl, fun hw => (by rw [← hb9]; exact fun h => h.elim c_33 (fun h => h.2 (Int32.not_le.mp c_47)) : ¬ okB (byM v0 j)) (hw j hj8)⟩ | exact Or.inl ⟨rfl, hall⟩) hP9 hD9 d_Mo_write_141
    · obtain ⟨j, rfl⟩ : ∃ j, k = j + 1 := ⟨k - 1, by rcases Nat.eq_zero_or_pos k with z | z; exact absurd (by subst z; decide +kernel) c_90; omega⟩
      have hl : lv_has ls 6 [(0, .ref h0), (1, .long v0), (4, .int (nI j))] := hl
      refine lv_lload_n hx hb d_Mo_write_93 rfl (lv_at hl 1 rfl) ?_
      refine lv_bipush (v := 8) hx hb d_Mo_write_94 (by decide) ?_
      refine lv_iload hx hb d_Mo_write_96 (lv_at hl 2 rfl) ?_
      refine lv_imul hx hb d_Mo_write_98 ?_
      refine j_eqi (y := (nI (8 * j))) (pk_mul 8 j) ?_
      refine lv_lshr (v := (v0 >>> (((nI (8 * j)) : Int32).toInt64 &&& 63))) hx hb d_Mo_write_99 rfl ?_
      refine lv_topl (fun x1 ex1 => ?_)
      refine lv_ldc2 (v := (255)) hx hb hown (hts _ k_8_125) d_Mo_write_100 ?_
      refine lv_land hx hb d_Mo_write_103 ?_
      refine lv_topl (fun x2 ex2 => ?_)
      refine lv_l2i (v := (x2).toInt32) hx hb d_Mo_write_104 rfl ?_
      refine lv_topi (fun x3 ex3 => ?_)
      refine lv_istore (lv' := [(5, .int x3), (0, .ref h0), (1, .long v0), (4, .int (nI j))]) hx hb d_Mo_write_105 hl (by decide) rfl (fun ls hl => ?_)
      refine lv_iload hx hb d_Mo_write_107 (lv_at hl 0 rfl) ?_
      refine lv_if_eq (tgt := 134) hx hb d_Mo_write_109 (by decide) (fun c_109 => ?_) (fun c_109 => ?_)
      · refine lv_iinc (v := (mI j)) (lv' := [(4, .int (mI j)), (5, .int x3), (0, .ref h0), (1, .long v0)]) hx hb d_Mo_write_134 hl (k := 3) rfl (mI_s j) (by decide) rfl (fun ls hl => ?_)
        refine lv_goto (tgt := 88) hx hb d_Mo_write_137 (by decide) ?_
        exact ih j (t, g) _ _ _ (by omega) ⟨(by dsimp only <;> omega), hP.sub [0, 1] rfl, hD.sub [0, 1] (by decide) rfl, hS, lv_sub hl [2, 3, 0] rfl⟩
      · refine lv_aload_n hx hb d_Mo_write_112 rfl (lv_at hl 1 rfl) ?_
        refine va_get (D := D) (ci := 11) (v := .ref (ar 15)) (C := "PageScribeModel") (T := F_Mo) (N := 45) hx hb hts i_Mo hown hK hP 0 rfl rfl 23 (by decide) (hts _ k_6_183) (fun _ h9 => h9) rfl d_Mo_write_113 ?_
        refine lv_aload_n hx hb d_Mo_write_116 rfl (lv_at hl 1 rfl) ?_
        refine va_get (D := D) (ci := 11) (v := .int (nI t)) (C := "PageScribeModel") (T := F_Mo) (N := 45) hx hb hts i_Mo hown hK hP 0 rfl rfl 24 (by decide) (hts _ k_6_184) (fun _ h9 => h9) rfl d_Mo_write_117 ?_
        refine lv_iload hx hb d_Mo_write_120 (lv_at hl 0 rfl) ?_
        refine lv_i2c (v := ((x3).toUInt32 % 65536).toInt32) hx hb d_Mo_write_122 rfl ?_
        refine lv_topi (fun x4 ex4 => ?_)
        refine j_cast F hK hP hD hS 1 2 rfl rfl (vp_in_nI (n := t) (N := 120) (by omega) (by omega)) d_Mo_write_123 (fun g1 H locs hP hD hS => ?_)
        have hP : va_P D classes [(h0, .inr (11, [.int 0, .ref (ar 0), .ref (ar 1), .ref (ar 2), .int 0, .int 0, .ref (ar 3), .ref (ar 4), .ref (ar 5), .ref (ar 6), .int 1, .int 0, .int 0, .ref (ar 7), .ref (ar 8), .int 0, .int 0, .ref (ar 9), .ref (ar 10), .ref (ar 11), .ref (ar 12), .ref (ar 13), .ref (ar 14), .ref (ar 15), .int (nI t), .int 0, .int 0, .int 0, .ref (ar 16), .ref (ar 17), .int 0, .int 0, .int 0, .int 0, .int (nI C), .int (nI Rr), .ref (ar 18), .float 0x3f800000, .ref (ar 19), .ref (ar 20), .ref (ar 21), .int 0, .ref (ar 22), .ref (ar 23), .ref (ar 24)])), ((ar 15), .inl (T 2, 120, .inl g1))] H := hP
        have hD : va_D A [(h0, .inr (11, [.int 0, .ref (ar 0), .ref (ar 1), .ref (ar 2), .int 0, .int 0, .ref (ar 3), .ref (ar 4), .ref (ar 5), .ref (ar 6), .int 1, .int 0, .int 0, .ref (ar 7), .ref (ar 8), .int 0, .int 0, .ref (ar 9), .ref (ar 10), .ref (ar 11), .ref (ar 12), .ref (ar 13), .ref (ar 14), .ref (ar 15), .int (nI t), .int 0, .int 0, .int 0, .ref (ar 16), .ref (ar 17), .int 0, .int 0, .int 0, .int 0, .int (nI C), .int (nI Rr), .ref (ar 18), .float 0x3f800000, .ref (ar 19), .ref (ar 20), .ref (ar 21), .int 0, .ref (ar 22), .ref (ar 23), .ref (ar 24)])), ((ar 15), .inl (T 2, 120, .inl g1))] := hD
        refine lv_aload_n hx hb d_Mo_write_124 rfl (lv_at hl 1 rfl) ?_
        refine lv_dup hx hb d_Mo_write_125 rfl ?_
        refine va_get (D := D) (ci := 11) (v := .int (nI t)) (C := "PageScribeModel") (T := F_Mo) (N := 45) hx hb hts i_Mo hown hK hP 0 rfl rfl 24 (by decide) (hts _ k_6_184) (fun _ h9 => h9) rfl d_Mo_write_126 ?_
        refine lv_iconst (v := 1) hx hb d_Mo_write_129 (by decide) ?_
        refine lv_iadd hx hb d_Mo_write_130 ?_
        refine j_eqi (y := (nI (t + 1))) (nI_add t 1) ?_
        refine va_put (D := D) (ci := 11) (v := .int (nI (t + 1))) (ty := .int) (C := "PageScribeModel") (T := F_Mo) (N := 45) hx hb hts i_Mo t_Mo t_Mo_ok n_Mo hown hK hP hD hS 0 rfl rfl 24 (by decide) (hts _ k_6_184) (fun _ h9 => h9) rfl (by decide +kernel) rfl rfl (Nat.le_of_ble_eq_true rfl) d_Mo_write_131 (fun H locs hP hD hS => ?_)
        have hP : va_P D classes [(h0, .inr (11, [.int 0, .ref (ar 0), .ref (ar 1), .ref (ar 2), .int 0, .int 0, .ref (ar 3), .ref (ar 4), .ref (ar 5), .ref (ar 6), .int 1, .int 0, .int 0, .ref (ar 7), .ref (ar 8), .int 0, .int 0, .ref (ar 9), .ref (ar 10), .ref (ar 11), .ref (ar 12), .ref (ar 13), .ref (ar 14), .ref (ar 15), .int (nI (t + 1)), .int 0, .int 0, .int 0, .ref (ar 16), .ref (ar 17), .int 0, .int 0, .int 0, .int 0, .int (nI C), .int (nI Rr), .ref (ar 18), .float 0x3f800000, .ref (ar 19), .ref (ar 20), .ref (ar 21), .int 0, .ref (ar 22), .ref (ar 23), .ref (ar 24)])), ((ar 15), .inl (T 2, 120, .inl g1))] H := hP
        have hD : va_D A [(h0, .inr (11, [.int 0, .ref (ar 0), .ref (ar 1), .ref (ar 2), .int 0, .int 0, .ref (ar 3), .ref (ar 4), .ref (ar 5), .ref (ar 6), .int 1, .int 0, .int 0, .ref (ar 7), .ref (ar 8), .int 0, .int 0, .ref (ar 9), .ref (ar 10), .ref (ar 11), .ref (ar 12), .ref (ar 13), .ref (ar 14), .ref (ar 15), .int (nI (t + 1)), .int 0, .int 0, .int 0, .ref (ar 16), .ref (ar 17), .int 0, .int 0, .int 0, .int 0, .int (nI C), .int (nI Rr), .ref (ar 18), .float 0x3f800000, .ref (ar 19), .ref (ar 20), .ref (ar 21), .int 0, .ref (ar 22), .ref (ar 23), .ref (ar 24)])), ((ar 15), .inl (T 2, 120, .inl g1))] := hD
        refine lv_iinc (v := (mI j)) (lv' := [(4, .int (mI j)), (5, .int x3), (0, .ref h0), (1, .long v0)]) hx hb d_Mo_write_134 hl (k := 3) rfl (mI_s j) (by decide) rfl (fun ls hl => ?_)
        refine lv_goto (tgt := 88) hx hb d_Mo_write_137 (by decide) ?_
        exact ih j ((t + 1), g1) _ _ _ (by omega) ⟨(by dsimp only <;> omega), hP.sub [0, 1] rfl, hD.sub [0, 1] (by decide) rfl, hS, lv_sub hl [2, 3, 0] rfl⟩
  · have hj8 : j < 8 := by
      rcases Nat.lt_or_ge j 8 with q | q
      · exact q
      · exact absurd (show nI 8 ≤ nI j from nI_le q (by omega)) c_14
    refine lv_lload_n hx hb d_Mo_write_17 rfl (lv_at hl 1 rfl) ?_
    refine lv_bipush (v := 8) hx hb d_Mo_write_18 (by decide) ?_
    refine lv_iload hx hb d_Mo_write_20 (lv_at hl 3 rfl) ?_
    refine lv_imul hx hb d_Mo_write_22 ?_
    refine j_eqi (y := (nI (8 * j))) (pk_mul 8 j) ?_
    refine lv_lshr (v := (v0 >>> (((nI (8 * j)) : Int32).toInt64 &&& 63))) hx hb d_Mo_write_23 rfl ?_
    refine lv_topl (fun x5 ex5 => ?_)
    refine lv_ldc2 (v := (255)) hx hb hown (hts _ k_8_125) d_Mo_write_24 ?_
    refine lv_land hx hb d_Mo_write_27 ?_
    refine lv_topl (fun x6 ex6 => ?_)
    refine lv_l2i (v := (x6).toInt32) hx hb d_Mo_write_28 rfl ?_
    refine lv_topi (fun x7 ex7 => ?_)
    refine lv_istore (lv' := [(5, .int x7), (0, .ref h0), (1, .long v0), (3, .int (nI t)), (4, .int (nI j))]) hx hb d_Mo_write_29 hl (by decide) rfl (fun ls hl => ?_)
    have hb9 : x7 = byM v0 j := by rw [ex7, ex6, ex5]; rfl
    refine j_join (α := Unit) (fun _ => okB x7) (fun _ => F0 m 52 ls []) (fun _ hok => ?_) (fun key => ?_)
    · refine lv_iload_n hx hb d_Mo_write_52 rfl (lv_at hl 3 rfl) ?_
      refine lv_iload hx hb d_Mo_write_53 (lv_at hl 0 rfl) ?_
      refine lv_if_ne (tgt := 62) hx hb d_Mo_write_55 (by decide) (fun c_55 => ?_) (fun c_55 => ?_)
      · refine lv_iconst (v := 1) hx hb d_Mo_write_62 (by decide) ?_
        refine lv_iadd hx hb d_Mo_write_63 ?_
        refine j_eqi (y := (nI (t + 1))) (nI_add t 1) ?_
        refine lv_istore_n (lv' := [(3, .int (nI (t + 1))), (5, .int x7), (0, .ref h0), (1, .long v0), (4, .int (nI j))]) hx hb d_Mo_write_64 rfl hl (by decide) rfl (fun ls hl => ?_)
        refine lv_iinc (v := (nI (j + 1))) (lv' := [(4, .int (nI (j + 1))), (3, .int (nI (t + 1))), (5, .int x7), (0, .ref h0), (1, .long v0)]) hx hb d_Mo_write_65 hl (k := 4) rfl (nI_1 j) (by decide) rfl (fun ls hl => ?_)
        refine lv_goto (tgt := 10) hx hb d_Mo_write_68 (by decide) ?_
        exact ih (k - 1) (j + 1, (t + 1)) _ _ _ (by omega) ⟨⟨(by dsimp only <;> omega), (by dsimp only <;> omega), (fun i hi => by dsimp only at hi; rcases Nat.lt_or_ge i j with q | q; exact hj3 i q; rw [show i = j by omega, ← hb9]; exact hok)⟩, hP.sub [0, 1] rfl, hD.sub [0, 1] (by decide) rfl, hS, lv_sub hl [3, 4, 1, 0] rfl⟩
      · refine lv_iconst (v := 0) hx hb d_Mo_write_58 (by decide) ?_
        refine lv_goto (tgt := 63) hx hb d_Mo_write_59 (by decide) ?_
        refine lv_iadd hx hb d_Mo_write_63 ?_
        refine j_eqi (y := (nI (t + 0))) (nI_add t 0) ?_
        refine lv_istore_n (lv' := [(3, .int (nI (t + 0))), (5, .int x7), (0, .ref h0), (1, .long v0), (4, .int (nI j))]) hx hb d_Mo_write_64 rfl hl (by decide) rfl (fun ls hl => ?_)
        refine lv_iinc (v := (nI (j + 1))) (lv' := [(4, .int (nI (j + 1))), (3, .int (nI (t + 0))), (5, .int x7), (0, .ref h0), (1, .long v0)]) hx hb d_Mo_write_65 hl (k := 4) rfl (nI_1 j) (by decide) rfl (fun ls hl => ?_)
        refine lv_goto (tgt := 10) hx hb d_Mo_write_68 (by decide) ?_
        exact ih (k - 1) (j + 1, (t + 0)) _ _ _ (by omega) ⟨⟨(by dsimp only <;> omega), (by dsimp only <;> omega), (fun i hi => by dsimp only at hi; rcases Nat.lt_or_ge i j with q | q; exact hj3 i q; rw [show i = j by omega, ← hb9]; exact hok)⟩, hP.sub [0, 1] rfl, hD.sub [0, 1] (by decide) rfl, hS, lv_sub hl [3, 4, 1, 0] rfl⟩
    · refine lv_iload hx hb d_Mo_write_31 (lv_at hl 0 rfl) ?_
      refine lv_if_eq (tgt := 52) hx hb d_Mo_write_33 (by decide) (fun c_33 => ?_) (fun c_33 => ?_)
      · exact key () (by first | exact Or.inl c_33 | exact Or.inr ⟨c_40, Int32.not_lt.mpr c_47⟩)
      · refine lv_iload hx hb d_Mo_write_36 (lv_at hl 0 rfl) ?_
        refine lv_bipush (v := 32) hx hb d_Mo_write_38 (by decide) ?_
        refine lv_icmp_lt (tgt := 50) hx hb d_Mo_write_40 (by decide) (fun c_40 => ?_) (fun c_40 => ?_)
        · refine lv_iconst (v := 0) hx hb d_Mo_write_50 (by decide) ?_
          have hP9 := hP.sub (ws' := []) [] rfl
          have hD9 := hD.sub (ws' := []) [] (by decide) rfl
          refine W.widen (k := 0) (n := 0) (Nat.le_of_ble_eq_true rfl) (Nat.le_of_ble_eq_true rfl) ?_
          exact j_zret F hr rfl hlocks hK hS () (by first | exact Or.inr ⟨rfl, fun hw => (by rw [← hb9]; exact fun h => h.elim c_33 (fun h => h.1 c_40) : ¬ okB (byM v0 j)) (hw j hj8)⟩ | exact Or.inr ⟨rfl, fun hw => (by rw [← hb9]; exact fun h => h.elim c_33 (fun h => h.2 (Int32.not_le.mp c_47)) : ¬ okB (byM v0 j)) (hw j hj8)⟩ | exact Or.inl ⟨rfl, hall⟩) hP9 hD9 d_Mo_write_51
        · refine lv_iload hx hb d_Mo_write_43 (lv_at hl 0 rfl) ?_
          refine lv_bipush (v := 126) hx hb d_Mo_write_45 (by decide) ?_
          refine lv_icmp_le (tgt := 52) hx hb d_Mo_write_47 (by decide) (fun c_47 => ?_) (fun c_47 => ?_)
          · exact key () (by first | exact Or.inl c_33 | exact Or.inr ⟨c_40, Int32.not_lt.mpr c_47⟩)
          · refine lv_iconst (v := 0) hx hb d_Mo_write_50 (by decide) ?_
            have hP9 := hP.sub (ws' := []) [] rfl
            have hD9 := hD.sub (ws' := []) [] (by decide) rfl
            refine W.widen (k := 0) (n := 0) (Nat.le_of_ble_eq_true rfl) (Nat.le_of_ble_eq_true rfl) ?_
            exact j_zret F hr rfl hlocks hK hS () (by first | exact Or.inr ⟨rfl, fun hw => (by rw [← hb9]; exact fun h => h.elim c_33 (fun h => h.1 c_40) : ¬ okB (byM v0 j)) (hw j hj8)⟩ | exact Or.inr ⟨rfl, fun hw => (by rw [← hb9]; exact fun h => h.elim c_33 (fun h => h.2 (Int32.not_le.mp c_47)) : ¬ okB (byM v0 j)) (hw j hj8)⟩ | exact Or.inl ⟨rfl, hall⟩) hP9 hD9 d_Mo_write_51
