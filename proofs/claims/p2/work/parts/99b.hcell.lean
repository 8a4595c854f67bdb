def EXs (b L : Nat) (xs : Nat → Int32) : State → Prop := fun U => va_X b L xs U U.heap ∧ b < U.heap.size ∧ L ≤ 1538
theorem EXs.calling {b L : Nat} {xs : Nat → Int32} {U : State} {g : JFrame} {mk : MethodId} {a : Array Value} (h : EXs b L xs U) : EXs b L xs (U.calling g mk a) := ⟨va_X.moved (u := U) (U := U.calling g mk a) (Vm.Alike.refl U.vm) h.1, h.2⟩
theorem EXs.at {b L : Nat} {xs : Nat → Int32} {A : Nat → Prop} {s U : State} {H : Heap} {locs : List Loc} (hbA : ¬ A b) (hS : va_S A s.heap H locs) (hU : U.heap = H) (hW : s.WarmedH U.vm) (h : EXs b L xs s) : EXs b L xs U := by
  refine ⟨va_X.moved hW.alike ?_, ?_, h.2.2⟩
  · rw [hU]
    exact h.1.kept (hS.2.1 b h.2.1 hbA)
  · rw [hU]
    exact Nat.lt_of_lt_of_le h.2.1 hS.1
theorem nL_toInt {L : Nat} (h : L ≤ 1538) : (Int32.ofNat L).toInt = (L : Int) := nI_toInt (Nat.lt_of_le_of_lt h (by decide))
theorem d_Lw_cell_0 : decode method_2_code 0 = .ok (.iload_n 1, 1) := by decide +kernel
theorem d_Lw_cell_1 : decode method_2_code 1 = .ok (.aload_n 0, 1) := by decide +kernel
theorem d_Lw_cell_2 : decode method_2_code 2 = .ok (.arraylength, 1) := by decide +kernel
theorem d_Lw_cell_3 : decode method_2_code 3 = .ok (.if_icmp .ge 9, 3) := by decide +kernel
theorem d_Lw_cell_12 : decode method_2_code 12 = .ok (.iconst 0, 1) := by decide +kernel
theorem d_Lw_cell_13 : decode method_2_code 13 = .ok (.ireturn, 1) := by decide +kernel
theorem d_Lw_cell_6 : decode method_2_code 6 = .ok (.aload_n 0, 1) := by decide +kernel
theorem d_Lw_cell_7 : decode method_2_code 7 = .ok (.iload_n 1, 1) := by decide +kernel
theorem d_Lw_cell_8 : decode method_2_code 8 = .ok (.iaload, 1) := by decide +kernel
theorem d_Lw_cell_9 : decode method_2_code 9 = .ok (.goto 4, 3) := by decide +kernel
set_option maxHeartbeats 4000000 in
set_option maxRecDepth 100000 in
theorem c_Lw_cell (l : Launch) (D : va_G) (T : Nat → ClassId) (L : Nat) (xs : Nat → Int32) (b : Nat) (p0 : Int32) (sz : Nat)  (h0 : 0 ≤ p0.toInt) : Met l ⟨"PageScribeLaw", "cell", "([II)I"⟩ (wy ⟨"PageScribeLaw", "cell", "([II)I"⟩ method_2_code 2 (some .int)) ({ frames := 0, cells := 0, slots := 0, locals := 0 }) (va_Pc [.ref b, .int p0] (Pw D T [] sz (EXs b L xs))) (va_Qi (fun (r : Int32) (u : Unit) => True) (fun u t => Bw D T (Rn sz) [] t) (Rn sz)) 0 0 (Rn sz) := by
  refine j_metR (y := ⟨"PageScribeLaw", "cell", "([II)I"⟩) (b := method_2_code) (n := 2) (ret := (some .int)) (av := [.ref b, .int p0]) (Qc := fun A => va_Qi (fun (r : Int32) (u : Unit) => True) (fun u t => Bw D T A [] t) A) (by decide +kernel) (Nat.le_of_ble_eq_true rfl) (fun p e s m args below meth c A0 ls F hr hlocks hnm hK hP hD hS hA0 hE hl => ?_)
  obtain ⟨hx, hb, hml, hown, hts⟩ := id F
  have hl : lv_has ls 2 [(0, .ref b), (1, .int p0)] := hl
  have rp0 := zt_rng p0
  have hbA : ¬ Rn s.heap.size b := Nat.not_le.mpr hE.2.1
  refine lv_iload_n hx hb d_Lw_cell_0 rfl (lv_at hl 1 rfl) ?_
  refine lv_aload_n hx hb d_Lw_cell_1 rfl (lv_at hl 0 rfl) ?_
  refine va_slen hx hb hE.1 hE.2.1 hbA hS d_Lw_cell_2 ?_
  refine lv_topi (fun x1 ex1 => ?_)
  have fx1 : x1.toInt = (L : Int) := by rw [ex1]; exact nL_toInt hE.2.2
  refine lv_icmp_ge (tgt := 12) hx hb d_Lw_cell_3 (by decide) (fun c3_1 => ?_) (fun c3_1 => ?_)
  · have fc3_1 : x1.toInt ≤ p0.toInt := zt_le (show x1.toInt = _ from rfl) (show p0.toInt = _ from rfl) c3_1
    refine lv_iconst (v := 0) hx hb d_Lw_cell_12 (by decide) ?_
    have hP := va_Pn (D := D) (H := s.heap)
    have hD := va_Dn (A := Rn s.heap.size)
    exact j_iret F hr hlocks hK hS () trivial hP hD d_Lw_cell_13
  · have fc3_1 : p0.toInt < x1.toInt := Int.not_le.mp (zt_nle (show x1.toInt = _ from rfl) (show p0.toInt = _ from rfl) c3_1)
    refine lv_aload_n hx hb d_Lw_cell_6 rfl (lv_at hl 0 rfl) ?_
    refine lv_iload_n hx hb d_Lw_cell_7 rfl (lv_at hl 1 rfl) ?_
    refine va_sld hx hb hE.1 hE.2.1 hbA hS (zt_in (show p0.toInt = _ from rfl) (by omega) (by omega)) d_Lw_cell_8 ?_
    refine lv_topi (fun x2 ex2 => ?_)
    refine lv_goto (tgt := 13) hx hb d_Lw_cell_9 (by decide) ?_
    have hP := va_Pn (D := D) (H := s.heap)
    have hD := va_Dn (A := Rn s.heap.size)
    exact j_iret F hr hlocks hK hS () trivial hP hD d_Lw_cell_13
