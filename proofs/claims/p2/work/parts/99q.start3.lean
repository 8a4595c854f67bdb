set_option maxHeartbeats 4000000 in
set_option maxRecDepth 100000 in
/-- the law from pc 35: the model stands, the out arrays are made, the loop begins -/
theorem start3 {p : Program} {e : Env} {s : State} {m : MethodId} {below : List Frame} {meth : Method} {c : Code} (l : Launch) (hfl : l.flags = flags0) {b L : Nat} {xs : Nat → Int32} (hL : L ≤ 1538) (D : va_G) (T : Nat → ClassId) (g : GE) (q69 q129 q141 q148 : Nat) (F : CallFix p m c code 9 s #[Value.ref b] gw "PageScribeLaw") (hr : meth.sig.returnType = ret) (hlocks : meth.locks = false) (hK : va_K D classes (TY T) s) (hX : va_X b L xs s s.heap) (hbl : b < s.heap.size) (hEV : EV g (Rn s.heap.size) s s.heap) (hnest : ∀ w ∈ nestL, va_Nw w s) (h69 : EY 69 "the fuel is not 1 to 500" q69 s) (h129 : EY 129 "there is no such VALUE" q129 s) (h141 : EY 141 "a REAL has no number" q141 s) (h148 : EY 148 "no number" q148 s) (hNC : NCi s) (pa : Nat → Nat) (q2 : Nat) (ar : Nat → Nat) {Sc : CS} {Sm : MS} {H : Heap} {locs : List Loc} {cells slots : Nat} {ls : Array Slot} (hIc : CIv Sc) (hIm : MI Sm) (hfr : (f_frames Sm).toInt = 0) (hln : (f_length Sm).toInt = (f_xr_length Sc).toInt) (hc : cells ≤ 200) (hs2 : slots ≤ 20000) (hP : va_P D classes (cW T pa Sc ++ mW T q2 ar Sm) H) (hD : va_D (Rn s.heap.size) (cW T pa Sc ++ mW T q2 ar Sm)) (hS : va_S (Rn s.heap.size) s.heap H locs) (hl : lv_has ls 9 [(1, .ref (pa 0)), (0, .ref b)]) : W p l e room_1 s m #[Value.ref b] below meth c H locs cells slots (lw_Z below #[Value.ref b] s) (F0 m 35 ls [.ref q2]) := by
  obtain ⟨hx, hb, hml, hown, hts⟩ := id F
  have hA : ∀ q : Nat, s.heap.size ≤ q → Rn s.heap.size q := fun q h => h
  have hbA : ¬ Rn s.heap.size b := Nat.not_le.mpr hbl
  have hEX : EXs b L xs s := ⟨hX, hbl, hL⟩
  generalize hw : cW T pa Sc ++ mW T q2 ar Sm = w0 at hP hD
  refine lv_astore_n (lv' := [(2, .ref q2), (1, .ref (pa 0)), (0, .ref b)]) hx hb d_Lw_law_35 rfl hl (by decide +kernel) rfl (fun ls hl => ?_)
  refine lv_iconst (v := 1) hx hb d_Lw_law_36 (by decide +kernel) ?_
  refine j_newa (atype := .long) (ty := .long) F k_7_56 rfl hK hP hD hS hA 1 (T 1) rfl (1, .inr (.inl zJ)) (fun _ => rfl) (by decide +kernel) (by decide +kernel) (by decide +kernel) (lw_c (by omega)) (lw_s (by omega)) d_Lw_law_37 (fun q3 H hP hD hS => ?_)
  refine lv_astore_n (lv' := [(3, .ref q3), (2, .ref q2), (1, .ref (pa 0)), (0, .ref b)]) hx hb d_Lw_law_39 rfl hl (by decide +kernel) rfl (fun ls hl => ?_)
  refine lv_iconst (v := 1) hx hb d_Lw_law_40 (by decide +kernel) ?_
  refine j_newa (atype := .double) (ty := .double) F k_1_68 rfl hK hP hD hS hA 3 (T 3) rfl (1, .inr (.inr (.inr (.inl zD)))) (fun _ => rfl) (by decide +kernel) (by decide +kernel) (by decide +kernel) (lw_c (by omega)) (lw_s (by omega)) d_Lw_law_41 (fun q4 H hP hD hS => ?_)
  refine lv_astore (lv' := [(4, .ref q4), (3, .ref q3), (2, .ref q2), (1, .ref (pa 0)), (0, .ref b)]) hx hb d_Lw_law_43 hl (by decide +kernel) rfl (fun ls hl => ?_)
  refine lv_iconst (v := 2) hx hb d_Lw_law_45 (by decide +kernel) ?_
  refine lv_istore (lv' := [(5, .int 2), (4, .ref q4), (3, .ref q3), (2, .ref q2), (1, .ref (pa 0)), (0, .ref b)]) hx hb d_Lw_law_46 hl (by decide +kernel) rfl (fun ls hl => ?_)
  subst hw
  have hP := hP.sub sxL sx_f
  have hD := hD.sub sxL sx_nd sx_m
  have hin := cw_in (hD.sub lcL lc_nd lc_all)
  have hEC : EC g (Rn s.heap.size) pa s := ⟨hEV, fun q h => h, hin, hnest⟩
  have hou : s.heap.size ≤ q3 := hD.2 0 (oJ T q3 zJ) rfl
  have hod : s.heap.size ≤ q4 := hD.2 1 (oD T q4 zD) rfl
  have t2 : (2 : Int32).toInt = 2 := by decide +kernel
  exact law_loop l hfl hL D T pa g q2 ar q3 q4 q69 q129 q141 q148 F hr hlocks hK hX hbl hEC h69 h129 h141 h148 hNC hou hod 512 2 Sc Sm zJ zD H _ _ _ _ ⟨by omega, by omega, by omega⟩ hIc hIm hfr hln ⟨by omega, by omega⟩ hP hD hS (lv_sub hl [5, 4, 3, 2, 1, 0] rfl)
