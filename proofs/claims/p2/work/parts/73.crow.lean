theorem dB_up {f : Nat → UInt64} {i n : Nat} {c : UInt64} (H : ∀ k, k < n → dB (f k)) (hv : dB c) : ∀ k, k < n → dB (vf_upd f i c k) := by
  intro k hk
  unfold vf_upd
  by_cases e : k = i
  · rw [if_pos e]; exact hv
  · rw [if_neg e]; exact H k hk
theorem sd_at {m r : Nat → Int32} (H : ∀ k, k < 7 → 0 ≤ (m k).toInt ∧ (m k).toInt ≤ (r k).toInt ∧ (r k).toInt ≤ (if k = 0 then 20 else 10)) {k : Nat} (hk : k < 7) : 0 ≤ (m k).toInt ∧ (m k).toInt ≤ (r k).toInt ∧ (r k).toInt ≤ 20 ∧ (¬ k = 0 → (r k).toInt ≤ 10) := by
  obtain ⟨h1, h2, h3⟩ := H k hk
  refine ⟨h1, h2, ?_, fun a => ?_⟩
  · split at h3 <;> omega
  · rw [if_neg a] at h3
    exact h3
theorem lv_le {S : CS} (h : 1 ≤ (f_xp_columns S).toInt ∧ (f_xp_columns S).toInt ≤ 24 ∧ 1 ≤ (f_xp_rows S).toInt ∧ (f_xp_rows S).toInt ≤ 16) : lvN S ≤ 384 := by
  unfold lvN
  have h1 : (f_xp_columns S).toInt * (f_xp_rows S).toInt ≤ 24 * 16 := Int.mul_le_mul h.2.1 h.2.2.2 (by omega) (by omega)
  omega
theorem tx_le (i : Nat) : txL.getD i 0 ≤ 11 := by
  rcases Nat.lt_or_ge i 97 with h | h
  · have hq : ∀ k : Fin 97, txL.getD k.val 0 ≤ 11 := by decide +kernel
    exact hq ⟨i, h⟩
  · have e : txL[i]? = none := List.getElem?_eq_none h
    rw [List.getD_eq_getElem?_getD, e]
    exact Nat.zero_le _
theorem met_ofF {l : Launch} {y : MethodName} {ws ws' : List Cond} {rm : Room} {Pc : Array Value → State → Prop} {Qc : Array Value → State → Outcome → State → Prop} {mc ms : Nat} {free : Addr → Prop} {cc : ByteArray} {maxL : Nat} {ret : Option FieldType}
    (hy : plainFor y = true) (hw : ws = Cond.code y cc maxL ret :: ws')
    (body : ∀ p e s m args below meth c s₁, BodyLoose p l y (headSpec ws rm) cc maxL ret e s m args below meth c s₁ → c.maxLocals = maxL → Pc args s →
      W p l e (headSpec ws rm).room s m args below meth c s.heap [] 0 0 (MQ below Qc args s mc ms free) (entryFrame m args maxL)) : Met l y ws rm Pc Qc mc ms free := by
  refine MetFree.of_bodySF (code := cc) (maxLocals := maxL) (ret := ret) hy ?_ ?_
  · intro args s m h hn
    have hc := atoms_spec (ws := ws) h _ (by rw [hw]; exact List.mem_cons_self)
    obtain ⟨meth, c, h1, h2, h3, h4, h5, h6, -⟩ := Cond.code_spec hn hc
    exact ⟨meth, c, h1, h2, h3, h4, h5, h6⟩
  · intro p e s m args below meth c s₁ B hml hP _
    have hh : s₁.heap = s.heap := by rw [B.state]; rfl
    obtain ⟨t, st, o, b1, b2, b3⟩ := body p e s m args below meth c s₁ B hml hP s₁ hh (Stand.of_body B)
    exact ⟨t, o, st, b1, b2, b3.1, b3.2⟩
theorem j_metF {l : Launch} {y : MethodName} {b : ByteArray} {n : Nat} {ret : Option FieldType} {rm : Room} {D : va_G} {T : Nat → ClassId} {ws : va_W} {sz : Nat} {E : State → Prop} {av : List Value} {Qc : (Nat → Prop) → Array Value → State → Outcome → State → Prop} {mc ms : Nat}
    (hy : plainFor y = true) (hn : (lg_sl av).length ≤ n)
    (body : ∀ (p : Program) (e : Env) (s : State) (m : MethodId) (args : Array Value) (below : List Frame) (meth : Method) (c : Code) (A : Nat → Prop) (ls : Array Slot),
      CallFix p m c b n s args gw y.cls → meth.sig.returnType = ret → meth.locks = false → meth.name = y.name → va_K D classes (TY T) s → va_P D classes ws s.heap → va_D A ws → va_S A s.heap s.heap [] → (∀ q : Nat, s.heap.size ≤ q → A q) → (∀ q : Nat, q < s.heap.size → (∀ (k : Nat) (e : va_E), ¬ ws[k]? = some (q, e)) → ¬ A q) → E s → lv_has ls n (lv_args 0 av) →
      W p l e rm s m args below meth c s.heap [] 0 0 (MQ below (Qc A) args s mc ms A) (F0 m 0 ls [])) :
    Met l y (wy y b n ret) rm (va_Pc av (Pw D T ws sz E)) (Qc (va_A ws sz)) mc ms (va_A ws sz) := by
  refine met_ofF (cc := b) (maxL := n) (ret := ret) hy rfl ?_
  intro p e s m args below meth c s₁ B hml hv
  obtain ⟨rfl, hsz, hP, hK, hD0, hE⟩ := hv
  have hts := atoms_spec (ws := wy y b n ret) B.pre
  have hown : s.vm.findClass y.cls = some m.cls := findClass_of_methodNamed B.named
  subst hsz
  rw [lg_entry_eq]
  exact body p e s m _ below meth c _ _ ⟨B.exec, B.bytes, hml, hown, fun w h => hts w (List.mem_cons_of_mem _ h)⟩ B.returns B.notSynchronized (name_of_methodNamed B.named B.method).1 hK hP (hD0.self (sz := s.heap.size)) va_S.rf (fun q h => Or.inr h)
    (fun q h1 h2 h3 => by
      rcases h3 with ⟨k, e, h⟩ | h
      · exact h2 k e h
      · omega) hE (lv_entry av hn)
theorem d_java_lang_Math_max_0 : decode prog_22_method_65_code 0 = .ok (.iload_n 0, 1) := by decide +kernel
theorem d_java_lang_Math_max_1 : decode prog_22_method_65_code 1 = .ok (.iload_n 1, 1) := by decide +kernel
theorem d_java_lang_Math_max_2 : decode prog_22_method_65_code 2 = .ok (.if_icmp .lt 7, 3) := by decide +kernel
theorem d_java_lang_Math_max_9 : decode prog_22_method_65_code 9 = .ok (.iload_n 1, 1) := by decide +kernel
theorem d_java_lang_Math_max_10 : decode prog_22_method_65_code 10 = .ok (.ireturn, 1) := by decide +kernel
theorem d_java_lang_Math_max_5 : decode prog_22_method_65_code 5 = .ok (.iload_n 0, 1) := by decide +kernel
theorem d_java_lang_Math_max_6 : decode prog_22_method_65_code 6 = .ok (.goto 4, 3) := by decide +kernel
set_option maxHeartbeats 4000000 in
set_option maxRecDepth 100000 in
theorem c_Math_max (l : Launch) (D : va_G) (T : Nat → ClassId) (p0 : Int32) (p1 : Int32) (sz : Nat)  : Met l ⟨"java/lang/Math", "max", "(II)I"⟩ (wy ⟨"java/lang/Math", "max", "(II)I"⟩ prog_22_method_65_code 2 (some .int)) ({ frames := 0, cells := 0, slots := 0, locals := 0 }) (va_Pc [.int p0, .int p1] (Pw D T [] sz E0)) (va_Qi (fun (r : Int32) (u : Unit) => p0.toInt ≤ r.toInt ∧ p1.toInt ≤ r.toInt ∧ (r.toInt = p0.toInt ∨ r.toInt = p1.toInt)) (fun u t => Bw D T (va_A [] sz) [] t) (va_A [] sz)) 0 0 (va_A [] sz) := by
  refine j_metF (y := ⟨"java/lang/Math", "max", "(II)I"⟩) (b := prog_22_method_65_code) (n := 2) (ret := (some .int)) (av := [.int p0, .int p1]) (Qc := fun A => va_Qi (fun (r : Int32) (u : Unit) => p0.toInt ≤ r.toInt ∧ p1.toInt ≤ r.toInt ∧ (r.toInt = p0.toInt ∨ r.toInt = p1.toInt)) (fun u t => Bw D T A [] t) A) (by decide +kernel) (Nat.le_of_ble_eq_true rfl) (fun p e s m args below meth c A ls F hr hlocks hnm hK hP hD hS hA hN hE hl => ?_)
  obtain ⟨hx, hb, hml, hown, hts⟩ := id F
  have hl : lv_has ls 2 [(0, .int p0), (1, .int p1)] := hl
  have rp0 := zt_rng p0
  have rp1 := zt_rng p1
  refine lv_iload_n hx hb d_java_lang_Math_max_0 rfl (lv_at hl 0 rfl) ?_
  refine lv_iload_n hx hb d_java_lang_Math_max_1 rfl (lv_at hl 1 rfl) ?_
  refine lv_icmp_lt (tgt := 9) hx hb d_java_lang_Math_max_2 (by decide) (fun c2_1 => ?_) (fun c2_1 => ?_)
  · have fc2_1 : p0.toInt < p1.toInt := zt_lt (show p0.toInt = _ from rfl) (show p1.toInt = _ from rfl) c2_1
    refine lv_iload_n hx hb d_java_lang_Math_max_9 rfl (lv_at hl 1 rfl) ?_
    exact j_iret F hr hlocks hK hS () (show p0.toInt ≤ p1.toInt ∧ p1.toInt ≤ p1.toInt ∧ (p1.toInt = p0.toInt ∨ p1.toInt = p1.toInt) by omega) hP hD d_java_lang_Math_max_10
  · have fc2_1 : p1.toInt ≤ p0.toInt := Int.not_lt.mp (zt_nlt (show p0.toInt = _ from rfl) (show p1.toInt = _ from rfl) c2_1)
    refine lv_iload_n hx hb d_java_lang_Math_max_5 rfl (lv_at hl 0 rfl) ?_
    refine lv_goto (tgt := 10) hx hb d_java_lang_Math_max_6 (by decide) ?_
    exact j_iret F hr hlocks hK hS () (show p0.toInt ≤ p0.toInt ∧ p1.toInt ≤ p0.toInt ∧ (p0.toInt = p0.toInt ∨ p0.toInt = p1.toInt) by omega) hP hD d_java_lang_Math_max_10
theorem d_java_lang_Math_min_0 : decode prog_22_method_69_code 0 = .ok (.iload_n 0, 1) := by decide +kernel
theorem d_java_lang_Math_min_1 : decode prog_22_method_69_code 1 = .ok (.iload_n 1, 1) := by decide +kernel
theorem d_java_lang_Math_min_2 : decode prog_22_method_69_code 2 = .ok (.if_icmp .gt 7, 3) := by decide +kernel
theorem d_java_lang_Math_min_9 : decode prog_22_method_69_code 9 = .ok (.iload_n 1, 1) := by decide +kernel
theorem d_java_lang_Math_min_10 : decode prog_22_method_69_code 10 = .ok (.ireturn, 1) := by decide +kernel
theorem d_java_lang_Math_min_5 : decode prog_22_method_69_code 5 = .ok (.iload_n 0, 1) := by decide +kernel
theorem d_java_lang_Math_min_6 : decode prog_22_method_69_code 6 = .ok (.goto 4, 3) := by decide +kernel
set_option maxHeartbeats 4000000 in
set_option maxRecDepth 100000 in
theorem c_Math_min (l : Launch) (D : va_G) (T : Nat → ClassId) (p0 : Int32) (p1 : Int32) (sz : Nat)  : Met l ⟨"java/lang/Math", "min", "(II)I"⟩ (wy ⟨"java/lang/Math", "min", "(II)I"⟩ prog_22_method_69_code 2 (some .int)) ({ frames := 0, cells := 0, slots := 0, locals := 0 }) (va_Pc [.int p0, .int p1] (Pw D T [] sz E0)) (va_Qi (fun (r : Int32) (u : Unit) => r.toInt ≤ p0.toInt ∧ r.toInt ≤ p1.toInt ∧ (r.toInt = p0.toInt ∨ r.toInt = p1.toInt)) (fun u t => Bw D T (va_A [] sz) [] t) (va_A [] sz)) 0 0 (va_A [] sz) := by
  refine j_metF (y := ⟨"java/lang/Math", "min", "(II)I"⟩) (b := prog_22_method_69_code) (n := 2) (ret := (some .int)) (av := [.int p0, .int p1]) (Qc := fun A => va_Qi (fun (r : Int32) (u : Unit) => r.toInt ≤ p0.toInt ∧ r.toInt ≤ p1.toInt ∧ (r.toInt = p0.toInt ∨ r.toInt = p1.toInt)) (fun u t => Bw D T A [] t) A) (by decide +kernel) (Nat.le_of_ble_eq_true rfl) (fun p e s m args below meth c A ls F hr hlocks hnm hK hP hD hS hA hN hE hl => ?_)
  obtain ⟨hx, hb, hml, hown, hts⟩ := id F
  have hl : lv_has ls 2 [(0, .int p0), (1, .int p1)] := hl
  have rp0 := zt_rng p0
  have rp1 := zt_rng p1
  refine lv_iload_n hx hb d_java_lang_Math_min_0 rfl (lv_at hl 0 rfl) ?_
  refine lv_iload_n hx hb d_java_lang_Math_min_1 rfl (lv_at hl 1 rfl) ?_
  refine lv_icmp_gt (tgt := 9) hx hb d_java_lang_Math_min_2 (by decide) (fun c2_1 => ?_) (fun c2_1 => ?_)
  · have fc2_1 : p1.toInt < p0.toInt := zt_lt (show p1.toInt = _ from rfl) (show p0.toInt = _ from rfl) c2_1
    refine lv_iload_n hx hb d_java_lang_Math_min_9 rfl (lv_at hl 1 rfl) ?_
    exact j_iret F hr hlocks hK hS () (show p1.toInt ≤ p0.toInt ∧ p1.toInt ≤ p1.toInt ∧ (p1.toInt = p0.toInt ∨ p1.toInt = p1.toInt) by omega) hP hD d_java_lang_Math_min_10
  · have fc2_1 : p0.toInt ≤ p1.toInt := Int.not_lt.mp (zt_nlt (show p1.toInt = _ from rfl) (show p0.toInt = _ from rfl) c2_1)
    refine lv_iload_n hx hb d_java_lang_Math_min_5 rfl (lv_at hl 0 rfl) ?_
    refine lv_goto (tgt := 10) hx hb d_java_lang_Math_min_6 (by decide) ?_
    exact j_iret F hr hlocks hK hS () (show p0.toInt ≤ p0.toInt ∧ p0.toInt ≤ p1.toInt ∧ (p0.toInt = p0.toInt ∨ p0.toInt = p1.toInt) by omega) hP hD d_java_lang_Math_min_10
theorem d_Row_kindAt_0 : decode prog_8_method_2_code 0 = .ok (.iload_n 1, 1) := by decide +kernel
theorem d_Row_kindAt_1 : decode prog_8_method_2_code 1 = .ok (.ifCond .lt 21, 3) := by decide +kernel
theorem d_Row_kindAt_22 : decode prog_8_method_2_code 22 = .ok (.iconst 0, 1) := by decide +kernel
theorem d_Row_kindAt_23 : decode prog_8_method_2_code 23 = .ok (.ireturn, 1) := by decide +kernel
theorem d_Row_kindAt_4 : decode prog_8_method_2_code 4 = .ok (.iload_n 1, 1) := by decide +kernel
theorem d_Row_kindAt_5 : decode prog_8_method_2_code 5 = .ok (.aload_n 0, 1) := by decide +kernel
theorem d_Row_kindAt_6 : decode prog_8_method_2_code 6 = .ok (.getfield 15, 3) := by decide +kernel
theorem k_1_46 : Cond.fieldLink "PageScribe$Row" 15 "PageScribe$Row" "kinds" "[I" ∈ gw := gw_of (tb_1 (List.mem_of_getElem? (i := 46) (by decide +kernel))) (by decide +kernel)
theorem d_Row_kindAt_9 : decode prog_8_method_2_code 9 = .ok (.arraylength, 1) := by decide +kernel
theorem d_Row_kindAt_10 : decode prog_8_method_2_code 10 = .ok (.if_icmp .ge 12, 3) := by decide +kernel
theorem d_Row_kindAt_13 : decode prog_8_method_2_code 13 = .ok (.aload_n 0, 1) := by decide +kernel
theorem d_Row_kindAt_14 : decode prog_8_method_2_code 14 = .ok (.getfield 15, 3) := by decide +kernel
theorem d_Row_kindAt_17 : decode prog_8_method_2_code 17 = .ok (.iload_n 1, 1) := by decide +kernel
theorem d_Row_kindAt_18 : decode prog_8_method_2_code 18 = .ok (.iaload, 1) := by decide +kernel
theorem d_Row_kindAt_19 : decode prog_8_method_2_code 19 = .ok (.goto 4, 3) := by decide +kernel
set_option maxHeartbeats 4000000 in
set_option maxRecDepth 100000 in
theorem c_Row_kindAt (l : Launch) (D : va_G) (T : Nat → ClassId) (ad : Nat → Nat) (S : CS) (p0 : Int32) (sz : Nat)  : Met l ⟨"PageScribe$Row", "kindAt", "(I)I"⟩ (wy ⟨"PageScribe$Row", "kindAt", "(I)I"⟩ prog_8_method_2_code 2 (some .int)) ({ frames := 0, cells := 0, slots := 0, locals := 0 }) (va_Pc [.ref (ad 1), .int p0] (Pw D T (cW T ad S) sz E0)) (va_Qi (fun (r : Int32) (u : Unit) => True) (fun u t => Bw D T (va_A (cW T ad S) sz) (cW T ad S) t) (va_A (cW T ad S) sz)) 0 0 (va_A (cW T ad S) sz) := by
  refine j_met (y := ⟨"PageScribe$Row", "kindAt", "(I)I"⟩) (b := prog_8_method_2_code) (n := 2) (ret := (some .int)) (av := [.ref (ad 1), .int p0]) (Qc := fun A => va_Qi (fun (r : Int32) (u : Unit) => True) (fun u t => Bw D T A (cW T ad S) t) A) (by decide +kernel) (Nat.le_of_ble_eq_true rfl) (fun p e s m args below meth c A ls F hr hlocks hnm hK hP hD hS hA hN hE hl => ?_)
  obtain ⟨hx, hb, hml, hown, hts⟩ := id F
  have hl : lv_has ls 2 [(0, .ref (ad 1)), (1, .int p0)] := hl
  have rp0 := zt_rng p0
  refine lv_iload_n hx hb d_Row_kindAt_0 rfl (lv_at hl 1 rfl) ?_
  refine lv_if_lt (tgt := 22) hx hb d_Row_kindAt_1 (by decide) (fun c1_1 => ?_) (fun c1_1 => ?_)
  · have fc1_1 : p0.toInt < 0 := zt_lt (show p0.toInt = _ from rfl) tI_0 c1_1
    refine lv_iconst (v := 0) hx hb d_Row_kindAt_22 (by decide) ?_
    exact j_iret F hr hlocks hK hS () trivial hP hD d_Row_kindAt_23
  · have fc1_1 : 0 ≤ p0.toInt := Int.not_lt.mp (zt_nlt (show p0.toInt = _ from rfl) tI_0 c1_1)
    refine lv_iload_n hx hb d_Row_kindAt_4 rfl (lv_at hl 1 rfl) ?_
    refine lv_aload_n hx hb d_Row_kindAt_5 rfl (lv_at hl 0 rfl) ?_
    refine va_get (D := D) (ci := 0) (v := .ref (ad 2)) (C := "PageScribe$Stack") (T := F_Stack) (N := 4) hx hb hts i_Stack hown hK hP 1 (ce_1 _ _ _) cl_0 0 (by decide) (hts _ k_1_46) (fun _ h9 => h9) rfl d_Row_kindAt_6 ?_
    refine va_alen (v := 40) hx hb hK hP 2 0 (ce_2 _ _ _) rfl (show Int32.ofNat 40 = 40 from by decide +kernel) d_Row_kindAt_9 ?_
    refine lv_icmp_ge (tgt := 22) hx hb d_Row_kindAt_10 (by decide) (fun c10_1 => ?_) (fun c10_1 => ?_)
    · have fc10_1 : 40 ≤ p0.toInt := zt_le tI_40 (show p0.toInt = _ from rfl) c10_1
      refine lv_iconst (v := 0) hx hb d_Row_kindAt_22 (by decide) ?_
      exact j_iret F hr hlocks hK hS () trivial hP hD d_Row_kindAt_23
    · have fc10_1 : p0.toInt < 40 := Int.not_le.mp (zt_nle tI_40 (show p0.toInt = _ from rfl) c10_1)
      refine lv_aload_n hx hb d_Row_kindAt_13 rfl (lv_at hl 0 rfl) ?_
      refine va_get (D := D) (ci := 0) (v := .ref (ad 2)) (C := "PageScribe$Stack") (T := F_Stack) (N := 4) hx hb hts i_Stack hown hK hP 1 (ce_1 _ _ _) cl_0 0 (by decide) (hts _ k_1_46) (fun _ h9 => h9) rfl d_Row_kindAt_14 ?_
      refine lv_iload_n hx hb d_Row_kindAt_17 rfl (lv_at hl 1 rfl) ?_
      refine va_iald hx hb hK hP 2 0 (ce_2 _ _ _) rfl (zt_in (show p0.toInt = _ from rfl) (by omega) (by omega)) d_Row_kindAt_18 ?_
      refine lv_topi (fun x1 ex1 => ?_)
      have gx1 : x1 = (a_xst_k S) p0.toInt.toNat := ex1.trans (congrArg _ (zt_ix (show p0.toInt = _ from rfl)))
      have fx1 : x1.toInt = ((a_xst_k S) p0.toInt.toNat).toInt := by rw [gx1]
      have rx1 := zt_rng x1
      refine lv_goto (tgt := 23) hx hb d_Row_kindAt_19 (by decide) ?_
      exact j_iret F hr hlocks hK hS () trivial hP hD d_Row_kindAt_23
theorem d_Row_numberAt_0 : decode prog_8_method_3_code 0 = .ok (.iload_n 1, 1) := by decide +kernel
theorem d_Row_numberAt_1 : decode prog_8_method_3_code 1 = .ok (.ifCond .lt 21, 3) := by decide +kernel
theorem d_Row_numberAt_22 : decode prog_8_method_3_code 22 = .ok (.iconst 0, 1) := by decide +kernel
theorem d_Row_numberAt_23 : decode prog_8_method_3_code 23 = .ok (.ireturn, 1) := by decide +kernel
theorem d_Row_numberAt_4 : decode prog_8_method_3_code 4 = .ok (.iload_n 1, 1) := by decide +kernel
theorem d_Row_numberAt_5 : decode prog_8_method_3_code 5 = .ok (.aload_n 0, 1) := by decide +kernel
theorem d_Row_numberAt_6 : decode prog_8_method_3_code 6 = .ok (.getfield 19, 3) := by decide +kernel
theorem k_1_47 : Cond.fieldLink "PageScribe$Row" 19 "PageScribe$Row" "numbers" "[I" ∈ gw := gw_of (tb_1 (List.mem_of_getElem? (i := 47) (by decide +kernel))) (by decide +kernel)
theorem d_Row_numberAt_9 : decode prog_8_method_3_code 9 = .ok (.arraylength, 1) := by decide +kernel
theorem d_Row_numberAt_10 : decode prog_8_method_3_code 10 = .ok (.if_icmp .ge 12, 3) := by decide +kernel
theorem d_Row_numberAt_13 : decode prog_8_method_3_code 13 = .ok (.aload_n 0, 1) := by decide +kernel
theorem d_Row_numberAt_14 : decode prog_8_method_3_code 14 = .ok (.getfield 19, 3) := by decide +kernel
theorem d_Row_numberAt_17 : decode prog_8_method_3_code 17 = .ok (.iload_n 1, 1) := by decide +kernel
theorem d_Row_numberAt_18 : decode prog_8_method_3_code 18 = .ok (.iaload, 1) := by decide +kernel
theorem d_Row_numberAt_19 : decode prog_8_method_3_code 19 = .ok (.goto 4, 3) := by decide +kernel
set_option maxHeartbeats 4000000 in
set_option maxRecDepth 100000 in
theorem c_Row_numberAt (l : Launch) (D : va_G) (T : Nat → ClassId) (ad : Nat → Nat) (S : CS) (p0 : Int32) (sz : Nat)  : Met l ⟨"PageScribe$Row", "numberAt", "(I)I"⟩ (wy ⟨"PageScribe$Row", "numberAt", "(I)I"⟩ prog_8_method_3_code 2 (some .int)) ({ frames := 0, cells := 0, slots := 0, locals := 0 }) (va_Pc [.ref (ad 1), .int p0] (Pw D T (cW T ad S) sz E0)) (va_Qi (fun (r : Int32) (u : Unit) => True) (fun u t => Bw D T (va_A (cW T ad S) sz) (cW T ad S) t) (va_A (cW T ad S) sz)) 0 0 (va_A (cW T ad S) sz) := by
  refine j_met (y := ⟨"PageScribe$Row", "numberAt", "(I)I"⟩) (b := prog_8_method_3_code) (n := 2) (ret := (some .int)) (av := [.ref (ad 1), .int p0]) (Qc := fun A => va_Qi (fun (r : Int32) (u : Unit) => True) (fun u t => Bw D T A (cW T ad S) t) A) (by decide +kernel) (Nat.le_of_ble_eq_true rfl) (fun p e s m args below meth c A ls F hr hlocks hnm hK hP hD hS hA hN hE hl => ?_)
  obtain ⟨hx, hb, hml, hown, hts⟩ := id F
  have hl : lv_has ls 2 [(0, .ref (ad 1)), (1, .int p0)] := hl
  have rp0 := zt_rng p0
  refine lv_iload_n hx hb d_Row_numberAt_0 rfl (lv_at hl 1 rfl) ?_
  refine lv_if_lt (tgt := 22) hx hb d_Row_numberAt_1 (by decide) (fun c1_1 => ?_) (fun c1_1 => ?_)
  · have fc1_1 : p0.toInt < 0 := zt_lt (show p0.toInt = _ from rfl) tI_0 c1_1
    refine lv_iconst (v := 0) hx hb d_Row_numberAt_22 (by decide) ?_
    exact j_iret F hr hlocks hK hS () trivial hP hD d_Row_numberAt_23
  · have fc1_1 : 0 ≤ p0.toInt := Int.not_lt.mp (zt_nlt (show p0.toInt = _ from rfl) tI_0 c1_1)
    refine lv_iload_n hx hb d_Row_numberAt_4 rfl (lv_at hl 1 rfl) ?_
    refine lv_aload_n hx hb d_Row_numberAt_5 rfl (lv_at hl 0 rfl) ?_
    refine va_get (D := D) (ci := 0) (v := .ref (ad 3)) (C := "PageScribe$Stack") (T := F_Stack) (N := 4) hx hb hts i_Stack hown hK hP 1 (ce_1 _ _ _) cl_0 1 (by decide) (hts _ k_1_47) (fun _ h9 => h9) rfl d_Row_numberAt_6 ?_
    refine va_alen (v := 40) hx hb hK hP 3 0 (ce_3 _ _ _) rfl (show Int32.ofNat 40 = 40 from by decide +kernel) d_Row_numberAt_9 ?_
    refine lv_icmp_ge (tgt := 22) hx hb d_Row_numberAt_10 (by decide) (fun c10_1 => ?_) (fun c10_1 => ?_)
    · have fc10_1 : 40 ≤ p0.toInt := zt_le tI_40 (show p0.toInt = _ from rfl) c10_1
      refine lv_iconst (v := 0) hx hb d_Row_numberAt_22 (by decide) ?_
      exact j_iret F hr hlocks hK hS () trivial hP hD d_Row_numberAt_23
    · have fc10_1 : p0.toInt < 40 := Int.not_le.mp (zt_nle tI_40 (show p0.toInt = _ from rfl) c10_1)
      refine lv_aload_n hx hb d_Row_numberAt_13 rfl (lv_at hl 0 rfl) ?_
      refine va_get (D := D) (ci := 0) (v := .ref (ad 3)) (C := "PageScribe$Stack") (T := F_Stack) (N := 4) hx hb hts i_Stack hown hK hP 1 (ce_1 _ _ _) cl_0 1 (by decide) (hts _ k_1_47) (fun _ h9 => h9) rfl d_Row_numberAt_14 ?_
      refine lv_iload_n hx hb d_Row_numberAt_17 rfl (lv_at hl 1 rfl) ?_
      refine va_iald hx hb hK hP 3 0 (ce_3 _ _ _) rfl (zt_in (show p0.toInt = _ from rfl) (by omega) (by omega)) d_Row_numberAt_18 ?_
      refine lv_topi (fun x1 ex1 => ?_)
      have gx1 : x1 = (a_xst_n S) p0.toInt.toNat := ex1.trans (congrArg _ (zt_ix (show p0.toInt = _ from rfl)))
      have fx1 : x1.toInt = ((a_xst_n S) p0.toInt.toNat).toInt := by rw [gx1]
      have rx1 := zt_rng x1
      refine lv_goto (tgt := 23) hx hb d_Row_numberAt_19 (by decide) ?_
      exact j_iret F hr hlocks hK hS () trivial hP hD d_Row_numberAt_23
theorem d_Row_realAt_0 : decode prog_8_method_4_code 0 = .ok (.iload_n 1, 1) := by decide +kernel
theorem d_Row_realAt_1 : decode prog_8_method_4_code 1 = .ok (.ifCond .lt 21, 3) := by decide +kernel
theorem d_Row_realAt_22 : decode prog_8_method_4_code 22 = .ok (.dconst 0, 1) := by decide +kernel
theorem d_Row_realAt_23 : decode prog_8_method_4_code 23 = .ok (.dreturn, 1) := by decide +kernel
theorem d_Row_realAt_4 : decode prog_8_method_4_code 4 = .ok (.iload_n 1, 1) := by decide +kernel
theorem d_Row_realAt_5 : decode prog_8_method_4_code 5 = .ok (.aload_n 0, 1) := by decide +kernel
theorem d_Row_realAt_6 : decode prog_8_method_4_code 6 = .ok (.getfield 22, 3) := by decide +kernel
theorem k_1_48 : Cond.fieldLink "PageScribe$Row" 22 "PageScribe$Row" "reals" "[D" ∈ gw := gw_of (tb_1 (List.mem_of_getElem? (i := 48) (by decide +kernel))) (by decide +kernel)
theorem d_Row_realAt_9 : decode prog_8_method_4_code 9 = .ok (.arraylength, 1) := by decide +kernel
theorem d_Row_realAt_10 : decode prog_8_method_4_code 10 = .ok (.if_icmp .ge 12, 3) := by decide +kernel
theorem d_Row_realAt_13 : decode prog_8_method_4_code 13 = .ok (.aload_n 0, 1) := by decide +kernel
theorem d_Row_realAt_14 : decode prog_8_method_4_code 14 = .ok (.getfield 22, 3) := by decide +kernel
theorem d_Row_realAt_17 : decode prog_8_method_4_code 17 = .ok (.iload_n 1, 1) := by decide +kernel
theorem d_Row_realAt_18 : decode prog_8_method_4_code 18 = .ok (.daload, 1) := by decide +kernel
theorem d_Row_realAt_19 : decode prog_8_method_4_code 19 = .ok (.goto 4, 3) := by decide +kernel
set_option maxHeartbeats 4000000 in
set_option maxRecDepth 100000 in
theorem c_Row_realAt (l : Launch) (D : va_G) (T : Nat → ClassId) (ad : Nat → Nat) (S : CS) (p0 : Int32) (sz : Nat)  (hI : CIv S) : Met l ⟨"PageScribe$Row", "realAt", "(I)D"⟩ (wy ⟨"PageScribe$Row", "realAt", "(I)D"⟩ prog_8_method_4_code 2 (some .double)) ({ frames := 0, cells := 0, slots := 0, locals := 0 }) (va_Pc [.ref (ad 1), .int p0] (Pw D T (cW T ad S) sz E0)) (va_Qd (fun (r : UInt64) (u : Unit) => dB r) (fun u t => Bw D T (va_A (cW T ad S) sz) (cW T ad S) t) (va_A (cW T ad S) sz)) 0 0 (va_A (cW T ad S) sz) := by
  refine j_met (y := ⟨"PageScribe$Row", "realAt", "(I)D"⟩) (b := prog_8_method_4_code) (n := 2) (ret := (some .double)) (av := [.ref (ad 1), .int p0]) (Qc := fun A => va_Qd (fun (r : UInt64) (u : Unit) => dB r) (fun u t => Bw D T A (cW T ad S) t) A) (by decide +kernel) (Nat.le_of_ble_eq_true rfl) (fun p e s m args below meth c A ls F hr hlocks hnm hK hP hD hS hA hN hE hl => ?_)
  obtain ⟨hx, hb, hml, hown, hts⟩ := id F
  have hl : lv_has ls 2 [(0, .ref (ad 1)), (1, .int p0)] := hl
  obtain ⟨i_vst, i_vc0, i_vc1, i_vc2, i_vc3, i_vv0, i_vv1, i_vv2, i_vv3, i_vg, i_wct, i_wln, i_sd0, i_sd1, i_sd2, i_sd3, i_rln, i_rtx, i_rpl, i_rtk, i_cnv, i_pts, i_cik, i_und⟩ := id hI
  have rp0 := zt_rng p0
  refine lv_iload_n hx hb d_Row_realAt_0 rfl (lv_at hl 1 rfl) ?_
  refine lv_if_lt (tgt := 22) hx hb d_Row_realAt_1 (by decide) (fun c1_1 => ?_) (fun c1_1 => ?_)
  · have fc1_1 : p0.toInt < 0 := zt_lt (show p0.toInt = _ from rfl) tI_0 c1_1
    refine lv_dconst0 hx hb d_Row_realAt_22 ?_
    have := tD_0
    exact j_dret F hr hlocks hK hS () (show dB 0 by omega) hP hD d_Row_realAt_23
  · have fc1_1 : 0 ≤ p0.toInt := Int.not_lt.mp (zt_nlt (show p0.toInt = _ from rfl) tI_0 c1_1)
    refine lv_iload_n hx hb d_Row_realAt_4 rfl (lv_at hl 1 rfl) ?_
    refine lv_aload_n hx hb d_Row_realAt_5 rfl (lv_at hl 0 rfl) ?_
    refine va_get (D := D) (ci := 0) (v := .ref (ad 4)) (C := "PageScribe$Stack") (T := F_Stack) (N := 4) hx hb hts i_Stack hown hK hP 1 (ce_1 _ _ _) cl_0 2 (by decide) (hts _ k_1_48) (fun _ h9 => h9) rfl d_Row_realAt_6 ?_
    refine va_alen (v := 40) hx hb hK hP 4 3 (ce_4 _ _ _) rfl (show Int32.ofNat 40 = 40 from by decide +kernel) d_Row_realAt_9 ?_
    refine lv_icmp_ge (tgt := 22) hx hb d_Row_realAt_10 (by decide) (fun c10_1 => ?_) (fun c10_1 => ?_)
    · have fc10_1 : 40 ≤ p0.toInt := zt_le tI_40 (show p0.toInt = _ from rfl) c10_1
      refine lv_dconst0 hx hb d_Row_realAt_22 ?_
      have := tD_0
      exact j_dret F hr hlocks hK hS () (show dB 0 by omega) hP hD d_Row_realAt_23
    · have fc10_1 : p0.toInt < 40 := Int.not_le.mp (zt_nle tI_40 (show p0.toInt = _ from rfl) c10_1)
      refine lv_aload_n hx hb d_Row_realAt_13 rfl (lv_at hl 0 rfl) ?_
      refine va_get (D := D) (ci := 0) (v := .ref (ad 4)) (C := "PageScribe$Stack") (T := F_Stack) (N := 4) hx hb hts i_Stack hown hK hP 1 (ce_1 _ _ _) cl_0 2 (by decide) (hts _ k_1_48) (fun _ h9 => h9) rfl d_Row_realAt_14 ?_
      refine lv_iload_n hx hb d_Row_realAt_17 rfl (lv_at hl 1 rfl) ?_
      refine va_dald hx hb hK hP 4 3 (ce_4 _ _ _) rfl (zt_in (show p0.toInt = _ from rfl) (by omega) (by omega)) d_Row_realAt_18 ?_
      refine lv_topd (fun x1 ex1 => ?_)
      have gx1 : x1 = (a_xst_r S) p0.toInt.toNat := ex1.trans (congrArg _ (zt_ix (show p0.toInt = _ from rfl)))
      have dx1 : dB x1 := by rw [gx1]; exact i_vst (p0.toInt.toNat) (by omega)
      refine lv_goto (tgt := 23) hx hb d_Row_realAt_19 (by decide) ?_
      exact j_dret F hr hlocks hK hS () (show dB x1 by omega) hP hD d_Row_realAt_23
set_option maxHeartbeats 4000000 in
set_option maxRecDepth 100000 in
theorem c_Row_kindAt_13 (l : Launch) (D : va_G) (T : Nat → ClassId) (ad : Nat → Nat) (S : CS) (p0 : Int32) (sz : Nat)  : Met l ⟨"PageScribe$Row", "kindAt", "(I)I"⟩ (wy ⟨"PageScribe$Row", "kindAt", "(I)I"⟩ prog_8_method_2_code 2 (some .int)) ({ frames := 0, cells := 0, slots := 0, locals := 0 }) (va_Pc [.ref (ad 13), .int p0] (Pw D T (cW T ad S) sz E0)) (va_Qi (fun (r : Int32) (u : Unit) => True) (fun u t => Bw D T (va_A (cW T ad S) sz) (cW T ad S) t) (va_A (cW T ad S) sz)) 0 0 (va_A (cW T ad S) sz) := by
  refine j_met (y := ⟨"PageScribe$Row", "kindAt", "(I)I"⟩) (b := prog_8_method_2_code) (n := 2) (ret := (some .int)) (av := [.ref (ad 13), .int p0]) (Qc := fun A => va_Qi (fun (r : Int32) (u : Unit) => True) (fun u t => Bw D T A (cW T ad S) t) A) (by decide +kernel) (Nat.le_of_ble_eq_true rfl) (fun p e s m args below meth c A ls F hr hlocks hnm hK hP hD hS hA hN hE hl => ?_)
  obtain ⟨hx, hb, hml, hown, hts⟩ := id F
  have hl : lv_has ls 2 [(0, .ref (ad 13)), (1, .int p0)] := hl
  have rp0 := zt_rng p0
  refine lv_iload_n hx hb d_Row_kindAt_0 rfl (lv_at hl 1 rfl) ?_
  refine lv_if_lt (tgt := 22) hx hb d_Row_kindAt_1 (by decide) (fun c1_1 => ?_) (fun c1_1 => ?_)
  · have fc1_1 : p0.toInt < 0 := zt_lt (show p0.toInt = _ from rfl) tI_0 c1_1
    refine lv_iconst (v := 0) hx hb d_Row_kindAt_22 (by decide) ?_
    exact j_iret F hr hlocks hK hS () trivial hP hD d_Row_kindAt_23
  · have fc1_1 : 0 ≤ p0.toInt := Int.not_lt.mp (zt_nlt (show p0.toInt = _ from rfl) tI_0 c1_1)
    refine lv_iload_n hx hb d_Row_kindAt_4 rfl (lv_at hl 1 rfl) ?_
    refine lv_aload_n hx hb d_Row_kindAt_5 rfl (lv_at hl 0 rfl) ?_
    refine va_get (D := D) (ci := 4) (v := .ref (ad 14)) (C := "PageScribe$Row") (T := F_Row) (N := 4) hx hb hts i_Row hown hK hP 13 (ce_13 _ _ _) cl_4 0 (by decide) (hts _ k_1_46) (fun _ h9 => h9) rfl d_Row_kindAt_6 ?_
    refine va_alen (v := 160) hx hb hK hP 14 0 (ce_14 _ _ _) rfl (show Int32.ofNat 160 = 160 from by decide +kernel) d_Row_kindAt_9 ?_
    refine lv_icmp_ge (tgt := 22) hx hb d_Row_kindAt_10 (by decide) (fun c10_1 => ?_) (fun c10_1 => ?_)
    · have fc10_1 : 160 ≤ p0.toInt := zt_le tI_160 (show p0.toInt = _ from rfl) c10_1
      refine lv_iconst (v := 0) hx hb d_Row_kindAt_22 (by decide) ?_
      exact j_iret F hr hlocks hK hS () trivial hP hD d_Row_kindAt_23
    · have fc10_1 : p0.toInt < 160 := Int.not_le.mp (zt_nle tI_160 (show p0.toInt = _ from rfl) c10_1)
      refine lv_aload_n hx hb d_Row_kindAt_13 rfl (lv_at hl 0 rfl) ?_
      refine va_get (D := D) (ci := 4) (v := .ref (ad 14)) (C := "PageScribe$Row") (T := F_Row) (N := 4) hx hb hts i_Row hown hK hP 13 (ce_13 _ _ _) cl_4 0 (by decide) (hts _ k_1_46) (fun _ h9 => h9) rfl d_Row_kindAt_14 ?_
      refine lv_iload_n hx hb d_Row_kindAt_17 rfl (lv_at hl 1 rfl) ?_
      refine va_iald hx hb hK hP 14 0 (ce_14 _ _ _) rfl (zt_in (show p0.toInt = _ from rfl) (by omega) (by omega)) d_Row_kindAt_18 ?_
      refine lv_topi (fun x1 ex1 => ?_)
      have gx1 : x1 = (a_xc0_k S) p0.toInt.toNat := ex1.trans (congrArg _ (zt_ix (show p0.toInt = _ from rfl)))
      have fx1 : x1.toInt = ((a_xc0_k S) p0.toInt.toNat).toInt := by rw [gx1]
      have rx1 := zt_rng x1
      refine lv_goto (tgt := 23) hx hb d_Row_kindAt_19 (by decide) ?_
      exact j_iret F hr hlocks hK hS () trivial hP hD d_Row_kindAt_23
set_option maxHeartbeats 4000000 in
set_option maxRecDepth 100000 in
theorem c_Row_numberAt_13 (l : Launch) (D : va_G) (T : Nat → ClassId) (ad : Nat → Nat) (S : CS) (p0 : Int32) (sz : Nat)  : Met l ⟨"PageScribe$Row", "numberAt", "(I)I"⟩ (wy ⟨"PageScribe$Row", "numberAt", "(I)I"⟩ prog_8_method_3_code 2 (some .int)) ({ frames := 0, cells := 0, slots := 0, locals := 0 }) (va_Pc [.ref (ad 13), .int p0] (Pw D T (cW T ad S) sz E0)) (va_Qi (fun (r : Int32) (u : Unit) => True) (fun u t => Bw D T (va_A (cW T ad S) sz) (cW T ad S) t) (va_A (cW T ad S) sz)) 0 0 (va_A (cW T ad S) sz) := by
  refine j_met (y := ⟨"PageScribe$Row", "numberAt", "(I)I"⟩) (b := prog_8_method_3_code) (n := 2) (ret := (some .int)) (av := [.ref (ad 13), .int p0]) (Qc := fun A => va_Qi (fun (r : Int32) (u : Unit) => True) (fun u t => Bw D T A (cW T ad S) t) A) (by decide +kernel) (Nat.le_of_ble_eq_true rfl) (fun p e s m args below meth c A ls F hr hlocks hnm hK hP hD hS hA hN hE hl => ?_)
  obtain ⟨hx, hb, hml, hown, hts⟩ := id F
  have hl : lv_has ls 2 [(0, .ref (ad 13)), (1, .int p0)] := hl
  have rp0 := zt_rng p0
  refine lv_iload_n hx hb d_Row_numberAt_0 rfl (lv_at hl 1 rfl) ?_
  refine lv_if_lt (tgt := 22) hx hb d_Row_numberAt_1 (by decide) (fun c1_1 => ?_) (fun c1_1 => ?_)
  · have fc1_1 : p0.toInt < 0 := zt_lt (show p0.toInt = _ from rfl) tI_0 c1_1
    refine lv_iconst (v := 0) hx hb d_Row_numberAt_22 (by decide) ?_
    exact j_iret F hr hlocks hK hS () trivial hP hD d_Row_numberAt_23
  · have fc1_1 : 0 ≤ p0.toInt := Int.not_lt.mp (zt_nlt (show p0.toInt = _ from rfl) tI_0 c1_1)
    refine lv_iload_n hx hb d_Row_numberAt_4 rfl (lv_at hl 1 rfl) ?_
    refine lv_aload_n hx hb d_Row_numberAt_5 rfl (lv_at hl 0 rfl) ?_
    refine va_get (D := D) (ci := 4) (v := .ref (ad 15)) (C := "PageScribe$Row") (T := F_Row) (N := 4) hx hb hts i_Row hown hK hP 13 (ce_13 _ _ _) cl_4 1 (by decide) (hts _ k_1_47) (fun _ h9 => h9) rfl d_Row_numberAt_6 ?_
    refine va_alen (v := 160) hx hb hK hP 15 0 (ce_15 _ _ _) rfl (show Int32.ofNat 160 = 160 from by decide +kernel) d_Row_numberAt_9 ?_
    refine lv_icmp_ge (tgt := 22) hx hb d_Row_numberAt_10 (by decide) (fun c10_1 => ?_) (fun c10_1 => ?_)
    · have fc10_1 : 160 ≤ p0.toInt := zt_le tI_160 (show p0.toInt = _ from rfl) c10_1
      refine lv_iconst (v := 0) hx hb d_Row_numberAt_22 (by decide) ?_
      exact j_iret F hr hlocks hK hS () trivial hP hD d_Row_numberAt_23
    · have fc10_1 : p0.toInt < 160 := Int.not_le.mp (zt_nle tI_160 (show p0.toInt = _ from rfl) c10_1)
      refine lv_aload_n hx hb d_Row_numberAt_13 rfl (lv_at hl 0 rfl) ?_
      refine va_get (D := D) (ci := 4) (v := .ref (ad 15)) (C := "PageScribe$Row") (T := F_Row) (N := 4) hx hb hts i_Row hown hK hP 13 (ce_13 _ _ _) cl_4 1 (by decide) (hts _ k_1_47) (fun _ h9 => h9) rfl d_Row_numberAt_14 ?_
      refine lv_iload_n hx hb d_Row_numberAt_17 rfl (lv_at hl 1 rfl) ?_
      refine va_iald hx hb hK hP 15 0 (ce_15 _ _ _) rfl (zt_in (show p0.toInt = _ from rfl) (by omega) (by omega)) d_Row_numberAt_18 ?_
      refine lv_topi (fun x1 ex1 => ?_)
      have gx1 : x1 = (a_xc0_n S) p0.toInt.toNat := ex1.trans (congrArg _ (zt_ix (show p0.toInt = _ from rfl)))
      have fx1 : x1.toInt = ((a_xc0_n S) p0.toInt.toNat).toInt := by rw [gx1]
      have rx1 := zt_rng x1
      refine lv_goto (tgt := 23) hx hb d_Row_numberAt_19 (by decide) ?_
      exact j_iret F hr hlocks hK hS () trivial hP hD d_Row_numberAt_23
set_option maxHeartbeats 4000000 in
set_option maxRecDepth 100000 in
theorem c_Row_realAt_13 (l : Launch) (D : va_G) (T : Nat → ClassId) (ad : Nat → Nat) (S : CS) (p0 : Int32) (sz : Nat)  (hI : CIv S) : Met l ⟨"PageScribe$Row", "realAt", "(I)D"⟩ (wy ⟨"PageScribe$Row", "realAt", "(I)D"⟩ prog_8_method_4_code 2 (some .double)) ({ frames := 0, cells := 0, slots := 0, locals := 0 }) (va_Pc [.ref (ad 13), .int p0] (Pw D T (cW T ad S) sz E0)) (va_Qd (fun (r : UInt64) (u : Unit) => dB r) (fun u t => Bw D T (va_A (cW T ad S) sz) (cW T ad S) t) (va_A (cW T ad S) sz)) 0 0 (va_A (cW T ad S) sz) := by
  refine j_met (y := ⟨"PageScribe$Row", "realAt", "(I)D"⟩) (b := prog_8_method_4_code) (n := 2) (ret := (some .double)) (av := [.ref (ad 13), .int p0]) (Qc := fun A => va_Qd (fun (r : UInt64) (u : Unit) => dB r) (fun u t => Bw D T A (cW T ad S) t) A) (by decide +kernel) (Nat.le_of_ble_eq_true rfl) (fun p e s m args below meth c A ls F hr hlocks hnm hK hP hD hS hA hN hE hl => ?_)
  obtain ⟨hx, hb, hml, hown, hts⟩ := id F
  have hl : lv_has ls 2 [(0, .ref (ad 13)), (1, .int p0)] := hl
  obtain ⟨i_vst, i_vc0, i_vc1, i_vc2, i_vc3, i_vv0, i_vv1, i_vv2, i_vv3, i_vg, i_wct, i_wln, i_sd0, i_sd1, i_sd2, i_sd3, i_rln, i_rtx, i_rpl, i_rtk, i_cnv, i_pts, i_cik, i_und⟩ := id hI
  have rp0 := zt_rng p0
  refine lv_iload_n hx hb d_Row_realAt_0 rfl (lv_at hl 1 rfl) ?_
  refine lv_if_lt (tgt := 22) hx hb d_Row_realAt_1 (by decide) (fun c1_1 => ?_) (fun c1_1 => ?_)
  · have fc1_1 : p0.toInt < 0 := zt_lt (show p0.toInt = _ from rfl) tI_0 c1_1
    refine lv_dconst0 hx hb d_Row_realAt_22 ?_
    have := tD_0
    exact j_dret F hr hlocks hK hS () (show dB 0 by omega) hP hD d_Row_realAt_23
  · have fc1_1 : 0 ≤ p0.toInt := Int.not_lt.mp (zt_nlt (show p0.toInt = _ from rfl) tI_0 c1_1)
    refine lv_iload_n hx hb d_Row_realAt_4 rfl (lv_at hl 1 rfl) ?_
    refine lv_aload_n hx hb d_Row_realAt_5 rfl (lv_at hl 0 rfl) ?_
    refine va_get (D := D) (ci := 4) (v := .ref (ad 16)) (C := "PageScribe$Row") (T := F_Row) (N := 4) hx hb hts i_Row hown hK hP 13 (ce_13 _ _ _) cl_4 2 (by decide) (hts _ k_1_48) (fun _ h9 => h9) rfl d_Row_realAt_6 ?_
    refine va_alen (v := 160) hx hb hK hP 16 3 (ce_16 _ _ _) rfl (show Int32.ofNat 160 = 160 from by decide +kernel) d_Row_realAt_9 ?_
    refine lv_icmp_ge (tgt := 22) hx hb d_Row_realAt_10 (by decide) (fun c10_1 => ?_) (fun c10_1 => ?_)
    · have fc10_1 : 160 ≤ p0.toInt := zt_le tI_160 (show p0.toInt = _ from rfl) c10_1
      refine lv_dconst0 hx hb d_Row_realAt_22 ?_
      have := tD_0
      exact j_dret F hr hlocks hK hS () (show dB 0 by omega) hP hD d_Row_realAt_23
    · have fc10_1 : p0.toInt < 160 := Int.not_le.mp (zt_nle tI_160 (show p0.toInt = _ from rfl) c10_1)
      refine lv_aload_n hx hb d_Row_realAt_13 rfl (lv_at hl 0 rfl) ?_
      refine va_get (D := D) (ci := 4) (v := .ref (ad 16)) (C := "PageScribe$Row") (T := F_Row) (N := 4) hx hb hts i_Row hown hK hP 13 (ce_13 _ _ _) cl_4 2 (by decide) (hts _ k_1_48) (fun _ h9 => h9) rfl d_Row_realAt_14 ?_
      refine lv_iload_n hx hb d_Row_realAt_17 rfl (lv_at hl 1 rfl) ?_
      refine va_dald hx hb hK hP 16 3 (ce_16 _ _ _) rfl (zt_in (show p0.toInt = _ from rfl) (by omega) (by omega)) d_Row_realAt_18 ?_
      refine lv_topd (fun x1 ex1 => ?_)
      have gx1 : x1 = (a_xc0_r S) p0.toInt.toNat := ex1.trans (congrArg _ (zt_ix (show p0.toInt = _ from rfl)))
      have dx1 : dB x1 := by rw [gx1]; exact i_vc0 (p0.toInt.toNat) (by omega)
      refine lv_goto (tgt := 23) hx hb d_Row_realAt_19 (by decide) ?_
      exact j_dret F hr hlocks hK hS () (show dB x1 by omega) hP hD d_Row_realAt_23
set_option maxHeartbeats 4000000 in
set_option maxRecDepth 100000 in
theorem c_Row_kindAt_20 (l : Launch) (D : va_G) (T : Nat → ClassId) (ad : Nat → Nat) (S : CS) (p0 : Int32) (sz : Nat)  : Met l ⟨"PageScribe$Row", "kindAt", "(I)I"⟩ (wy ⟨"PageScribe$Row", "kindAt", "(I)I"⟩ prog_8_method_2_code 2 (some .int)) ({ frames := 0, cells := 0, slots := 0, locals := 0 }) (va_Pc [.ref (ad 20), .int p0] (Pw D T (cW T ad S) sz E0)) (va_Qi (fun (r : Int32) (u : Unit) => True) (fun u t => Bw D T (va_A (cW T ad S) sz) (cW T ad S) t) (va_A (cW T ad S) sz)) 0 0 (va_A (cW T ad S) sz) := by
  refine j_met (y := ⟨"PageScribe$Row", "kindAt", "(I)I"⟩) (b := prog_8_method_2_code) (n := 2) (ret := (some .int)) (av := [.ref (ad 20), .int p0]) (Qc := fun A => va_Qi (fun (r : Int32) (u : Unit) => True) (fun u t => Bw D T A (cW T ad S) t) A) (by decide +kernel) (Nat.le_of_ble_eq_true rfl) (fun p e s m args below meth c A ls F hr hlocks hnm hK hP hD hS hA hN hE hl => ?_)
  obtain ⟨hx, hb, hml, hown, hts⟩ := id F
  have hl : lv_has ls 2 [(0, .ref (ad 20)), (1, .int p0)] := hl
  have rp0 := zt_rng p0
  refine lv_iload_n hx hb d_Row_kindAt_0 rfl (lv_at hl 1 rfl) ?_
  refine lv_if_lt (tgt := 22) hx hb d_Row_kindAt_1 (by decide) (fun c1_1 => ?_) (fun c1_1 => ?_)
  · have fc1_1 : p0.toInt < 0 := zt_lt (show p0.toInt = _ from rfl) tI_0 c1_1
    refine lv_iconst (v := 0) hx hb d_Row_kindAt_22 (by decide) ?_
    exact j_iret F hr hlocks hK hS () trivial hP hD d_Row_kindAt_23
  · have fc1_1 : 0 ≤ p0.toInt := Int.not_lt.mp (zt_nlt (show p0.toInt = _ from rfl) tI_0 c1_1)
    refine lv_iload_n hx hb d_Row_kindAt_4 rfl (lv_at hl 1 rfl) ?_
    refine lv_aload_n hx hb d_Row_kindAt_5 rfl (lv_at hl 0 rfl) ?_
    refine va_get (D := D) (ci := 4) (v := .ref (ad 21)) (C := "PageScribe$Row") (T := F_Row) (N := 4) hx hb hts i_Row hown hK hP 20 (ce_20 _ _ _) cl_4 0 (by decide) (hts _ k_1_46) (fun _ h9 => h9) rfl d_Row_kindAt_6 ?_
    refine va_alen (v := 80) hx hb hK hP 21 0 (ce_21 _ _ _) rfl (show Int32.ofNat 80 = 80 from by decide +kernel) d_Row_kindAt_9 ?_
    refine lv_icmp_ge (tgt := 22) hx hb d_Row_kindAt_10 (by decide) (fun c10_1 => ?_) (fun c10_1 => ?_)
    · have fc10_1 : 80 ≤ p0.toInt := zt_le tI_80 (show p0.toInt = _ from rfl) c10_1
      refine lv_iconst (v := 0) hx hb d_Row_kindAt_22 (by decide) ?_
      exact j_iret F hr hlocks hK hS () trivial hP hD d_Row_kindAt_23
    · have fc10_1 : p0.toInt < 80 := Int.not_le.mp (zt_nle tI_80 (show p0.toInt = _ from rfl) c10_1)
      refine lv_aload_n hx hb d_Row_kindAt_13 rfl (lv_at hl 0 rfl) ?_
      refine va_get (D := D) (ci := 4) (v := .ref (ad 21)) (C := "PageScribe$Row") (T := F_Row) (N := 4) hx hb hts i_Row hown hK hP 20 (ce_20 _ _ _) cl_4 0 (by decide) (hts _ k_1_46) (fun _ h9 => h9) rfl d_Row_kindAt_14 ?_
      refine lv_iload_n hx hb d_Row_kindAt_17 rfl (lv_at hl 1 rfl) ?_
      refine va_iald hx hb hK hP 21 0 (ce_21 _ _ _) rfl (zt_in (show p0.toInt = _ from rfl) (by omega) (by omega)) d_Row_kindAt_18 ?_
      refine lv_topi (fun x1 ex1 => ?_)
      have gx1 : x1 = (a_xv0_k S) p0.toInt.toNat := ex1.trans (congrArg _ (zt_ix (show p0.toInt = _ from rfl)))
      have fx1 : x1.toInt = ((a_xv0_k S) p0.toInt.toNat).toInt := by rw [gx1]
      have rx1 := zt_rng x1
      refine lv_goto (tgt := 23) hx hb d_Row_kindAt_19 (by decide) ?_
      exact j_iret F hr hlocks hK hS () trivial hP hD d_Row_kindAt_23
set_option maxHeartbeats 4000000 in
set_option maxRecDepth 100000 in
theorem c_Row_numberAt_20 (l : Launch) (D : va_G) (T : Nat → ClassId) (ad : Nat → Nat) (S : CS) (p0 : Int32) (sz : Nat)  : Met l ⟨"PageScribe$Row", "numberAt", "(I)I"⟩ (wy ⟨"PageScribe$Row", "numberAt", "(I)I"⟩ prog_8_method_3_code 2 (some .int)) ({ frames := 0, cells := 0, slots := 0, locals := 0 }) (va_Pc [.ref (ad 20), .int p0] (Pw D T (cW T ad S) sz E0)) (va_Qi (fun (r : Int32) (u : Unit) => True) (fun u t => Bw D T (va_A (cW T ad S) sz) (cW T ad S) t) (va_A (cW T ad S) sz)) 0 0 (va_A (cW T ad S) sz) := by
  refine j_met (y := ⟨"PageScribe$Row", "numberAt", "(I)I"⟩) (b := prog_8_method_3_code) (n := 2) (ret := (some .int)) (av := [.ref (ad 20), .int p0]) (Qc := fun A => va_Qi (fun (r : Int32) (u : Unit) => True) (fun u t => Bw D T A (cW T ad S) t) A) (by decide +kernel) (Nat.le_of_ble_eq_true rfl) (fun p e s m args below meth c A ls F hr hlocks hnm hK hP hD hS hA hN hE hl => ?_)
  obtain ⟨hx, hb, hml, hown, hts⟩ := id F
  have hl : lv_has ls 2 [(0, .ref (ad 20)), (1, .int p0)] := hl
  have rp0 := zt_rng p0
  refine lv_iload_n hx hb d_Row_numberAt_0 rfl (lv_at hl 1 rfl) ?_
  refine lv_if_lt (tgt := 22) hx hb d_Row_numberAt_1 (by decide) (fun c1_1 => ?_) (fun c1_1 => ?_)
  · have fc1_1 : p0.toInt < 0 := zt_lt (show p0.toInt = _ from rfl) tI_0 c1_1
    refine lv_iconst (v := 0) hx hb d_Row_numberAt_22 (by decide) ?_
    exact j_iret F hr hlocks hK hS () trivial hP hD d_Row_numberAt_23
  · have fc1_1 : 0 ≤ p0.toInt := Int.not_lt.mp (zt_nlt (show p0.toInt = _ from rfl) tI_0 c1_1)
    refine lv_iload_n hx hb d_Row_numberAt_4 rfl (lv_at hl 1 rfl) ?_
    refine lv_aload_n hx hb d_Row_numberAt_5 rfl (lv_at hl 0 rfl) ?_
    refine va_get (D := D) (ci := 4) (v := .ref (ad 22)) (C := "PageScribe$Row") (T := F_Row) (N := 4) hx hb hts i_Row hown hK hP 20 (ce_20 _ _ _) cl_4 1 (by decide) (hts _ k_1_47) (fun _ h9 => h9) rfl d_Row_numberAt_6 ?_
    refine va_alen (v := 80) hx hb hK hP 22 0 (ce_22 _ _ _) rfl (show Int32.ofNat 80 = 80 from by decide +kernel) d_Row_numberAt_9 ?_
    refine lv_icmp_ge (tgt := 22) hx hb d_Row_numberAt_10 (by decide) (fun c10_1 => ?_) (fun c10_1 => ?_)
    · have fc10_1 : 80 ≤ p0.toInt := zt_le tI_80 (show p0.toInt = _ from rfl) c10_1
      refine lv_iconst (v := 0) hx hb d_Row_numberAt_22 (by decide) ?_
      exact j_iret F hr hlocks hK hS () trivial hP hD d_Row_numberAt_23
    · have fc10_1 : p0.toInt < 80 := Int.not_le.mp (zt_nle tI_80 (show p0.toInt = _ from rfl) c10_1)
      refine lv_aload_n hx hb d_Row_numberAt_13 rfl (lv_at hl 0 rfl) ?_
      refine va_get (D := D) (ci := 4) (v := .ref (ad 22)) (C := "PageScribe$Row") (T := F_Row) (N := 4) hx hb hts i_Row hown hK hP 20 (ce_20 _ _ _) cl_4 1 (by decide) (hts _ k_1_47) (fun _ h9 => h9) rfl d_Row_numberAt_14 ?_
      refine lv_iload_n hx hb d_Row_numberAt_17 rfl (lv_at hl 1 rfl) ?_
      refine va_iald hx hb hK hP 22 0 (ce_22 _ _ _) rfl (zt_in (show p0.toInt = _ from rfl) (by omega) (by omega)) d_Row_numberAt_18 ?_
      refine lv_topi (fun x1 ex1 => ?_)
      have gx1 : x1 = (a_xv0_n S) p0.toInt.toNat := ex1.trans (congrArg _ (zt_ix (show p0.toInt = _ from rfl)))
      have fx1 : x1.toInt = ((a_xv0_n S) p0.toInt.toNat).toInt := by rw [gx1]
      have rx1 := zt_rng x1
      refine lv_goto (tgt := 23) hx hb d_Row_numberAt_19 (by decide) ?_
      exact j_iret F hr hlocks hK hS () trivial hP hD d_Row_numberAt_23
set_option maxHeartbeats 4000000 in
set_option maxRecDepth 100000 in
theorem c_Row_realAt_20 (l : Launch) (D : va_G) (T : Nat → ClassId) (ad : Nat → Nat) (S : CS) (p0 : Int32) (sz : Nat)  (hI : CIv S) : Met l ⟨"PageScribe$Row", "realAt", "(I)D"⟩ (wy ⟨"PageScribe$Row", "realAt", "(I)D"⟩ prog_8_method_4_code 2 (some .double)) ({ frames := 0, cells := 0, slots := 0, locals := 0 }) (va_Pc [.ref (ad 20), .int p0] (Pw D T (cW T ad S) sz E0)) (va_Qd (fun (r : UInt64) (u : Unit) => dB r) (fun u t => Bw D T (va_A (cW T ad S) sz) (cW T ad S) t) (va_A (cW T ad S) sz)) 0 0 (va_A (cW T ad S) sz) := by
  refine j_met (y := ⟨"PageScribe$Row", "realAt", "(I)D"⟩) (b := prog_8_method_4_code) (n := 2) (ret := (some .double)) (av := [.ref (ad 20), .int p0]) (Qc := fun A => va_Qd (fun (r : UInt64) (u : Unit) => dB r) (fun u t => Bw D T A (cW T ad S) t) A) (by decide +kernel) (Nat.le_of_ble_eq_true rfl) (fun p e s m args below meth c A ls F hr hlocks hnm hK hP hD hS hA hN hE hl => ?_)
  obtain ⟨hx, hb, hml, hown, hts⟩ := id F
  have hl : lv_has ls 2 [(0, .ref (ad 20)), (1, .int p0)] := hl
  obtain ⟨i_vst, i_vc0, i_vc1, i_vc2, i_vc3, i_vv0, i_vv1, i_vv2, i_vv3, i_vg, i_wct, i_wln, i_sd0, i_sd1, i_sd2, i_sd3, i_rln, i_rtx, i_rpl, i_rtk, i_cnv, i_pts, i_cik, i_und⟩ := id hI
  have rp0 := zt_rng p0
  refine lv_iload_n hx hb d_Row_realAt_0 rfl (lv_at hl 1 rfl) ?_
  refine lv_if_lt (tgt := 22) hx hb d_Row_realAt_1 (by decide) (fun c1_1 => ?_) (fun c1_1 => ?_)
  · have fc1_1 : p0.toInt < 0 := zt_lt (show p0.toInt = _ from rfl) tI_0 c1_1
    refine lv_dconst0 hx hb d_Row_realAt_22 ?_
    have := tD_0
    exact j_dret F hr hlocks hK hS () (show dB 0 by omega) hP hD d_Row_realAt_23
  · have fc1_1 : 0 ≤ p0.toInt := Int.not_lt.mp (zt_nlt (show p0.toInt = _ from rfl) tI_0 c1_1)
    refine lv_iload_n hx hb d_Row_realAt_4 rfl (lv_at hl 1 rfl) ?_
    refine lv_aload_n hx hb d_Row_realAt_5 rfl (lv_at hl 0 rfl) ?_
    refine va_get (D := D) (ci := 4) (v := .ref (ad 23)) (C := "PageScribe$Row") (T := F_Row) (N := 4) hx hb hts i_Row hown hK hP 20 (ce_20 _ _ _) cl_4 2 (by decide) (hts _ k_1_48) (fun _ h9 => h9) rfl d_Row_realAt_6 ?_
    refine va_alen (v := 80) hx hb hK hP 23 3 (ce_23 _ _ _) rfl (show Int32.ofNat 80 = 80 from by decide +kernel) d_Row_realAt_9 ?_
    refine lv_icmp_ge (tgt := 22) hx hb d_Row_realAt_10 (by decide) (fun c10_1 => ?_) (fun c10_1 => ?_)
    · have fc10_1 : 80 ≤ p0.toInt := zt_le tI_80 (show p0.toInt = _ from rfl) c10_1
      refine lv_dconst0 hx hb d_Row_realAt_22 ?_
      have := tD_0
      exact j_dret F hr hlocks hK hS () (show dB 0 by omega) hP hD d_Row_realAt_23
    · have fc10_1 : p0.toInt < 80 := Int.not_le.mp (zt_nle tI_80 (show p0.toInt = _ from rfl) c10_1)
      refine lv_aload_n hx hb d_Row_realAt_13 rfl (lv_at hl 0 rfl) ?_
      refine va_get (D := D) (ci := 4) (v := .ref (ad 23)) (C := "PageScribe$Row") (T := F_Row) (N := 4) hx hb hts i_Row hown hK hP 20 (ce_20 _ _ _) cl_4 2 (by decide) (hts _ k_1_48) (fun _ h9 => h9) rfl d_Row_realAt_14 ?_
      refine lv_iload_n hx hb d_Row_realAt_17 rfl (lv_at hl 1 rfl) ?_
      refine va_dald hx hb hK hP 23 3 (ce_23 _ _ _) rfl (zt_in (show p0.toInt = _ from rfl) (by omega) (by omega)) d_Row_realAt_18 ?_
      refine lv_topd (fun x1 ex1 => ?_)
      have gx1 : x1 = (a_xv0_r S) p0.toInt.toNat := ex1.trans (congrArg _ (zt_ix (show p0.toInt = _ from rfl)))
      have dx1 : dB x1 := by rw [gx1]; exact i_vv0 (p0.toInt.toNat) (by omega)
      refine lv_goto (tgt := 23) hx hb d_Row_realAt_19 (by decide) ?_
      exact j_dret F hr hlocks hK hS () (show dB x1 by omega) hP hD d_Row_realAt_23
set_option maxHeartbeats 4000000 in
set_option maxRecDepth 100000 in
theorem c_Row_kindAt_62 (l : Launch) (D : va_G) (T : Nat → ClassId) (ad : Nat → Nat) (S : CS) (p0 : Int32) (sz : Nat)  : Met l ⟨"PageScribe$Row", "kindAt", "(I)I"⟩ (wy ⟨"PageScribe$Row", "kindAt", "(I)I"⟩ prog_8_method_2_code 2 (some .int)) ({ frames := 0, cells := 0, slots := 0, locals := 0 }) (va_Pc [.ref (ad 62), .int p0] (Pw D T (cW T ad S) sz E0)) (va_Qi (fun (r : Int32) (u : Unit) => True) (fun u t => Bw D T (va_A (cW T ad S) sz) (cW T ad S) t) (va_A (cW T ad S) sz)) 0 0 (va_A (cW T ad S) sz) := by
  refine j_met (y := ⟨"PageScribe$Row", "kindAt", "(I)I"⟩) (b := prog_8_method_2_code) (n := 2) (ret := (some .int)) (av := [.ref (ad 62), .int p0]) (Qc := fun A => va_Qi (fun (r : Int32) (u : Unit) => True) (fun u t => Bw D T A (cW T ad S) t) A) (by decide +kernel) (Nat.le_of_ble_eq_true rfl) (fun p e s m args below meth c A ls F hr hlocks hnm hK hP hD hS hA hN hE hl => ?_)
  obtain ⟨hx, hb, hml, hown, hts⟩ := id F
  have hl : lv_has ls 2 [(0, .ref (ad 62)), (1, .int p0)] := hl
  have rp0 := zt_rng p0
  refine lv_iload_n hx hb d_Row_kindAt_0 rfl (lv_at hl 1 rfl) ?_
  refine lv_if_lt (tgt := 22) hx hb d_Row_kindAt_1 (by decide) (fun c1_1 => ?_) (fun c1_1 => ?_)
  · have fc1_1 : p0.toInt < 0 := zt_lt (show p0.toInt = _ from rfl) tI_0 c1_1
    refine lv_iconst (v := 0) hx hb d_Row_kindAt_22 (by decide) ?_
    exact j_iret F hr hlocks hK hS () trivial hP hD d_Row_kindAt_23
  · have fc1_1 : 0 ≤ p0.toInt := Int.not_lt.mp (zt_nlt (show p0.toInt = _ from rfl) tI_0 c1_1)
    refine lv_iload_n hx hb d_Row_kindAt_4 rfl (lv_at hl 1 rfl) ?_
    refine lv_aload_n hx hb d_Row_kindAt_5 rfl (lv_at hl 0 rfl) ?_
    refine va_get (D := D) (ci := 4) (v := .ref (ad 63)) (C := "PageScribe$Row") (T := F_Row) (N := 4) hx hb hts i_Row hown hK hP 62 (ce_62 _ _ _) cl_4 0 (by decide) (hts _ k_1_46) (fun _ h9 => h9) rfl d_Row_kindAt_6 ?_
    refine va_alen (v := 120) hx hb hK hP 63 0 (ce_63 _ _ _) rfl (show Int32.ofNat 120 = 120 from by decide +kernel) d_Row_kindAt_9 ?_
    refine lv_icmp_ge (tgt := 22) hx hb d_Row_kindAt_10 (by decide) (fun c10_1 => ?_) (fun c10_1 => ?_)
    · have fc10_1 : 120 ≤ p0.toInt := zt_le tI_120 (show p0.toInt = _ from rfl) c10_1
      refine lv_iconst (v := 0) hx hb d_Row_kindAt_22 (by decide) ?_
      exact j_iret F hr hlocks hK hS () trivial hP hD d_Row_kindAt_23
    · have fc10_1 : p0.toInt < 120 := Int.not_le.mp (zt_nle tI_120 (show p0.toInt = _ from rfl) c10_1)
      refine lv_aload_n hx hb d_Row_kindAt_13 rfl (lv_at hl 0 rfl) ?_
      refine va_get (D := D) (ci := 4) (v := .ref (ad 63)) (C := "PageScribe$Row") (T := F_Row) (N := 4) hx hb hts i_Row hown hK hP 62 (ce_62 _ _ _) cl_4 0 (by decide) (hts _ k_1_46) (fun _ h9 => h9) rfl d_Row_kindAt_14 ?_
      refine lv_iload_n hx hb d_Row_kindAt_17 rfl (lv_at hl 1 rfl) ?_
      refine va_iald hx hb hK hP 63 0 (ce_63 _ _ _) rfl (zt_in (show p0.toInt = _ from rfl) (by omega) (by omega)) d_Row_kindAt_18 ?_
      refine lv_topi (fun x1 ex1 => ?_)
      have gx1 : x1 = (a_xg_k S) p0.toInt.toNat := ex1.trans (congrArg _ (zt_ix (show p0.toInt = _ from rfl)))
      have fx1 : x1.toInt = ((a_xg_k S) p0.toInt.toNat).toInt := by rw [gx1]
      have rx1 := zt_rng x1
      refine lv_goto (tgt := 23) hx hb d_Row_kindAt_19 (by decide) ?_
      exact j_iret F hr hlocks hK hS () trivial hP hD d_Row_kindAt_23
set_option maxHeartbeats 4000000 in
set_option maxRecDepth 100000 in
theorem c_Row_numberAt_62 (l : Launch) (D : va_G) (T : Nat → ClassId) (ad : Nat → Nat) (S : CS) (p0 : Int32) (sz : Nat)  : Met l ⟨"PageScribe$Row", "numberAt", "(I)I"⟩ (wy ⟨"PageScribe$Row", "numberAt", "(I)I"⟩ prog_8_method_3_code 2 (some .int)) ({ frames := 0, cells := 0, slots := 0, locals := 0 }) (va_Pc [.ref (ad 62), .int p0] (Pw D T (cW T ad S) sz E0)) (va_Qi (fun (r : Int32) (u : Unit) => True) (fun u t => Bw D T (va_A (cW T ad S) sz) (cW T ad S) t) (va_A (cW T ad S) sz)) 0 0 (va_A (cW T ad S) sz) := by
  refine j_met (y := ⟨"PageScribe$Row", "numberAt", "(I)I"⟩) (b := prog_8_method_3_code) (n := 2) (ret := (some .int)) (av := [.ref (ad 62), .int p0]) (Qc := fun A => va_Qi (fun (r : Int32) (u : Unit) => True) (fun u t => Bw D T A (cW T ad S) t) A) (by decide +kernel) (Nat.le_of_ble_eq_true rfl) (fun p e s m args below meth c A ls F hr hlocks hnm hK hP hD hS hA hN hE hl => ?_)
  obtain ⟨hx, hb, hml, hown, hts⟩ := id F
  have hl : lv_has ls 2 [(0, .ref (ad 62)), (1, .int p0)] := hl
  have rp0 := zt_rng p0
  refine lv_iload_n hx hb d_Row_numberAt_0 rfl (lv_at hl 1 rfl) ?_
  refine lv_if_lt (tgt := 22) hx hb d_Row_numberAt_1 (by decide) (fun c1_1 => ?_) (fun c1_1 => ?_)
  · have fc1_1 : p0.toInt < 0 := zt_lt (show p0.toInt = _ from rfl) tI_0 c1_1
    refine lv_iconst (v := 0) hx hb d_Row_numberAt_22 (by decide) ?_
    exact j_iret F hr hlocks hK hS () trivial hP hD d_Row_numberAt_23
  · have fc1_1 : 0 ≤ p0.toInt := Int.not_lt.mp (zt_nlt (show p0.toInt = _ from rfl) tI_0 c1_1)
    refine lv_iload_n hx hb d_Row_numberAt_4 rfl (lv_at hl 1 rfl) ?_
    refine lv_aload_n hx hb d_Row_numberAt_5 rfl (lv_at hl 0 rfl) ?_
    refine va_get (D := D) (ci := 4) (v := .ref (ad 64)) (C := "PageScribe$Row") (T := F_Row) (N := 4) hx hb hts i_Row hown hK hP 62 (ce_62 _ _ _) cl_4 1 (by decide) (hts _ k_1_47) (fun _ h9 => h9) rfl d_Row_numberAt_6 ?_
    refine va_alen (v := 120) hx hb hK hP 64 0 (ce_64 _ _ _) rfl (show Int32.ofNat 120 = 120 from by decide +kernel) d_Row_numberAt_9 ?_
    refine lv_icmp_ge (tgt := 22) hx hb d_Row_numberAt_10 (by decide) (fun c10_1 => ?_) (fun c10_1 => ?_)
    · have fc10_1 : 120 ≤ p0.toInt := zt_le tI_120 (show p0.toInt = _ from rfl) c10_1
      refine lv_iconst (v := 0) hx hb d_Row_numberAt_22 (by decide) ?_
      exact j_iret F hr hlocks hK hS () trivial hP hD d_Row_numberAt_23
    · have fc10_1 : p0.toInt < 120 := Int.not_le.mp (zt_nle tI_120 (show p0.toInt = _ from rfl) c10_1)
      refine lv_aload_n hx hb d_Row_numberAt_13 rfl (lv_at hl 0 rfl) ?_
      refine va_get (D := D) (ci := 4) (v := .ref (ad 64)) (C := "PageScribe$Row") (T := F_Row) (N := 4) hx hb hts i_Row hown hK hP 62 (ce_62 _ _ _) cl_4 1 (by decide) (hts _ k_1_47) (fun _ h9 => h9) rfl d_Row_numberAt_14 ?_
      refine lv_iload_n hx hb d_Row_numberAt_17 rfl (lv_at hl 1 rfl) ?_
      refine va_iald hx hb hK hP 64 0 (ce_64 _ _ _) rfl (zt_in (show p0.toInt = _ from rfl) (by omega) (by omega)) d_Row_numberAt_18 ?_
      refine lv_topi (fun x1 ex1 => ?_)
      have gx1 : x1 = (a_xg_n S) p0.toInt.toNat := ex1.trans (congrArg _ (zt_ix (show p0.toInt = _ from rfl)))
      have fx1 : x1.toInt = ((a_xg_n S) p0.toInt.toNat).toInt := by rw [gx1]
      have rx1 := zt_rng x1
      refine lv_goto (tgt := 23) hx hb d_Row_numberAt_19 (by decide) ?_
      exact j_iret F hr hlocks hK hS () trivial hP hD d_Row_numberAt_23
set_option maxHeartbeats 4000000 in
set_option maxRecDepth 100000 in
theorem c_Row_realAt_62 (l : Launch) (D : va_G) (T : Nat → ClassId) (ad : Nat → Nat) (S : CS) (p0 : Int32) (sz : Nat)  (hI : CIv S) : Met l ⟨"PageScribe$Row", "realAt", "(I)D"⟩ (wy ⟨"PageScribe$Row", "realAt", "(I)D"⟩ prog_8_method_4_code 2 (some .double)) ({ frames := 0, cells := 0, slots := 0, locals := 0 }) (va_Pc [.ref (ad 62), .int p0] (Pw D T (cW T ad S) sz E0)) (va_Qd (fun (r : UInt64) (u : Unit) => dB r) (fun u t => Bw D T (va_A (cW T ad S) sz) (cW T ad S) t) (va_A (cW T ad S) sz)) 0 0 (va_A (cW T ad S) sz) := by
  refine j_met (y := ⟨"PageScribe$Row", "realAt", "(I)D"⟩) (b := prog_8_method_4_code) (n := 2) (ret := (some .double)) (av := [.ref (ad 62), .int p0]) (Qc := fun A => va_Qd (fun (r : UInt64) (u : Unit) => dB r) (fun u t => Bw D T A (cW T ad S) t) A) (by decide +kernel) (Nat.le_of_ble_eq_true rfl) (fun p e s m args below meth c A ls F hr hlocks hnm hK hP hD hS hA hN hE hl => ?_)
  obtain ⟨hx, hb, hml, hown, hts⟩ := id F
  have hl : lv_has ls 2 [(0, .ref (ad 62)), (1, .int p0)] := hl
  obtain ⟨i_vst, i_vc0, i_vc1, i_vc2, i_vc3, i_vv0, i_vv1, i_vv2, i_vv3, i_vg, i_wct, i_wln, i_sd0, i_sd1, i_sd2, i_sd3, i_rln, i_rtx, i_rpl, i_rtk, i_cnv, i_pts, i_cik, i_und⟩ := id hI
  have rp0 := zt_rng p0
  refine lv_iload_n hx hb d_Row_realAt_0 rfl (lv_at hl 1 rfl) ?_
  refine lv_if_lt (tgt := 22) hx hb d_Row_realAt_1 (by decide) (fun c1_1 => ?_) (fun c1_1 => ?_)
  · have fc1_1 : p0.toInt < 0 := zt_lt (show p0.toInt = _ from rfl) tI_0 c1_1
    refine lv_dconst0 hx hb d_Row_realAt_22 ?_
    have := tD_0
    exact j_dret F hr hlocks hK hS () (show dB 0 by omega) hP hD d_Row_realAt_23
  · have fc1_1 : 0 ≤ p0.toInt := Int.not_lt.mp (zt_nlt (show p0.toInt = _ from rfl) tI_0 c1_1)
    refine lv_iload_n hx hb d_Row_realAt_4 rfl (lv_at hl 1 rfl) ?_
    refine lv_aload_n hx hb d_Row_realAt_5 rfl (lv_at hl 0 rfl) ?_
    refine va_get (D := D) (ci := 4) (v := .ref (ad 65)) (C := "PageScribe$Row") (T := F_Row) (N := 4) hx hb hts i_Row hown hK hP 62 (ce_62 _ _ _) cl_4 2 (by decide) (hts _ k_1_48) (fun _ h9 => h9) rfl d_Row_realAt_6 ?_
    refine va_alen (v := 120) hx hb hK hP 65 3 (ce_65 _ _ _) rfl (show Int32.ofNat 120 = 120 from by decide +kernel) d_Row_realAt_9 ?_
    refine lv_icmp_ge (tgt := 22) hx hb d_Row_realAt_10 (by decide) (fun c10_1 => ?_) (fun c10_1 => ?_)
    · have fc10_1 : 120 ≤ p0.toInt := zt_le tI_120 (show p0.toInt = _ from rfl) c10_1
      refine lv_dconst0 hx hb d_Row_realAt_22 ?_
      have := tD_0
      exact j_dret F hr hlocks hK hS () (show dB 0 by omega) hP hD d_Row_realAt_23
    · have fc10_1 : p0.toInt < 120 := Int.not_le.mp (zt_nle tI_120 (show p0.toInt = _ from rfl) c10_1)
      refine lv_aload_n hx hb d_Row_realAt_13 rfl (lv_at hl 0 rfl) ?_
      refine va_get (D := D) (ci := 4) (v := .ref (ad 65)) (C := "PageScribe$Row") (T := F_Row) (N := 4) hx hb hts i_Row hown hK hP 62 (ce_62 _ _ _) cl_4 2 (by decide) (hts _ k_1_48) (fun _ h9 => h9) rfl d_Row_realAt_14 ?_
      refine lv_iload_n hx hb d_Row_realAt_17 rfl (lv_at hl 1 rfl) ?_
      refine va_dald hx hb hK hP 65 3 (ce_65 _ _ _) rfl (zt_in (show p0.toInt = _ from rfl) (by omega) (by omega)) d_Row_realAt_18 ?_
      refine lv_topd (fun x1 ex1 => ?_)
      have gx1 : x1 = (a_xg_r S) p0.toInt.toNat := ex1.trans (congrArg _ (zt_ix (show p0.toInt = _ from rfl)))
      have dx1 : dB x1 := by rw [gx1]; exact i_vg (p0.toInt.toNat) (by omega)
      refine lv_goto (tgt := 23) hx hb d_Row_realAt_19 (by decide) ?_
      exact j_dret F hr hlocks hK hS () (show dB x1 by omega) hP hD d_Row_realAt_23
theorem d_Row_put_0 : decode prog_8_method_5_code 0 = .ok (.iload_n 1, 1) := by decide +kernel
theorem d_Row_put_1 : decode prog_8_method_5_code 1 = .ok (.ifCond .lt 34, 3) := by decide +kernel
theorem d_Row_put_35 : decode prog_8_method_5_code 35 = .ok (.return_, 1) := by decide +kernel
theorem d_Row_put_4 : decode prog_8_method_5_code 4 = .ok (.iload_n 1, 1) := by decide +kernel
theorem d_Row_put_5 : decode prog_8_method_5_code 5 = .ok (.aload_n 0, 1) := by decide +kernel
theorem d_Row_put_6 : decode prog_8_method_5_code 6 = .ok (.getfield 15, 3) := by decide +kernel
theorem d_Row_put_9 : decode prog_8_method_5_code 9 = .ok (.arraylength, 1) := by decide +kernel
theorem d_Row_put_10 : decode prog_8_method_5_code 10 = .ok (.if_icmp .ge 25, 3) := by decide +kernel
theorem d_Row_put_13 : decode prog_8_method_5_code 13 = .ok (.aload_n 0, 1) := by decide +kernel
theorem d_Row_put_14 : decode prog_8_method_5_code 14 = .ok (.getfield 15, 3) := by decide +kernel
theorem d_Row_put_17 : decode prog_8_method_5_code 17 = .ok (.iload_n 1, 1) := by decide +kernel
theorem d_Row_put_18 : decode prog_8_method_5_code 18 = .ok (.iload_n 2, 1) := by decide +kernel
theorem d_Row_put_19 : decode prog_8_method_5_code 19 = .ok (.iastore, 1) := by decide +kernel
theorem d_Row_put_20 : decode prog_8_method_5_code 20 = .ok (.aload_n 0, 1) := by decide +kernel
theorem d_Row_put_21 : decode prog_8_method_5_code 21 = .ok (.getfield 19, 3) := by decide +kernel
theorem d_Row_put_24 : decode prog_8_method_5_code 24 = .ok (.iload_n 1, 1) := by decide +kernel
theorem d_Row_put_25 : decode prog_8_method_5_code 25 = .ok (.iload_n 3, 1) := by decide +kernel
theorem d_Row_put_26 : decode prog_8_method_5_code 26 = .ok (.iastore, 1) := by decide +kernel
theorem d_Row_put_27 : decode prog_8_method_5_code 27 = .ok (.aload_n 0, 1) := by decide +kernel
theorem d_Row_put_28 : decode prog_8_method_5_code 28 = .ok (.getfield 22, 3) := by decide +kernel
theorem d_Row_put_31 : decode prog_8_method_5_code 31 = .ok (.iload_n 1, 1) := by decide +kernel
theorem d_Row_put_32 : decode prog_8_method_5_code 32 = .ok (.dload 4, 2) := by decide +kernel
theorem d_Row_put_34 : decode prog_8_method_5_code 34 = .ok (.dastore, 1) := by decide +kernel
set_option maxHeartbeats 4000000 in
set_option maxRecDepth 100000 in
theorem c_Row_put (l : Launch) (D : va_G) (T : Nat → ClassId) (ad : Nat → Nat) (S : CS) (p0 : Int32) (p1 : Int32) (p2 : Int32) (d0 : UInt64) (sz : Nat)  (hI : CIv S) (h1 : dB d0) : Met l ⟨"PageScribe$Row", "put", "(IIID)V"⟩ (wy ⟨"PageScribe$Row", "put", "(IIID)V"⟩ prog_8_method_5_code 6 none) ({ frames := 0, cells := 0, slots := 0, locals := 0 }) (va_Pc [.ref (ad 1), .int p0, .int p1, .int p2, .double d0] (Pw D T (cW T ad S) sz E0)) (va_Qv (fun (u : CS) => CIv u ∧ kcL S u ∧ kcP S u ∧ kcU S u ∧ kcW S u) (fun u t => Bw D T (va_A (cW T ad S) sz) (cW T ad u) t) (va_A (cW T ad S) sz)) 0 0 (va_A (cW T ad S) sz) := by
  refine j_met (y := ⟨"PageScribe$Row", "put", "(IIID)V"⟩) (b := prog_8_method_5_code) (n := 6) (ret := none) (av := [.ref (ad 1), .int p0, .int p1, .int p2, .double d0]) (Qc := fun A => va_Qv (fun (u : CS) => CIv u ∧ kcL S u ∧ kcP S u ∧ kcU S u ∧ kcW S u) (fun u t => Bw D T A (cW T ad u) t) A) (by decide +kernel) (Nat.le_of_ble_eq_true rfl) (fun p e s m args below meth c A ls F hr hlocks hnm hK hP hD hS hA hN hE hl => ?_)
  obtain ⟨hx, hb, hml, hown, hts⟩ := id F
  have hl : lv_has ls 6 [(0, .ref (ad 1)), (1, .int p0), (2, .int p1), (3, .int p2), (4, .double d0)] := hl
  obtain ⟨i_vst, i_vc0, i_vc1, i_vc2, i_vc3, i_vv0, i_vv1, i_vv2, i_vv3, i_vg, i_wct, i_wln, i_sd0, i_sd1, i_sd2, i_sd3, i_rln, i_rtx, i_rpl, i_rtk, i_cnv, i_pts, i_cik, i_und⟩ := id hI
  have rp0 := zt_rng p0
  have rp1 := zt_rng p1
  have rp2 := zt_rng p2
  refine lv_iload_n hx hb d_Row_put_0 rfl (lv_at hl 1 rfl) ?_
  refine lv_if_lt (tgt := 35) hx hb d_Row_put_1 (by decide) (fun c1_1 => ?_) (fun c1_1 => ?_)
  · have fc1_1 : p0.toInt < 0 := zt_lt (show p0.toInt = _ from rfl) tI_0 c1_1
    exact j_vret F hr hlocks hK hS S ⟨⟨i_vst, i_vc0, i_vc1, i_vc2, i_vc3, i_vv0, i_vv1, i_vv2, i_vv3, i_vg, i_wct, i_wln, i_sd0, i_sd1, i_sd2, i_sd3, i_rln, i_rtx, i_rpl, i_rtk, i_cnv, i_pts, i_cik, i_und⟩, (kcL_r S), (kcP_r S), (kcU_r S), (kcW_r S)⟩ hP hD d_Row_put_35
  · have fc1_1 : 0 ≤ p0.toInt := Int.not_lt.mp (zt_nlt (show p0.toInt = _ from rfl) tI_0 c1_1)
    refine lv_iload_n hx hb d_Row_put_4 rfl (lv_at hl 1 rfl) ?_
    refine lv_aload_n hx hb d_Row_put_5 rfl (lv_at hl 0 rfl) ?_
    refine va_get (D := D) (ci := 0) (v := .ref (ad 2)) (C := "PageScribe$Stack") (T := F_Stack) (N := 4) hx hb hts i_Stack hown hK hP 1 (ce_1 _ _ _) cl_0 0 (by decide) (hts _ k_1_46) (fun _ h9 => h9) rfl d_Row_put_6 ?_
    refine va_alen (v := 40) hx hb hK hP 2 0 (ce_2 _ _ _) rfl (show Int32.ofNat 40 = 40 from by decide +kernel) d_Row_put_9 ?_
    refine lv_icmp_ge (tgt := 35) hx hb d_Row_put_10 (by decide) (fun c10_1 => ?_) (fun c10_1 => ?_)
    · have fc10_1 : 40 ≤ p0.toInt := zt_le tI_40 (show p0.toInt = _ from rfl) c10_1
      exact j_vret F hr hlocks hK hS S ⟨⟨i_vst, i_vc0, i_vc1, i_vc2, i_vc3, i_vv0, i_vv1, i_vv2, i_vv3, i_vg, i_wct, i_wln, i_sd0, i_sd1, i_sd2, i_sd3, i_rln, i_rtx, i_rpl, i_rtk, i_cnv, i_pts, i_cik, i_und⟩, (kcL_r S), (kcP_r S), (kcU_r S), (kcW_r S)⟩ hP hD d_Row_put_35
    · have fc10_1 : p0.toInt < 40 := Int.not_le.mp (zt_nle tI_40 (show p0.toInt = _ from rfl) c10_1)
      refine lv_aload_n hx hb d_Row_put_13 rfl (lv_at hl 0 rfl) ?_
      refine va_get (D := D) (ci := 0) (v := .ref (ad 2)) (C := "PageScribe$Stack") (T := F_Stack) (N := 4) hx hb hts i_Stack hown hK hP 1 (ce_1 _ _ _) cl_0 0 (by decide) (hts _ k_1_46) (fun _ h9 => h9) rfl d_Row_put_14 ?_
      refine lv_iload_n hx hb d_Row_put_17 rfl (lv_at hl 1 rfl) ?_
      refine lv_iload_n hx hb d_Row_put_18 rfl (lv_at hl 2 rfl) ?_
      refine va_iast hx hb hK hP hD hS 2 0 (ce_2 _ _ _) rfl (zt_in (show p0.toInt = _ from rfl) (by omega) (by omega)) d_Row_put_19 (fun H locs hP hD hS => ?_)
      rw [cs_xst_k] at hP hD
      rw [zt_ix (show p0.toInt = _ from rfl)] at hP hD
      have hP : va_P D classes (cW T ad ((((upd (a_xst_k S) (p0.toInt.toNat) p1), (a_xst_n S), (a_xst_r S), (f_xst_z S), (a_xw_letters S), (a_xw_lengths S), (f_xw_count S)), S.2.1, S.2.2.1, S.2.2.2.1, S.2.2.2.2.1, S.2.2.2.2.2.1, S.2.2.2.2.2.2.1, S.2.2.2.2.2.2.2.1, S.2.2.2.2.2.2.2.2) : CS)) H := hP
      have hD : va_D A (cW T ad ((((upd (a_xst_k S) (p0.toInt.toNat) p1), (a_xst_n S), (a_xst_r S), (f_xst_z S), (a_xw_letters S), (a_xw_lengths S), (f_xw_count S)), S.2.1, S.2.2.1, S.2.2.2.1, S.2.2.2.2.1, S.2.2.2.2.2.1, S.2.2.2.2.2.2.1, S.2.2.2.2.2.2.2.1, S.2.2.2.2.2.2.2.2) : CS)) := hD
      refine lv_aload_n hx hb d_Row_put_20 rfl (lv_at hl 0 rfl) ?_
      refine va_get (D := D) (ci := 0) (v := .ref (ad 3)) (C := "PageScribe$Stack") (T := F_Stack) (N := 4) hx hb hts i_Stack hown hK hP 1 (ce_1 _ _ _) cl_0 1 (by decide) (hts _ k_1_47) (fun _ h9 => h9) rfl d_Row_put_21 ?_
      refine lv_iload_n hx hb d_Row_put_24 rfl (lv_at hl 1 rfl) ?_
      refine lv_iload_n hx hb d_Row_put_25 rfl (lv_at hl 3 rfl) ?_
      refine va_iast hx hb hK hP hD hS 3 0 (ce_3 _ _ _) rfl (zt_in (show p0.toInt = _ from rfl) (by omega) (by omega)) d_Row_put_26 (fun H locs hP hD hS => ?_)
      rw [cs_xst_n] at hP hD
      rw [zt_ix (show p0.toInt = _ from rfl)] at hP hD
      have hP : va_P D classes (cW T ad ((((upd (a_xst_k S) (p0.toInt.toNat) p1), (upd (a_xst_n S) (p0.toInt.toNat) p2), (a_xst_r S), (f_xst_z S), (a_xw_letters S), (a_xw_lengths S), (f_xw_count S)), S.2.1, S.2.2.1, S.2.2.2.1, S.2.2.2.2.1, S.2.2.2.2.2.1, S.2.2.2.2.2.2.1, S.2.2.2.2.2.2.2.1, S.2.2.2.2.2.2.2.2) : CS)) H := hP
      have hD : va_D A (cW T ad ((((upd (a_xst_k S) (p0.toInt.toNat) p1), (upd (a_xst_n S) (p0.toInt.toNat) p2), (a_xst_r S), (f_xst_z S), (a_xw_letters S), (a_xw_lengths S), (f_xw_count S)), S.2.1, S.2.2.1, S.2.2.2.1, S.2.2.2.2.1, S.2.2.2.2.2.1, S.2.2.2.2.2.2.1, S.2.2.2.2.2.2.2.1, S.2.2.2.2.2.2.2.2) : CS)) := hD
      refine lv_aload_n hx hb d_Row_put_27 rfl (lv_at hl 0 rfl) ?_
      refine va_get (D := D) (ci := 0) (v := .ref (ad 4)) (C := "PageScribe$Stack") (T := F_Stack) (N := 4) hx hb hts i_Stack hown hK hP 1 (ce_1 _ _ _) cl_0 2 (by decide) (hts _ k_1_48) (fun _ h9 => h9) rfl d_Row_put_28 ?_
      refine lv_iload_n hx hb d_Row_put_31 rfl (lv_at hl 1 rfl) ?_
      refine lv_dload hx hb d_Row_put_32 (lv_at hl 4 rfl) ?_
      refine va_dast hx hb hK hP hD hS 4 3 (ce_4 _ _ _) rfl (zt_in (show p0.toInt = _ from rfl) (by omega) (by omega)) d_Row_put_34 (fun H locs hP hD hS => ?_)
      rw [cs_xst_r] at hP hD
      rw [zt_ix (show p0.toInt = _ from rfl)] at hP hD
      have hP : va_P D classes (cW T ad ((((upd (a_xst_k S) (p0.toInt.toNat) p1), (upd (a_xst_n S) (p0.toInt.toNat) p2), (vf_upd (a_xst_r S) (p0.toInt.toNat) d0), (f_xst_z S), (a_xw_letters S), (a_xw_lengths S), (f_xw_count S)), S.2.1, S.2.2.1, S.2.2.2.1, S.2.2.2.2.1, S.2.2.2.2.2.1, S.2.2.2.2.2.2.1, S.2.2.2.2.2.2.2.1, S.2.2.2.2.2.2.2.2) : CS)) H := hP
      have hD : va_D A (cW T ad ((((upd (a_xst_k S) (p0.toInt.toNat) p1), (upd (a_xst_n S) (p0.toInt.toNat) p2), (vf_upd (a_xst_r S) (p0.toInt.toNat) d0), (f_xst_z S), (a_xw_letters S), (a_xw_lengths S), (f_xw_count S)), S.2.1, S.2.2.1, S.2.2.2.1, S.2.2.2.2.1, S.2.2.2.2.2.1, S.2.2.2.2.2.2.1, S.2.2.2.2.2.2.2.1, S.2.2.2.2.2.2.2.2) : CS)) := hD
      have i_vst : ∀ k, k < 40 → dB ((vf_upd (a_xst_r S) (p0.toInt.toNat) d0) k) := dB_up i_vst (by omega)
      exact j_vret F hr hlocks hK hS ((((upd (a_xst_k S) (p0.toInt.toNat) p1), (upd (a_xst_n S) (p0.toInt.toNat) p2), (vf_upd (a_xst_r S) (p0.toInt.toNat) d0), (f_xst_z S), (a_xw_letters S), (a_xw_lengths S), (f_xw_count S)), S.2.1, S.2.2.1, S.2.2.2.1, S.2.2.2.2.1, S.2.2.2.2.2.1, S.2.2.2.2.2.2.1, S.2.2.2.2.2.2.2.1, S.2.2.2.2.2.2.2.2) : CS) ⟨⟨i_vst, i_vc0, i_vc1, i_vc2, i_vc3, i_vv0, i_vv1, i_vv2, i_vv3, i_vg, i_wct, i_wln, i_sd0, i_sd1, i_sd2, i_sd3, i_rln, i_rtx, i_rpl, i_rtk, i_cnv, i_pts, i_cik, i_und⟩, (kcL_r S), (kcP_r S), (kcU_r S), (kcW_r S)⟩ hP hD d_Row_put_35
set_option maxHeartbeats 4000000 in
set_option maxRecDepth 100000 in
theorem c_Row_put_13 (l : Launch) (D : va_G) (T : Nat → ClassId) (ad : Nat → Nat) (S : CS) (p0 : Int32) (p1 : Int32) (p2 : Int32) (d0 : UInt64) (sz : Nat)  (hI : CIv S) (h1 : dB d0) : Met l ⟨"PageScribe$Row", "put", "(IIID)V"⟩ (wy ⟨"PageScribe$Row", "put", "(IIID)V"⟩ prog_8_method_5_code 6 none) ({ frames := 0, cells := 0, slots := 0, locals := 0 }) (va_Pc [.ref (ad 13), .int p0, .int p1, .int p2, .double d0] (Pw D T (cW T ad S) sz E0)) (va_Qv (fun (u : CS) => CIv u ∧ kcL S u ∧ kcP S u ∧ kcU S u ∧ kcW S u) (fun u t => Bw D T (va_A (cW T ad S) sz) (cW T ad u) t) (va_A (cW T ad S) sz)) 0 0 (va_A (cW T ad S) sz) := by
  refine j_met (y := ⟨"PageScribe$Row", "put", "(IIID)V"⟩) (b := prog_8_method_5_code) (n := 6) (ret := none) (av := [.ref (ad 13), .int p0, .int p1, .int p2, .double d0]) (Qc := fun A => va_Qv (fun (u : CS) => CIv u ∧ kcL S u ∧ kcP S u ∧ kcU S u ∧ kcW S u) (fun u t => Bw D T A (cW T ad u) t) A) (by decide +kernel) (Nat.le_of_ble_eq_true rfl) (fun p e s m args below meth c A ls F hr hlocks hnm hK hP hD hS hA hN hE hl => ?_)
  obtain ⟨hx, hb, hml, hown, hts⟩ := id F
  have hl : lv_has ls 6 [(0, .ref (ad 13)), (1, .int p0), (2, .int p1), (3, .int p2), (4, .double d0)] := hl
  obtain ⟨i_vst, i_vc0, i_vc1, i_vc2, i_vc3, i_vv0, i_vv1, i_vv2, i_vv3, i_vg, i_wct, i_wln, i_sd0, i_sd1, i_sd2, i_sd3, i_rln, i_rtx, i_rpl, i_rtk, i_cnv, i_pts, i_cik, i_und⟩ := id hI
  have rp0 := zt_rng p0
  have rp1 := zt_rng p1
  have rp2 := zt_rng p2
  refine lv_iload_n hx hb d_Row_put_0 rfl (lv_at hl 1 rfl) ?_
  refine lv_if_lt (tgt := 35) hx hb d_Row_put_1 (by decide) (fun c1_1 => ?_) (fun c1_1 => ?_)
  · have fc1_1 : p0.toInt < 0 := zt_lt (show p0.toInt = _ from rfl) tI_0 c1_1
    exact j_vret F hr hlocks hK hS S ⟨⟨i_vst, i_vc0, i_vc1, i_vc2, i_vc3, i_vv0, i_vv1, i_vv2, i_vv3, i_vg, i_wct, i_wln, i_sd0, i_sd1, i_sd2, i_sd3, i_rln, i_rtx, i_rpl, i_rtk, i_cnv, i_pts, i_cik, i_und⟩, (kcL_r S), (kcP_r S), (kcU_r S), (kcW_r S)⟩ hP hD d_Row_put_35
  · have fc1_1 : 0 ≤ p0.toInt := Int.not_lt.mp (zt_nlt (show p0.toInt = _ from rfl) tI_0 c1_1)
    refine lv_iload_n hx hb d_Row_put_4 rfl (lv_at hl 1 rfl) ?_
    refine lv_aload_n hx hb d_Row_put_5 rfl (lv_at hl 0 rfl) ?_
    refine va_get (D := D) (ci := 4) (v := .ref (ad 14)) (C := "PageScribe$Row") (T := F_Row) (N := 4) hx hb hts i_Row hown hK hP 13 (ce_13 _ _ _) cl_4 0 (by decide) (hts _ k_1_46) (fun _ h9 => h9) rfl d_Row_put_6 ?_
    refine va_alen (v := 160) hx hb hK hP 14 0 (ce_14 _ _ _) rfl (show Int32.ofNat 160 = 160 from by decide +kernel) d_Row_put_9 ?_
    refine lv_icmp_ge (tgt := 35) hx hb d_Row_put_10 (by decide) (fun c10_1 => ?_) (fun c10_1 => ?_)
    · have fc10_1 : 160 ≤ p0.toInt := zt_le tI_160 (show p0.toInt = _ from rfl) c10_1
      exact j_vret F hr hlocks hK hS S ⟨⟨i_vst, i_vc0, i_vc1, i_vc2, i_vc3, i_vv0, i_vv1, i_vv2, i_vv3, i_vg, i_wct, i_wln, i_sd0, i_sd1, i_sd2, i_sd3, i_rln, i_rtx, i_rpl, i_rtk, i_cnv, i_pts, i_cik, i_und⟩, (kcL_r S), (kcP_r S), (kcU_r S), (kcW_r S)⟩ hP hD d_Row_put_35
    · have fc10_1 : p0.toInt < 160 := Int.not_le.mp (zt_nle tI_160 (show p0.toInt = _ from rfl) c10_1)
      refine lv_aload_n hx hb d_Row_put_13 rfl (lv_at hl 0 rfl) ?_
      refine va_get (D := D) (ci := 4) (v := .ref (ad 14)) (C := "PageScribe$Row") (T := F_Row) (N := 4) hx hb hts i_Row hown hK hP 13 (ce_13 _ _ _) cl_4 0 (by decide) (hts _ k_1_46) (fun _ h9 => h9) rfl d_Row_put_14 ?_
      refine lv_iload_n hx hb d_Row_put_17 rfl (lv_at hl 1 rfl) ?_
      refine lv_iload_n hx hb d_Row_put_18 rfl (lv_at hl 2 rfl) ?_
      refine va_iast hx hb hK hP hD hS 14 0 (ce_14 _ _ _) rfl (zt_in (show p0.toInt = _ from rfl) (by omega) (by omega)) d_Row_put_19 (fun H locs hP hD hS => ?_)
      rw [cs_xc0_k] at hP hD
      rw [zt_ix (show p0.toInt = _ from rfl)] at hP hD
      have hP : va_P D classes (cW T ad ((S.1, S.2.1, ((upd (a_xc0_k S) (p0.toInt.toNat) p1), (a_xc0_n S), (a_xc0_r S), (f_xc0_z S), (a_xd0_rooms S), (a_xd0_counts S), (a_xd0_names S), (a_xv0_k S), (a_xv0_n S), (a_xv0_r S), (f_xv0_z S)), S.2.2.2.1, S.2.2.2.2.1, S.2.2.2.2.2.1, S.2.2.2.2.2.2.1, S.2.2.2.2.2.2.2.1, S.2.2.2.2.2.2.2.2) : CS)) H := hP
      have hD : va_D A (cW T ad ((S.1, S.2.1, ((upd (a_xc0_k S) (p0.toInt.toNat) p1), (a_xc0_n S), (a_xc0_r S), (f_xc0_z S), (a_xd0_rooms S), (a_xd0_counts S), (a_xd0_names S), (a_xv0_k S), (a_xv0_n S), (a_xv0_r S), (f_xv0_z S)), S.2.2.2.1, S.2.2.2.2.1, S.2.2.2.2.2.1, S.2.2.2.2.2.2.1, S.2.2.2.2.2.2.2.1, S.2.2.2.2.2.2.2.2) : CS)) := hD
      refine lv_aload_n hx hb d_Row_put_20 rfl (lv_at hl 0 rfl) ?_
      refine va_get (D := D) (ci := 4) (v := .ref (ad 15)) (C := "PageScribe$Row") (T := F_Row) (N := 4) hx hb hts i_Row hown hK hP 13 (ce_13 _ _ _) cl_4 1 (by decide) (hts _ k_1_47) (fun _ h9 => h9) rfl d_Row_put_21 ?_
      refine lv_iload_n hx hb d_Row_put_24 rfl (lv_at hl 1 rfl) ?_
      refine lv_iload_n hx hb d_Row_put_25 rfl (lv_at hl 3 rfl) ?_
      refine va_iast hx hb hK hP hD hS 15 0 (ce_15 _ _ _) rfl (zt_in (show p0.toInt = _ from rfl) (by omega) (by omega)) d_Row_put_26 (fun H locs hP hD hS => ?_)
      rw [cs_xc0_n] at hP hD
      rw [zt_ix (show p0.toInt = _ from rfl)] at hP hD
      have hP : va_P D classes (cW T ad ((S.1, S.2.1, ((upd (a_xc0_k S) (p0.toInt.toNat) p1), (upd (a_xc0_n S) (p0.toInt.toNat) p2), (a_xc0_r S), (f_xc0_z S), (a_xd0_rooms S), (a_xd0_counts S), (a_xd0_names S), (a_xv0_k S), (a_xv0_n S), (a_xv0_r S), (f_xv0_z S)), S.2.2.2.1, S.2.2.2.2.1, S.2.2.2.2.2.1, S.2.2.2.2.2.2.1, S.2.2.2.2.2.2.2.1, S.2.2.2.2.2.2.2.2) : CS)) H := hP
      have hD : va_D A (cW T ad ((S.1, S.2.1, ((upd (a_xc0_k S) (p0.toInt.toNat) p1), (upd (a_xc0_n S) (p0.toInt.toNat) p2), (a_xc0_r S), (f_xc0_z S), (a_xd0_rooms S), (a_xd0_counts S), (a_xd0_names S), (a_xv0_k S), (a_xv0_n S), (a_xv0_r S), (f_xv0_z S)), S.2.2.2.1, S.2.2.2.2.1, S.2.2.2.2.2.1, S.2.2.2.2.2.2.1, S.2.2.2.2.2.2.2.1, S.2.2.2.2.2.2.2.2) : CS)) := hD
      refine lv_aload_n hx hb d_Row_put_27 rfl (lv_at hl 0 rfl) ?_
      refine va_get (D := D) (ci := 4) (v := .ref (ad 16)) (C := "PageScribe$Row") (T := F_Row) (N := 4) hx hb hts i_Row hown hK hP 13 (ce_13 _ _ _) cl_4 2 (by decide) (hts _ k_1_48) (fun _ h9 => h9) rfl d_Row_put_28 ?_
      refine lv_iload_n hx hb d_Row_put_31 rfl (lv_at hl 1 rfl) ?_
      refine lv_dload hx hb d_Row_put_32 (lv_at hl 4 rfl) ?_
      refine va_dast hx hb hK hP hD hS 16 3 (ce_16 _ _ _) rfl (zt_in (show p0.toInt = _ from rfl) (by omega) (by omega)) d_Row_put_34 (fun H locs hP hD hS => ?_)
      rw [cs_xc0_r] at hP hD
      rw [zt_ix (show p0.toInt = _ from rfl)] at hP hD
      have hP : va_P D classes (cW T ad ((S.1, S.2.1, ((upd (a_xc0_k S) (p0.toInt.toNat) p1), (upd (a_xc0_n S) (p0.toInt.toNat) p2), (vf_upd (a_xc0_r S) (p0.toInt.toNat) d0), (f_xc0_z S), (a_xd0_rooms S), (a_xd0_counts S), (a_xd0_names S), (a_xv0_k S), (a_xv0_n S), (a_xv0_r S), (f_xv0_z S)), S.2.2.2.1, S.2.2.2.2.1, S.2.2.2.2.2.1, S.2.2.2.2.2.2.1, S.2.2.2.2.2.2.2.1, S.2.2.2.2.2.2.2.2) : CS)) H := hP
      have hD : va_D A (cW T ad ((S.1, S.2.1, ((upd (a_xc0_k S) (p0.toInt.toNat) p1), (upd (a_xc0_n S) (p0.toInt.toNat) p2), (vf_upd (a_xc0_r S) (p0.toInt.toNat) d0), (f_xc0_z S), (a_xd0_rooms S), (a_xd0_counts S), (a_xd0_names S), (a_xv0_k S), (a_xv0_n S), (a_xv0_r S), (f_xv0_z S)), S.2.2.2.1, S.2.2.2.2.1, S.2.2.2.2.2.1, S.2.2.2.2.2.2.1, S.2.2.2.2.2.2.2.1, S.2.2.2.2.2.2.2.2) : CS)) := hD
      have i_vc0 : ∀ k, k < 160 → dB ((vf_upd (a_xc0_r S) (p0.toInt.toNat) d0) k) := dB_up i_vc0 (by omega)
      exact j_vret F hr hlocks hK hS ((S.1, S.2.1, ((upd (a_xc0_k S) (p0.toInt.toNat) p1), (upd (a_xc0_n S) (p0.toInt.toNat) p2), (vf_upd (a_xc0_r S) (p0.toInt.toNat) d0), (f_xc0_z S), (a_xd0_rooms S), (a_xd0_counts S), (a_xd0_names S), (a_xv0_k S), (a_xv0_n S), (a_xv0_r S), (f_xv0_z S)), S.2.2.2.1, S.2.2.2.2.1, S.2.2.2.2.2.1, S.2.2.2.2.2.2.1, S.2.2.2.2.2.2.2.1, S.2.2.2.2.2.2.2.2) : CS) ⟨⟨i_vst, i_vc0, i_vc1, i_vc2, i_vc3, i_vv0, i_vv1, i_vv2, i_vv3, i_vg, i_wct, i_wln, i_sd0, i_sd1, i_sd2, i_sd3, i_rln, i_rtx, i_rpl, i_rtk, i_cnv, i_pts, i_cik, i_und⟩, (kcL_r S), (kcP_r S), (kcU_r S), (kcW_r S)⟩ hP hD d_Row_put_35
set_option maxHeartbeats 4000000 in
set_option maxRecDepth 100000 in
theorem c_Row_put_20 (l : Launch) (D : va_G) (T : Nat → ClassId) (ad : Nat → Nat) (S : CS) (p0 : Int32) (p1 : Int32) (p2 : Int32) (d0 : UInt64) (sz : Nat)  (hI : CIv S) (h1 : dB d0) : Met l ⟨"PageScribe$Row", "put", "(IIID)V"⟩ (wy ⟨"PageScribe$Row", "put", "(IIID)V"⟩ prog_8_method_5_code 6 none) ({ frames := 0, cells := 0, slots := 0, locals := 0 }) (va_Pc [.ref (ad 20), .int p0, .int p1, .int p2, .double d0] (Pw D T (cW T ad S) sz E0)) (va_Qv (fun (u : CS) => CIv u ∧ kcL S u ∧ kcP S u ∧ kcU S u ∧ kcW S u) (fun u t => Bw D T (va_A (cW T ad S) sz) (cW T ad u) t) (va_A (cW T ad S) sz)) 0 0 (va_A (cW T ad S) sz) := by
  refine j_met (y := ⟨"PageScribe$Row", "put", "(IIID)V"⟩) (b := prog_8_method_5_code) (n := 6) (ret := none) (av := [.ref (ad 20), .int p0, .int p1, .int p2, .double d0]) (Qc := fun A => va_Qv (fun (u : CS) => CIv u ∧ kcL S u ∧ kcP S u ∧ kcU S u ∧ kcW S u) (fun u t => Bw D T A (cW T ad u) t) A) (by decide +kernel) (Nat.le_of_ble_eq_true rfl) (fun p e s m args below meth c A ls F hr hlocks hnm hK hP hD hS hA hN hE hl => ?_)
  obtain ⟨hx, hb, hml, hown, hts⟩ := id F
  have hl : lv_has ls 6 [(0, .ref (ad 20)), (1, .int p0), (2, .int p1), (3, .int p2), (4, .double d0)] := hl
  obtain ⟨i_vst, i_vc0, i_vc1, i_vc2, i_vc3, i_vv0, i_vv1, i_vv2, i_vv3, i_vg, i_wct, i_wln, i_sd0, i_sd1, i_sd2, i_sd3, i_rln, i_rtx, i_rpl, i_rtk, i_cnv, i_pts, i_cik, i_und⟩ := id hI
  have rp0 := zt_rng p0
  have rp1 := zt_rng p1
  have rp2 := zt_rng p2
  refine lv_iload_n hx hb d_Row_put_0 rfl (lv_at hl 1 rfl) ?_
  refine lv_if_lt (tgt := 35) hx hb d_Row_put_1 (by decide) (fun c1_1 => ?_) (fun c1_1 => ?_)
  · have fc1_1 : p0.toInt < 0 := zt_lt (show p0.toInt = _ from rfl) tI_0 c1_1
    exact j_vret F hr hlocks hK hS S ⟨⟨i_vst, i_vc0, i_vc1, i_vc2, i_vc3, i_vv0, i_vv1, i_vv2, i_vv3, i_vg, i_wct, i_wln, i_sd0, i_sd1, i_sd2, i_sd3, i_rln, i_rtx, i_rpl, i_rtk, i_cnv, i_pts, i_cik, i_und⟩, (kcL_r S), (kcP_r S), (kcU_r S), (kcW_r S)⟩ hP hD d_Row_put_35
  · have fc1_1 : 0 ≤ p0.toInt := Int.not_lt.mp (zt_nlt (show p0.toInt = _ from rfl) tI_0 c1_1)
    refine lv_iload_n hx hb d_Row_put_4 rfl (lv_at hl 1 rfl) ?_
    refine lv_aload_n hx hb d_Row_put_5 rfl (lv_at hl 0 rfl) ?_
    refine va_get (D := D) (ci := 4) (v := .ref (ad 21)) (C := "PageScribe$Row") (T := F_Row) (N := 4) hx hb hts i_Row hown hK hP 20 (ce_20 _ _ _) cl_4 0 (by decide) (hts _ k_1_46) (fun _ h9 => h9) rfl d_Row_put_6 ?_
    refine va_alen (v := 80) hx hb hK hP 21 0 (ce_21 _ _ _) rfl (show Int32.ofNat 80 = 80 from by decide +kernel) d_Row_put_9 ?_
    refine lv_icmp_ge (tgt := 35) hx hb d_Row_put_10 (by decide) (fun c10_1 => ?_) (fun c10_1 => ?_)
    · have fc10_1 : 80 ≤ p0.toInt := zt_le tI_80 (show p0.toInt = _ from rfl) c10_1
      exact j_vret F hr hlocks hK hS S ⟨⟨i_vst, i_vc0, i_vc1, i_vc2, i_vc3, i_vv0, i_vv1, i_vv2, i_vv3, i_vg, i_wct, i_wln, i_sd0, i_sd1, i_sd2, i_sd3, i_rln, i_rtx, i_rpl, i_rtk, i_cnv, i_pts, i_cik, i_und⟩, (kcL_r S), (kcP_r S), (kcU_r S), (kcW_r S)⟩ hP hD d_Row_put_35
    · have fc10_1 : p0.toInt < 80 := Int.not_le.mp (zt_nle tI_80 (show p0.toInt = _ from rfl) c10_1)
      refine lv_aload_n hx hb d_Row_put_13 rfl (lv_at hl 0 rfl) ?_
      refine va_get (D := D) (ci := 4) (v := .ref (ad 21)) (C := "PageScribe$Row") (T := F_Row) (N := 4) hx hb hts i_Row hown hK hP 20 (ce_20 _ _ _) cl_4 0 (by decide) (hts _ k_1_46) (fun _ h9 => h9) rfl d_Row_put_14 ?_
      refine lv_iload_n hx hb d_Row_put_17 rfl (lv_at hl 1 rfl) ?_
      refine lv_iload_n hx hb d_Row_put_18 rfl (lv_at hl 2 rfl) ?_
      refine va_iast hx hb hK hP hD hS 21 0 (ce_21 _ _ _) rfl (zt_in (show p0.toInt = _ from rfl) (by omega) (by omega)) d_Row_put_19 (fun H locs hP hD hS => ?_)
      rw [cs_xv0_k] at hP hD
      rw [zt_ix (show p0.toInt = _ from rfl)] at hP hD
      have hP : va_P D classes (cW T ad ((S.1, S.2.1, ((a_xc0_k S), (a_xc0_n S), (a_xc0_r S), (f_xc0_z S), (a_xd0_rooms S), (a_xd0_counts S), (a_xd0_names S), (upd (a_xv0_k S) (p0.toInt.toNat) p1), (a_xv0_n S), (a_xv0_r S), (f_xv0_z S)), S.2.2.2.1, S.2.2.2.2.1, S.2.2.2.2.2.1, S.2.2.2.2.2.2.1, S.2.2.2.2.2.2.2.1, S.2.2.2.2.2.2.2.2) : CS)) H := hP
      have hD : va_D A (cW T ad ((S.1, S.2.1, ((a_xc0_k S), (a_xc0_n S), (a_xc0_r S), (f_xc0_z S), (a_xd0_rooms S), (a_xd0_counts S), (a_xd0_names S), (upd (a_xv0_k S) (p0.toInt.toNat) p1), (a_xv0_n S), (a_xv0_r S), (f_xv0_z S)), S.2.2.2.1, S.2.2.2.2.1, S.2.2.2.2.2.1, S.2.2.2.2.2.2.1, S.2.2.2.2.2.2.2.1, S.2.2.2.2.2.2.2.2) : CS)) := hD
      refine lv_aload_n hx hb d_Row_put_20 rfl (lv_at hl 0 rfl) ?_
      refine va_get (D := D) (ci := 4) (v := .ref (ad 22)) (C := "PageScribe$Row") (T := F_Row) (N := 4) hx hb hts i_Row hown hK hP 20 (ce_20 _ _ _) cl_4 1 (by decide) (hts _ k_1_47) (fun _ h9 => h9) rfl d_Row_put_21 ?_
      refine lv_iload_n hx hb d_Row_put_24 rfl (lv_at hl 1 rfl) ?_
      refine lv_iload_n hx hb d_Row_put_25 rfl (lv_at hl 3 rfl) ?_
      refine va_iast hx hb hK hP hD hS 22 0 (ce_22 _ _ _) rfl (zt_in (show p0.toInt = _ from rfl) (by omega) (by omega)) d_Row_put_26 (fun H locs hP hD hS => ?_)
      rw [cs_xv0_n] at hP hD
      rw [zt_ix (show p0.toInt = _ from rfl)] at hP hD
      have hP : va_P D classes (cW T ad ((S.1, S.2.1, ((a_xc0_k S), (a_xc0_n S), (a_xc0_r S), (f_xc0_z S), (a_xd0_rooms S), (a_xd0_counts S), (a_xd0_names S), (upd (a_xv0_k S) (p0.toInt.toNat) p1), (upd (a_xv0_n S) (p0.toInt.toNat) p2), (a_xv0_r S), (f_xv0_z S)), S.2.2.2.1, S.2.2.2.2.1, S.2.2.2.2.2.1, S.2.2.2.2.2.2.1, S.2.2.2.2.2.2.2.1, S.2.2.2.2.2.2.2.2) : CS)) H := hP
      have hD : va_D A (cW T ad ((S.1, S.2.1, ((a_xc0_k S), (a_xc0_n S), (a_xc0_r S), (f_xc0_z S), (a_xd0_rooms S), (a_xd0_counts S), (a_xd0_names S), (upd (a_xv0_k S) (p0.toInt.toNat) p1), (upd (a_xv0_n S) (p0.toInt.toNat) p2), (a_xv0_r S), (f_xv0_z S)), S.2.2.2.1, S.2.2.2.2.1, S.2.2.2.2.2.1, S.2.2.2.2.2.2.1, S.2.2.2.2.2.2.2.1, S.2.2.2.2.2.2.2.2) : CS)) := hD
      refine lv_aload_n hx hb d_Row_put_27 rfl (lv_at hl 0 rfl) ?_
      refine va_get (D := D) (ci := 4) (v := .ref (ad 23)) (C := "PageScribe$Row") (T := F_Row) (N := 4) hx hb hts i_Row hown hK hP 20 (ce_20 _ _ _) cl_4 2 (by decide) (hts _ k_1_48) (fun _ h9 => h9) rfl d_Row_put_28 ?_
      refine lv_iload_n hx hb d_Row_put_31 rfl (lv_at hl 1 rfl) ?_
      refine lv_dload hx hb d_Row_put_32 (lv_at hl 4 rfl) ?_
      refine va_dast hx hb hK hP hD hS 23 3 (ce_23 _ _ _) rfl (zt_in (show p0.toInt = _ from rfl) (by omega) (by omega)) d_Row_put_34 (fun H locs hP hD hS => ?_)
      rw [cs_xv0_r] at hP hD
      rw [zt_ix (show p0.toInt = _ from rfl)] at hP hD
      have hP : va_P D classes (cW T ad ((S.1, S.2.1, ((a_xc0_k S), (a_xc0_n S), (a_xc0_r S), (f_xc0_z S), (a_xd0_rooms S), (a_xd0_counts S), (a_xd0_names S), (upd (a_xv0_k S) (p0.toInt.toNat) p1), (upd (a_xv0_n S) (p0.toInt.toNat) p2), (vf_upd (a_xv0_r S) (p0.toInt.toNat) d0), (f_xv0_z S)), S.2.2.2.1, S.2.2.2.2.1, S.2.2.2.2.2.1, S.2.2.2.2.2.2.1, S.2.2.2.2.2.2.2.1, S.2.2.2.2.2.2.2.2) : CS)) H := hP
      have hD : va_D A (cW T ad ((S.1, S.2.1, ((a_xc0_k S), (a_xc0_n S), (a_xc0_r S), (f_xc0_z S), (a_xd0_rooms S), (a_xd0_counts S), (a_xd0_names S), (upd (a_xv0_k S) (p0.toInt.toNat) p1), (upd (a_xv0_n S) (p0.toInt.toNat) p2), (vf_upd (a_xv0_r S) (p0.toInt.toNat) d0), (f_xv0_z S)), S.2.2.2.1, S.2.2.2.2.1, S.2.2.2.2.2.1, S.2.2.2.2.2.2.1, S.2.2.2.2.2.2.2.1, S.2.2.2.2.2.2.2.2) : CS)) := hD
      have i_vv0 : ∀ k, k < 80 → dB ((vf_upd (a_xv0_r S) (p0.toInt.toNat) d0) k) := dB_up i_vv0 (by omega)
      exact j_vret F hr hlocks hK hS ((S.1, S.2.1, ((a_xc0_k S), (a_xc0_n S), (a_xc0_r S), (f_xc0_z S), (a_xd0_rooms S), (a_xd0_counts S), (a_xd0_names S), (upd (a_xv0_k S) (p0.toInt.toNat) p1), (upd (a_xv0_n S) (p0.toInt.toNat) p2), (vf_upd (a_xv0_r S) (p0.toInt.toNat) d0), (f_xv0_z S)), S.2.2.2.1, S.2.2.2.2.1, S.2.2.2.2.2.1, S.2.2.2.2.2.2.1, S.2.2.2.2.2.2.2.1, S.2.2.2.2.2.2.2.2) : CS) ⟨⟨i_vst, i_vc0, i_vc1, i_vc2, i_vc3, i_vv0, i_vv1, i_vv2, i_vv3, i_vg, i_wct, i_wln, i_sd0, i_sd1, i_sd2, i_sd3, i_rln, i_rtx, i_rpl, i_rtk, i_cnv, i_pts, i_cik, i_und⟩, (kcL_r S), (kcP_r S), (kcU_r S), (kcW_r S)⟩ hP hD d_Row_put_35
theorem d_Row_push_0 : decode prog_8_method_6_code 0 = .ok (.aload_n 0, 1) := by decide +kernel
theorem d_Row_push_1 : decode prog_8_method_6_code 1 = .ok (.getfield 9, 3) := by decide +kernel
theorem k_1_49 : Cond.fieldLink "PageScribe$Row" 9 "PageScribe$Row" "size" "I" ∈ gw := gw_of (tb_1 (List.mem_of_getElem? (i := 49) (by decide +kernel))) (by decide +kernel)
theorem d_Row_push_4 : decode prog_8_method_6_code 4 = .ok (.ifCond .lt 15, 3) := by decide +kernel
theorem d_Row_push_19 : decode prog_8_method_6_code 19 = .ok (.iconst 2, 1) := by decide +kernel
theorem d_Row_push_20 : decode prog_8_method_6_code 20 = .ok (.ireturn, 1) := by decide +kernel
theorem d_Row_push_7 : decode prog_8_method_6_code 7 = .ok (.aload_n 0, 1) := by decide +kernel
theorem d_Row_push_8 : decode prog_8_method_6_code 8 = .ok (.getfield 9, 3) := by decide +kernel
theorem d_Row_push_11 : decode prog_8_method_6_code 11 = .ok (.aload_n 0, 1) := by decide +kernel
theorem d_Row_push_12 : decode prog_8_method_6_code 12 = .ok (.getfield 15, 3) := by decide +kernel
theorem d_Row_push_15 : decode prog_8_method_6_code 15 = .ok (.arraylength, 1) := by decide +kernel
theorem d_Row_push_16 : decode prog_8_method_6_code 16 = .ok (.if_icmp .lt 5, 3) := by decide +kernel
theorem d_Row_push_21 : decode prog_8_method_6_code 21 = .ok (.aload_n 0, 1) := by decide +kernel
theorem d_Row_push_22 : decode prog_8_method_6_code 22 = .ok (.getfield 15, 3) := by decide +kernel
theorem d_Row_push_25 : decode prog_8_method_6_code 25 = .ok (.aload_n 0, 1) := by decide +kernel
theorem d_Row_push_26 : decode prog_8_method_6_code 26 = .ok (.getfield 9, 3) := by decide +kernel
theorem d_Row_push_29 : decode prog_8_method_6_code 29 = .ok (.iload_n 1, 1) := by decide +kernel
theorem d_Row_push_30 : decode prog_8_method_6_code 30 = .ok (.iastore, 1) := by decide +kernel
theorem d_Row_push_31 : decode prog_8_method_6_code 31 = .ok (.aload_n 0, 1) := by decide +kernel
theorem d_Row_push_32 : decode prog_8_method_6_code 32 = .ok (.getfield 19, 3) := by decide +kernel
theorem d_Row_push_35 : decode prog_8_method_6_code 35 = .ok (.aload_n 0, 1) := by decide +kernel
theorem d_Row_push_36 : decode prog_8_method_6_code 36 = .ok (.getfield 9, 3) := by decide +kernel
theorem d_Row_push_39 : decode prog_8_method_6_code 39 = .ok (.iload_n 2, 1) := by decide +kernel
theorem d_Row_push_40 : decode prog_8_method_6_code 40 = .ok (.iastore, 1) := by decide +kernel
theorem d_Row_push_41 : decode prog_8_method_6_code 41 = .ok (.aload_n 0, 1) := by decide +kernel
theorem d_Row_push_42 : decode prog_8_method_6_code 42 = .ok (.getfield 22, 3) := by decide +kernel
theorem d_Row_push_45 : decode prog_8_method_6_code 45 = .ok (.aload_n 0, 1) := by decide +kernel
theorem d_Row_push_46 : decode prog_8_method_6_code 46 = .ok (.getfield 9, 3) := by decide +kernel
theorem d_Row_push_49 : decode prog_8_method_6_code 49 = .ok (.dload_n 3, 1) := by decide +kernel
theorem d_Row_push_50 : decode prog_8_method_6_code 50 = .ok (.dastore, 1) := by decide +kernel
theorem d_Row_push_51 : decode prog_8_method_6_code 51 = .ok (.aload_n 0, 1) := by decide +kernel
theorem d_Row_push_52 : decode prog_8_method_6_code 52 = .ok (.dup, 1) := by decide +kernel
theorem d_Row_push_53 : decode prog_8_method_6_code 53 = .ok (.getfield 9, 3) := by decide +kernel
theorem d_Row_push_56 : decode prog_8_method_6_code 56 = .ok (.iconst 1, 1) := by decide +kernel
theorem d_Row_push_57 : decode prog_8_method_6_code 57 = .ok (.iadd, 1) := by decide +kernel
theorem d_Row_push_58 : decode prog_8_method_6_code 58 = .ok (.putfield 9, 3) := by decide +kernel
theorem d_Row_push_61 : decode prog_8_method_6_code 61 = .ok (.iconst 0, 1) := by decide +kernel
theorem d_Row_push_62 : decode prog_8_method_6_code 62 = .ok (.ireturn, 1) := by decide +kernel
set_option maxHeartbeats 4000000 in
set_option maxRecDepth 100000 in
theorem c_Row_push (l : Launch) (D : va_G) (T : Nat → ClassId) (ad : Nat → Nat) (S : CS) (p0 : Int32) (p1 : Int32) (d0 : UInt64) (sz : Nat)  (hI : CIv S) (h1 : dB d0) : Met l ⟨"PageScribe$Row", "push", "(IID)I"⟩ (wy ⟨"PageScribe$Row", "push", "(IID)I"⟩ prog_8_method_6_code 5 (some .int)) ({ frames := 0, cells := 0, slots := 0, locals := 0 }) (va_Pc [.ref (ad 1), .int p0, .int p1, .double d0] (Pw D T (cW T ad S) sz E0)) (va_Qi (fun (r : Int32) (u : CS) => CIv u ∧ kcL S u ∧ kcP S u ∧ kcU S u ∧ kcW S u) (fun u t => Bw D T (va_A (cW T ad S) sz) (cW T ad u) t) (va_A (cW T ad S) sz)) 0 0 (va_A (cW T ad S) sz) := by
  refine j_met (y := ⟨"PageScribe$Row", "push", "(IID)I"⟩) (b := prog_8_method_6_code) (n := 5) (ret := (some .int)) (av := [.ref (ad 1), .int p0, .int p1, .double d0]) (Qc := fun A => va_Qi (fun (r : Int32) (u : CS) => CIv u ∧ kcL S u ∧ kcP S u ∧ kcU S u ∧ kcW S u) (fun u t => Bw D T A (cW T ad u) t) A) (by decide +kernel) (Nat.le_of_ble_eq_true rfl) (fun p e s m args below meth c A ls F hr hlocks hnm hK hP hD hS hA hN hE hl => ?_)
  obtain ⟨hx, hb, hml, hown, hts⟩ := id F
  have hl : lv_has ls 5 [(0, .ref (ad 1)), (1, .int p0), (2, .int p1), (3, .double d0)] := hl
  obtain ⟨i_vst, i_vc0, i_vc1, i_vc2, i_vc3, i_vv0, i_vv1, i_vv2, i_vv3, i_vg, i_wct, i_wln, i_sd0, i_sd1, i_sd2, i_sd3, i_rln, i_rtx, i_rpl, i_rtk, i_cnv, i_pts, i_cik, i_und⟩ := id hI
  have rp0 := zt_rng p0
  have rp1 := zt_rng p1
  refine lv_aload_n hx hb d_Row_push_0 rfl (lv_at hl 0 rfl) ?_
  refine va_get (D := D) (ci := 0) (v := .int (f_xst_z S)) (C := "PageScribe$Stack") (T := F_Stack) (N := 4) hx hb hts i_Stack hown hK hP 1 (ce_1 _ _ _) cl_0 3 (by decide) (hts _ k_1_49) (fun _ h9 => h9) rfl d_Row_push_1 ?_
  refine lv_if_lt (tgt := 19) hx hb d_Row_push_4 (by decide) (fun c4_1 => ?_) (fun c4_1 => ?_)
  · have fc4_1 : (f_xst_z S).toInt < 0 := zt_lt (show (f_xst_z S).toInt = _ from rfl) tI_0 c4_1
    refine lv_iconst (v := 2) hx hb d_Row_push_19 (by decide) ?_
    exact j_iret F hr hlocks hK hS S ⟨⟨i_vst, i_vc0, i_vc1, i_vc2, i_vc3, i_vv0, i_vv1, i_vv2, i_vv3, i_vg, i_wct, i_wln, i_sd0, i_sd1, i_sd2, i_sd3, i_rln, i_rtx, i_rpl, i_rtk, i_cnv, i_pts, i_cik, i_und⟩, (kcL_r S), (kcP_r S), (kcU_r S), (kcW_r S)⟩ hP hD d_Row_push_20
  · have fc4_1 : 0 ≤ (f_xst_z S).toInt := Int.not_lt.mp (zt_nlt (show (f_xst_z S).toInt = _ from rfl) tI_0 c4_1)
    refine lv_aload_n hx hb d_Row_push_7 rfl (lv_at hl 0 rfl) ?_
    refine va_get (D := D) (ci := 0) (v := .int (f_xst_z S)) (C := "PageScribe$Stack") (T := F_Stack) (N := 4) hx hb hts i_Stack hown hK hP 1 (ce_1 _ _ _) cl_0 3 (by decide) (hts _ k_1_49) (fun _ h9 => h9) rfl d_Row_push_8 ?_
    refine lv_aload_n hx hb d_Row_push_11 rfl (lv_at hl 0 rfl) ?_
    refine va_get (D := D) (ci := 0) (v := .ref (ad 2)) (C := "PageScribe$Stack") (T := F_Stack) (N := 4) hx hb hts i_Stack hown hK hP 1 (ce_1 _ _ _) cl_0 0 (by decide) (hts _ k_1_46) (fun _ h9 => h9) rfl d_Row_push_12 ?_
    refine va_alen (v := 40) hx hb hK hP 2 0 (ce_2 _ _ _) rfl (show Int32.ofNat 40 = 40 from by decide +kernel) d_Row_push_15 ?_
    refine lv_icmp_lt (tgt := 21) hx hb d_Row_push_16 (by decide) (fun c16_1 => ?_) (fun c16_1 => ?_)
    · have fc16_1 : (f_xst_z S).toInt < 40 := zt_lt (show (f_xst_z S).toInt = _ from rfl) tI_40 c16_1
      refine lv_aload_n hx hb d_Row_push_21 rfl (lv_at hl 0 rfl) ?_
      refine va_get (D := D) (ci := 0) (v := .ref (ad 2)) (C := "PageScribe$Stack") (T := F_Stack) (N := 4) hx hb hts i_Stack hown hK hP 1 (ce_1 _ _ _) cl_0 0 (by decide) (hts _ k_1_46) (fun _ h9 => h9) rfl d_Row_push_22 ?_
      refine lv_aload_n hx hb d_Row_push_25 rfl (lv_at hl 0 rfl) ?_
      refine va_get (D := D) (ci := 0) (v := .int (f_xst_z S)) (C := "PageScribe$Stack") (T := F_Stack) (N := 4) hx hb hts i_Stack hown hK hP 1 (ce_1 _ _ _) cl_0 3 (by decide) (hts _ k_1_49) (fun _ h9 => h9) rfl d_Row_push_26 ?_
      refine lv_iload_n hx hb d_Row_push_29 rfl (lv_at hl 1 rfl) ?_
      refine va_iast hx hb hK hP hD hS 2 0 (ce_2 _ _ _) rfl (zt_in (show (f_xst_z S).toInt = _ from rfl) (by omega) (by omega)) d_Row_push_30 (fun H locs hP hD hS => ?_)
      rw [cs_xst_k] at hP hD
      rw [zt_ix (show (f_xst_z S).toInt = _ from rfl)] at hP hD
      have hP : va_P D classes (cW T ad ((((upd (a_xst_k S) ((f_xst_z S).toInt.toNat) p0), (a_xst_n S), (a_xst_r S), (f_xst_z S), (a_xw_letters S), (a_xw_lengths S), (f_xw_count S)), S.2.1, S.2.2.1, S.2.2.2.1, S.2.2.2.2.1, S.2.2.2.2.2.1, S.2.2.2.2.2.2.1, S.2.2.2.2.2.2.2.1, S.2.2.2.2.2.2.2.2) : CS)) H := hP
      have hD : va_D A (cW T ad ((((upd (a_xst_k S) ((f_xst_z S).toInt.toNat) p0), (a_xst_n S), (a_xst_r S), (f_xst_z S), (a_xw_letters S), (a_xw_lengths S), (f_xw_count S)), S.2.1, S.2.2.1, S.2.2.2.1, S.2.2.2.2.1, S.2.2.2.2.2.1, S.2.2.2.2.2.2.1, S.2.2.2.2.2.2.2.1, S.2.2.2.2.2.2.2.2) : CS)) := hD
      refine lv_aload_n hx hb d_Row_push_31 rfl (lv_at hl 0 rfl) ?_
      refine va_get (D := D) (ci := 0) (v := .ref (ad 3)) (C := "PageScribe$Stack") (T := F_Stack) (N := 4) hx hb hts i_Stack hown hK hP 1 (ce_1 _ _ _) cl_0 1 (by decide) (hts _ k_1_47) (fun _ h9 => h9) rfl d_Row_push_32 ?_
      refine lv_aload_n hx hb d_Row_push_35 rfl (lv_at hl 0 rfl) ?_
      refine va_get (D := D) (ci := 0) (v := .int (f_xst_z S)) (C := "PageScribe$Stack") (T := F_Stack) (N := 4) hx hb hts i_Stack hown hK hP 1 (ce_1 _ _ _) cl_0 3 (by decide) (hts _ k_1_49) (fun _ h9 => h9) rfl d_Row_push_36 ?_
      refine lv_iload_n hx hb d_Row_push_39 rfl (lv_at hl 2 rfl) ?_
      refine va_iast hx hb hK hP hD hS 3 0 (ce_3 _ _ _) rfl (zt_in (show (f_xst_z S).toInt = _ from rfl) (by omega) (by omega)) d_Row_push_40 (fun H locs hP hD hS => ?_)
      rw [cs_xst_n] at hP hD
      rw [zt_ix (show (f_xst_z S).toInt = _ from rfl)] at hP hD
      have hP : va_P D classes (cW T ad ((((upd (a_xst_k S) ((f_xst_z S).toInt.toNat) p0), (upd (a_xst_n S) ((f_xst_z S).toInt.toNat) p1), (a_xst_r S), (f_xst_z S), (a_xw_letters S), (a_xw_lengths S), (f_xw_count S)), S.2.1, S.2.2.1, S.2.2.2.1, S.2.2.2.2.1, S.2.2.2.2.2.1, S.2.2.2.2.2.2.1, S.2.2.2.2.2.2.2.1, S.2.2.2.2.2.2.2.2) : CS)) H := hP
      have hD : va_D A (cW T ad ((((upd (a_xst_k S) ((f_xst_z S).toInt.toNat) p0), (upd (a_xst_n S) ((f_xst_z S).toInt.toNat) p1), (a_xst_r S), (f_xst_z S), (a_xw_letters S), (a_xw_lengths S), (f_xw_count S)), S.2.1, S.2.2.1, S.2.2.2.1, S.2.2.2.2.1, S.2.2.2.2.2.1, S.2.2.2.2.2.2.1, S.2.2.2.2.2.2.2.1, S.2.2.2.2.2.2.2.2) : CS)) := hD
      refine lv_aload_n hx hb d_Row_push_41 rfl (lv_at hl 0 rfl) ?_
      refine va_get (D := D) (ci := 0) (v := .ref (ad 4)) (C := "PageScribe$Stack") (T := F_Stack) (N := 4) hx hb hts i_Stack hown hK hP 1 (ce_1 _ _ _) cl_0 2 (by decide) (hts _ k_1_48) (fun _ h9 => h9) rfl d_Row_push_42 ?_
      refine lv_aload_n hx hb d_Row_push_45 rfl (lv_at hl 0 rfl) ?_
      refine va_get (D := D) (ci := 0) (v := .int (f_xst_z S)) (C := "PageScribe$Stack") (T := F_Stack) (N := 4) hx hb hts i_Stack hown hK hP 1 (ce_1 _ _ _) cl_0 3 (by decide) (hts _ k_1_49) (fun _ h9 => h9) rfl d_Row_push_46 ?_
      refine lv_dload_n hx hb d_Row_push_49 rfl (lv_at hl 3 rfl) ?_
      refine va_dast hx hb hK hP hD hS 4 3 (ce_4 _ _ _) rfl (zt_in (show (f_xst_z S).toInt = _ from rfl) (by omega) (by omega)) d_Row_push_50 (fun H locs hP hD hS => ?_)
      rw [cs_xst_r] at hP hD
      rw [zt_ix (show (f_xst_z S).toInt = _ from rfl)] at hP hD
      have hP : va_P D classes (cW T ad ((((upd (a_xst_k S) ((f_xst_z S).toInt.toNat) p0), (upd (a_xst_n S) ((f_xst_z S).toInt.toNat) p1), (vf_upd (a_xst_r S) ((f_xst_z S).toInt.toNat) d0), (f_xst_z S), (a_xw_letters S), (a_xw_lengths S), (f_xw_count S)), S.2.1, S.2.2.1, S.2.2.2.1, S.2.2.2.2.1, S.2.2.2.2.2.1, S.2.2.2.2.2.2.1, S.2.2.2.2.2.2.2.1, S.2.2.2.2.2.2.2.2) : CS)) H := hP
      have hD : va_D A (cW T ad ((((upd (a_xst_k S) ((f_xst_z S).toInt.toNat) p0), (upd (a_xst_n S) ((f_xst_z S).toInt.toNat) p1), (vf_upd (a_xst_r S) ((f_xst_z S).toInt.toNat) d0), (f_xst_z S), (a_xw_letters S), (a_xw_lengths S), (f_xw_count S)), S.2.1, S.2.2.1, S.2.2.2.1, S.2.2.2.2.1, S.2.2.2.2.2.1, S.2.2.2.2.2.2.1, S.2.2.2.2.2.2.2.1, S.2.2.2.2.2.2.2.2) : CS)) := hD
      have i_vst : ∀ k, k < 40 → dB ((vf_upd (a_xst_r S) ((f_xst_z S).toInt.toNat) d0) k) := dB_up i_vst (by omega)
      refine lv_aload_n hx hb d_Row_push_51 rfl (lv_at hl 0 rfl) ?_
      refine lv_dup hx hb d_Row_push_52 rfl ?_
      refine va_get (D := D) (ci := 0) (v := .int (f_xst_z S)) (C := "PageScribe$Stack") (T := F_Stack) (N := 4) hx hb hts i_Stack hown hK hP 1 (ce_1 _ _ _) cl_0 3 (by decide) (hts _ k_1_49) (fun _ h9 => h9) rfl d_Row_push_53 ?_
      refine lv_iconst (v := 1) hx hb d_Row_push_56 (by decide) ?_
      refine lv_iadd hx hb d_Row_push_57 ?_
      refine lv_topi (fun x1 ex1 => ?_)
      have rx1 := zt_rng x1
      refine va_put (D := D) (ci := 0) (v := .int x1) (ty := .int) (C := "PageScribe$Stack") (T := F_Stack) (N := 4) hx hb hts i_Stack t_Stack t_Stack_ok n_Stack hown hK hP hD hS 1 (ce_1 _ _ _) cl_0 3 (by decide) (hts _ k_1_49) (fun _ h9 => h9) rfl (by decide +kernel) rfl rfl (Nat.le_of_ble_eq_true rfl) d_Row_push_58 (fun H locs hP hD hS => ?_)
      rw [cp_xst_z] at hP hD
      have hP : va_P D classes (cW T ad ((((upd (a_xst_k S) ((f_xst_z S).toInt.toNat) p0), (upd (a_xst_n S) ((f_xst_z S).toInt.toNat) p1), (vf_upd (a_xst_r S) ((f_xst_z S).toInt.toNat) d0), x1, (a_xw_letters S), (a_xw_lengths S), (f_xw_count S)), S.2.1, S.2.2.1, S.2.2.2.1, S.2.2.2.2.1, S.2.2.2.2.2.1, S.2.2.2.2.2.2.1, S.2.2.2.2.2.2.2.1, S.2.2.2.2.2.2.2.2) : CS)) H := hP
      have hD : va_D A (cW T ad ((((upd (a_xst_k S) ((f_xst_z S).toInt.toNat) p0), (upd (a_xst_n S) ((f_xst_z S).toInt.toNat) p1), (vf_upd (a_xst_r S) ((f_xst_z S).toInt.toNat) d0), x1, (a_xw_letters S), (a_xw_lengths S), (f_xw_count S)), S.2.1, S.2.2.1, S.2.2.2.1, S.2.2.2.2.1, S.2.2.2.2.2.1, S.2.2.2.2.2.2.1, S.2.2.2.2.2.2.2.1, S.2.2.2.2.2.2.2.2) : CS)) := hD
      refine lv_iconst (v := 0) hx hb d_Row_push_61 (by decide) ?_
      exact j_iret F hr hlocks hK hS ((((upd (a_xst_k S) ((f_xst_z S).toInt.toNat) p0), (upd (a_xst_n S) ((f_xst_z S).toInt.toNat) p1), (vf_upd (a_xst_r S) ((f_xst_z S).toInt.toNat) d0), x1, (a_xw_letters S), (a_xw_lengths S), (f_xw_count S)), S.2.1, S.2.2.1, S.2.2.2.1, S.2.2.2.2.1, S.2.2.2.2.2.1, S.2.2.2.2.2.2.1, S.2.2.2.2.2.2.2.1, S.2.2.2.2.2.2.2.2) : CS) ⟨⟨i_vst, i_vc0, i_vc1, i_vc2, i_vc3, i_vv0, i_vv1, i_vv2, i_vv3, i_vg, i_wct, i_wln, i_sd0, i_sd1, i_sd2, i_sd3, i_rln, i_rtx, i_rpl, i_rtk, i_cnv, i_pts, i_cik, i_und⟩, (kcL_r S), (kcP_r S), (kcU_r S), (kcW_r S)⟩ hP hD d_Row_push_62
    · have fc16_1 : 40 ≤ (f_xst_z S).toInt := Int.not_lt.mp (zt_nlt (show (f_xst_z S).toInt = _ from rfl) tI_40 c16_1)
      refine lv_iconst (v := 2) hx hb d_Row_push_19 (by decide) ?_
      exact j_iret F hr hlocks hK hS S ⟨⟨i_vst, i_vc0, i_vc1, i_vc2, i_vc3, i_vv0, i_vv1, i_vv2, i_vv3, i_vg, i_wct, i_wln, i_sd0, i_sd1, i_sd2, i_sd3, i_rln, i_rtx, i_rpl, i_rtk, i_cnv, i_pts, i_cik, i_und⟩, (kcL_r S), (kcP_r S), (kcU_r S), (kcW_r S)⟩ hP hD d_Row_push_20
set_option maxHeartbeats 4000000 in
set_option maxRecDepth 100000 in
theorem c_Row_push_13 (l : Launch) (D : va_G) (T : Nat → ClassId) (ad : Nat → Nat) (S : CS) (p0 : Int32) (p1 : Int32) (d0 : UInt64) (sz : Nat)  (hI : CIv S) (h1 : dB d0) : Met l ⟨"PageScribe$Row", "push", "(IID)I"⟩ (wy ⟨"PageScribe$Row", "push", "(IID)I"⟩ prog_8_method_6_code 5 (some .int)) ({ frames := 0, cells := 0, slots := 0, locals := 0 }) (va_Pc [.ref (ad 13), .int p0, .int p1, .double d0] (Pw D T (cW T ad S) sz E0)) (va_Qi (fun (r : Int32) (u : CS) => CIv u ∧ kcL S u ∧ kcP S u ∧ kcU S u ∧ kcW S u) (fun u t => Bw D T (va_A (cW T ad S) sz) (cW T ad u) t) (va_A (cW T ad S) sz)) 0 0 (va_A (cW T ad S) sz) := by
  refine j_met (y := ⟨"PageScribe$Row", "push", "(IID)I"⟩) (b := prog_8_method_6_code) (n := 5) (ret := (some .int)) (av := [.ref (ad 13), .int p0, .int p1, .double d0]) (Qc := fun A => va_Qi (fun (r : Int32) (u : CS) => CIv u ∧ kcL S u ∧ kcP S u ∧ kcU S u ∧ kcW S u) (fun u t => Bw D T A (cW T ad u) t) A) (by decide +kernel) (Nat.le_of_ble_eq_true rfl) (fun p e s m args below meth c A ls F hr hlocks hnm hK hP hD hS hA hN hE hl => ?_)
  obtain ⟨hx, hb, hml, hown, hts⟩ := id F
  have hl : lv_has ls 5 [(0, .ref (ad 13)), (1, .int p0), (2, .int p1), (3, .double d0)] := hl
  obtain ⟨i_vst, i_vc0, i_vc1, i_vc2, i_vc3, i_vv0, i_vv1, i_vv2, i_vv3, i_vg, i_wct, i_wln, i_sd0, i_sd1, i_sd2, i_sd3, i_rln, i_rtx, i_rpl, i_rtk, i_cnv, i_pts, i_cik, i_und⟩ := id hI
  have rp0 := zt_rng p0
  have rp1 := zt_rng p1
  refine lv_aload_n hx hb d_Row_push_0 rfl (lv_at hl 0 rfl) ?_
  refine va_get (D := D) (ci := 4) (v := .int (f_xc0_z S)) (C := "PageScribe$Row") (T := F_Row) (N := 4) hx hb hts i_Row hown hK hP 13 (ce_13 _ _ _) cl_4 3 (by decide) (hts _ k_1_49) (fun _ h9 => h9) rfl d_Row_push_1 ?_
  refine lv_if_lt (tgt := 19) hx hb d_Row_push_4 (by decide) (fun c4_1 => ?_) (fun c4_1 => ?_)
  · have fc4_1 : (f_xc0_z S).toInt < 0 := zt_lt (show (f_xc0_z S).toInt = _ from rfl) tI_0 c4_1
    refine lv_iconst (v := 2) hx hb d_Row_push_19 (by decide) ?_
    exact j_iret F hr hlocks hK hS S ⟨⟨i_vst, i_vc0, i_vc1, i_vc2, i_vc3, i_vv0, i_vv1, i_vv2, i_vv3, i_vg, i_wct, i_wln, i_sd0, i_sd1, i_sd2, i_sd3, i_rln, i_rtx, i_rpl, i_rtk, i_cnv, i_pts, i_cik, i_und⟩, (kcL_r S), (kcP_r S), (kcU_r S), (kcW_r S)⟩ hP hD d_Row_push_20
  · have fc4_1 : 0 ≤ (f_xc0_z S).toInt := Int.not_lt.mp (zt_nlt (show (f_xc0_z S).toInt = _ from rfl) tI_0 c4_1)
    refine lv_aload_n hx hb d_Row_push_7 rfl (lv_at hl 0 rfl) ?_
    refine va_get (D := D) (ci := 4) (v := .int (f_xc0_z S)) (C := "PageScribe$Row") (T := F_Row) (N := 4) hx hb hts i_Row hown hK hP 13 (ce_13 _ _ _) cl_4 3 (by decide) (hts _ k_1_49) (fun _ h9 => h9) rfl d_Row_push_8 ?_
    refine lv_aload_n hx hb d_Row_push_11 rfl (lv_at hl 0 rfl) ?_
    refine va_get (D := D) (ci := 4) (v := .ref (ad 14)) (C := "PageScribe$Row") (T := F_Row) (N := 4) hx hb hts i_Row hown hK hP 13 (ce_13 _ _ _) cl_4 0 (by decide) (hts _ k_1_46) (fun _ h9 => h9) rfl d_Row_push_12 ?_
    refine va_alen (v := 160) hx hb hK hP 14 0 (ce_14 _ _ _) rfl (show Int32.ofNat 160 = 160 from by decide +kernel) d_Row_push_15 ?_
    refine lv_icmp_lt (tgt := 21) hx hb d_Row_push_16 (by decide) (fun c16_1 => ?_) (fun c16_1 => ?_)
    · have fc16_1 : (f_xc0_z S).toInt < 160 := zt_lt (show (f_xc0_z S).toInt = _ from rfl) tI_160 c16_1
      refine lv_aload_n hx hb d_Row_push_21 rfl (lv_at hl 0 rfl) ?_
      refine va_get (D := D) (ci := 4) (v := .ref (ad 14)) (C := "PageScribe$Row") (T := F_Row) (N := 4) hx hb hts i_Row hown hK hP 13 (ce_13 _ _ _) cl_4 0 (by decide) (hts _ k_1_46) (fun _ h9 => h9) rfl d_Row_push_22 ?_
      refine lv_aload_n hx hb d_Row_push_25 rfl (lv_at hl 0 rfl) ?_
      refine va_get (D := D) (ci := 4) (v := .int (f_xc0_z S)) (C := "PageScribe$Row") (T := F_Row) (N := 4) hx hb hts i_Row hown hK hP 13 (ce_13 _ _ _) cl_4 3 (by decide) (hts _ k_1_49) (fun _ h9 => h9) rfl d_Row_push_26 ?_
      refine lv_iload_n hx hb d_Row_push_29 rfl (lv_at hl 1 rfl) ?_
      refine va_iast hx hb hK hP hD hS 14 0 (ce_14 _ _ _) rfl (zt_in (show (f_xc0_z S).toInt = _ from rfl) (by omega) (by omega)) d_Row_push_30 (fun H locs hP hD hS => ?_)
      rw [cs_xc0_k] at hP hD
      rw [zt_ix (show (f_xc0_z S).toInt = _ from rfl)] at hP hD
      have hP : va_P D classes (cW T ad ((S.1, S.2.1, ((upd (a_xc0_k S) ((f_xc0_z S).toInt.toNat) p0), (a_xc0_n S), (a_xc0_r S), (f_xc0_z S), (a_xd0_rooms S), (a_xd0_counts S), (a_xd0_names S), (a_xv0_k S), (a_xv0_n S), (a_xv0_r S), (f_xv0_z S)), S.2.2.2.1, S.2.2.2.2.1, S.2.2.2.2.2.1, S.2.2.2.2.2.2.1, S.2.2.2.2.2.2.2.1, S.2.2.2.2.2.2.2.2) : CS)) H := hP
      have hD : va_D A (cW T ad ((S.1, S.2.1, ((upd (a_xc0_k S) ((f_xc0_z S).toInt.toNat) p0), (a_xc0_n S), (a_xc0_r S), (f_xc0_z S), (a_xd0_rooms S), (a_xd0_counts S), (a_xd0_names S), (a_xv0_k S), (a_xv0_n S), (a_xv0_r S), (f_xv0_z S)), S.2.2.2.1, S.2.2.2.2.1, S.2.2.2.2.2.1, S.2.2.2.2.2.2.1, S.2.2.2.2.2.2.2.1, S.2.2.2.2.2.2.2.2) : CS)) := hD
      refine lv_aload_n hx hb d_Row_push_31 rfl (lv_at hl 0 rfl) ?_
      refine va_get (D := D) (ci := 4) (v := .ref (ad 15)) (C := "PageScribe$Row") (T := F_Row) (N := 4) hx hb hts i_Row hown hK hP 13 (ce_13 _ _ _) cl_4 1 (by decide) (hts _ k_1_47) (fun _ h9 => h9) rfl d_Row_push_32 ?_
      refine lv_aload_n hx hb d_Row_push_35 rfl (lv_at hl 0 rfl) ?_
      refine va_get (D := D) (ci := 4) (v := .int (f_xc0_z S)) (C := "PageScribe$Row") (T := F_Row) (N := 4) hx hb hts i_Row hown hK hP 13 (ce_13 _ _ _) cl_4 3 (by decide) (hts _ k_1_49) (fun _ h9 => h9) rfl d_Row_push_36 ?_
      refine lv_iload_n hx hb d_Row_push_39 rfl (lv_at hl 2 rfl) ?_
      refine va_iast hx hb hK hP hD hS 15 0 (ce_15 _ _ _) rfl (zt_in (show (f_xc0_z S).toInt = _ from rfl) (by omega) (by omega)) d_Row_push_40 (fun H locs hP hD hS => ?_)
      rw [cs_xc0_n] at hP hD
      rw [zt_ix (show (f_xc0_z S).toInt = _ from rfl)] at hP hD
      have hP : va_P D classes (cW T ad ((S.1, S.2.1, ((upd (a_xc0_k S) ((f_xc0_z S).toInt.toNat) p0), (upd (a_xc0_n S) ((f_xc0_z S).toInt.toNat) p1), (a_xc0_r S), (f_xc0_z S), (a_xd0_rooms S), (a_xd0_counts S), (a_xd0_names S), (a_xv0_k S), (a_xv0_n S), (a_xv0_r S), (f_xv0_z S)), S.2.2.2.1, S.2.2.2.2.1, S.2.2.2.2.2.1, S.2.2.2.2.2.2.1, S.2.2.2.2.2.2.2.1, S.2.2.2.2.2.2.2.2) : CS)) H := hP
      have hD : va_D A (cW T ad ((S.1, S.2.1, ((upd (a_xc0_k S) ((f_xc0_z S).toInt.toNat) p0), (upd (a_xc0_n S) ((f_xc0_z S).toInt.toNat) p1), (a_xc0_r S), (f_xc0_z S), (a_xd0_rooms S), (a_xd0_counts S), (a_xd0_names S), (a_xv0_k S), (a_xv0_n S), (a_xv0_r S), (f_xv0_z S)), S.2.2.2.1, S.2.2.2.2.1, S.2.2.2.2.2.1, S.2.2.2.2.2.2.1, S.2.2.2.2.2.2.2.1, S.2.2.2.2.2.2.2.2) : CS)) := hD
      refine lv_aload_n hx hb d_Row_push_41 rfl (lv_at hl 0 rfl) ?_
      refine va_get (D := D) (ci := 4) (v := .ref (ad 16)) (C := "PageScribe$Row") (T := F_Row) (N := 4) hx hb hts i_Row hown hK hP 13 (ce_13 _ _ _) cl_4 2 (by decide) (hts _ k_1_48) (fun _ h9 => h9) rfl d_Row_push_42 ?_
      refine lv_aload_n hx hb d_Row_push_45 rfl (lv_at hl 0 rfl) ?_
      refine va_get (D := D) (ci := 4) (v := .int (f_xc0_z S)) (C := "PageScribe$Row") (T := F_Row) (N := 4) hx hb hts i_Row hown hK hP 13 (ce_13 _ _ _) cl_4 3 (by decide) (hts _ k_1_49) (fun _ h9 => h9) rfl d_Row_push_46 ?_
      refine lv_dload_n hx hb d_Row_push_49 rfl (lv_at hl 3 rfl) ?_
      refine va_dast hx hb hK hP hD hS 16 3 (ce_16 _ _ _) rfl (zt_in (show (f_xc0_z S).toInt = _ from rfl) (by omega) (by omega)) d_Row_push_50 (fun H locs hP hD hS => ?_)
      rw [cs_xc0_r] at hP hD
      rw [zt_ix (show (f_xc0_z S).toInt = _ from rfl)] at hP hD
      have hP : va_P D classes (cW T ad ((S.1, S.2.1, ((upd (a_xc0_k S) ((f_xc0_z S).toInt.toNat) p0), (upd (a_xc0_n S) ((f_xc0_z S).toInt.toNat) p1), (vf_upd (a_xc0_r S) ((f_xc0_z S).toInt.toNat) d0), (f_xc0_z S), (a_xd0_rooms S), (a_xd0_counts S), (a_xd0_names S), (a_xv0_k S), (a_xv0_n S), (a_xv0_r S), (f_xv0_z S)), S.2.2.2.1, S.2.2.2.2.1, S.2.2.2.2.2.1, S.2.2.2.2.2.2.1, S.2.2.2.2.2.2.2.1, S.2.2.2.2.2.2.2.2) : CS)) H := hP
      have hD : va_D A (cW T ad ((S.1, S.2.1, ((upd (a_xc0_k S) ((f_xc0_z S).toInt.toNat) p0), (upd (a_xc0_n S) ((f_xc0_z S).toInt.toNat) p1), (vf_upd (a_xc0_r S) ((f_xc0_z S).toInt.toNat) d0), (f_xc0_z S), (a_xd0_rooms S), (a_xd0_counts S), (a_xd0_names S), (a_xv0_k S), (a_xv0_n S), (a_xv0_r S), (f_xv0_z S)), S.2.2.2.1, S.2.2.2.2.1, S.2.2.2.2.2.1, S.2.2.2.2.2.2.1, S.2.2.2.2.2.2.2.1, S.2.2.2.2.2.2.2.2) : CS)) := hD
      have i_vc0 : ∀ k, k < 160 → dB ((vf_upd (a_xc0_r S) ((f_xc0_z S).toInt.toNat) d0) k) := dB_up i_vc0 (by omega)
      refine lv_aload_n hx hb d_Row_push_51 rfl (lv_at hl 0 rfl) ?_
      refine lv_dup hx hb d_Row_push_52 rfl ?_
      refine va_get (D := D) (ci := 4) (v := .int (f_xc0_z S)) (C := "PageScribe$Row") (T := F_Row) (N := 4) hx hb hts i_Row hown hK hP 13 (ce_13 _ _ _) cl_4 3 (by decide) (hts _ k_1_49) (fun _ h9 => h9) rfl d_Row_push_53 ?_
      refine lv_iconst (v := 1) hx hb d_Row_push_56 (by decide) ?_
      refine lv_iadd hx hb d_Row_push_57 ?_
      refine lv_topi (fun x1 ex1 => ?_)
      have rx1 := zt_rng x1
      refine va_put (D := D) (ci := 4) (v := .int x1) (ty := .int) (C := "PageScribe$Row") (T := F_Row) (N := 4) hx hb hts i_Row t_Row t_Row_ok n_Row hown hK hP hD hS 13 (ce_13 _ _ _) cl_4 3 (by decide) (hts _ k_1_49) (fun _ h9 => h9) rfl (by decide +kernel) rfl rfl (Nat.le_of_ble_eq_true rfl) d_Row_push_58 (fun H locs hP hD hS => ?_)
      rw [cp_xc0_z] at hP hD
      have hP : va_P D classes (cW T ad ((S.1, S.2.1, ((upd (a_xc0_k S) ((f_xc0_z S).toInt.toNat) p0), (upd (a_xc0_n S) ((f_xc0_z S).toInt.toNat) p1), (vf_upd (a_xc0_r S) ((f_xc0_z S).toInt.toNat) d0), x1, (a_xd0_rooms S), (a_xd0_counts S), (a_xd0_names S), (a_xv0_k S), (a_xv0_n S), (a_xv0_r S), (f_xv0_z S)), S.2.2.2.1, S.2.2.2.2.1, S.2.2.2.2.2.1, S.2.2.2.2.2.2.1, S.2.2.2.2.2.2.2.1, S.2.2.2.2.2.2.2.2) : CS)) H := hP
      have hD : va_D A (cW T ad ((S.1, S.2.1, ((upd (a_xc0_k S) ((f_xc0_z S).toInt.toNat) p0), (upd (a_xc0_n S) ((f_xc0_z S).toInt.toNat) p1), (vf_upd (a_xc0_r S) ((f_xc0_z S).toInt.toNat) d0), x1, (a_xd0_rooms S), (a_xd0_counts S), (a_xd0_names S), (a_xv0_k S), (a_xv0_n S), (a_xv0_r S), (f_xv0_z S)), S.2.2.2.1, S.2.2.2.2.1, S.2.2.2.2.2.1, S.2.2.2.2.2.2.1, S.2.2.2.2.2.2.2.1, S.2.2.2.2.2.2.2.2) : CS)) := hD
      refine lv_iconst (v := 0) hx hb d_Row_push_61 (by decide) ?_
      exact j_iret F hr hlocks hK hS ((S.1, S.2.1, ((upd (a_xc0_k S) ((f_xc0_z S).toInt.toNat) p0), (upd (a_xc0_n S) ((f_xc0_z S).toInt.toNat) p1), (vf_upd (a_xc0_r S) ((f_xc0_z S).toInt.toNat) d0), x1, (a_xd0_rooms S), (a_xd0_counts S), (a_xd0_names S), (a_xv0_k S), (a_xv0_n S), (a_xv0_r S), (f_xv0_z S)), S.2.2.2.1, S.2.2.2.2.1, S.2.2.2.2.2.1, S.2.2.2.2.2.2.1, S.2.2.2.2.2.2.2.1, S.2.2.2.2.2.2.2.2) : CS) ⟨⟨i_vst, i_vc0, i_vc1, i_vc2, i_vc3, i_vv0, i_vv1, i_vv2, i_vv3, i_vg, i_wct, i_wln, i_sd0, i_sd1, i_sd2, i_sd3, i_rln, i_rtx, i_rpl, i_rtk, i_cnv, i_pts, i_cik, i_und⟩, (kcL_r S), (kcP_r S), (kcU_r S), (kcW_r S)⟩ hP hD d_Row_push_62
    · have fc16_1 : 160 ≤ (f_xc0_z S).toInt := Int.not_lt.mp (zt_nlt (show (f_xc0_z S).toInt = _ from rfl) tI_160 c16_1)
      refine lv_iconst (v := 2) hx hb d_Row_push_19 (by decide) ?_
      exact j_iret F hr hlocks hK hS S ⟨⟨i_vst, i_vc0, i_vc1, i_vc2, i_vc3, i_vv0, i_vv1, i_vv2, i_vv3, i_vg, i_wct, i_wln, i_sd0, i_sd1, i_sd2, i_sd3, i_rln, i_rtx, i_rpl, i_rtk, i_cnv, i_pts, i_cik, i_und⟩, (kcL_r S), (kcP_r S), (kcU_r S), (kcW_r S)⟩ hP hD d_Row_push_20
set_option maxHeartbeats 4000000 in
set_option maxRecDepth 100000 in
theorem c_Row_push_62 (l : Launch) (D : va_G) (T : Nat → ClassId) (ad : Nat → Nat) (S : CS) (p0 : Int32) (p1 : Int32) (d0 : UInt64) (sz : Nat)  (hI : CIv S) (h1 : dB d0) : Met l ⟨"PageScribe$Row", "push", "(IID)I"⟩ (wy ⟨"PageScribe$Row", "push", "(IID)I"⟩ prog_8_method_6_code 5 (some .int)) ({ frames := 0, cells := 0, slots := 0, locals := 0 }) (va_Pc [.ref (ad 62), .int p0, .int p1, .double d0] (Pw D T (cW T ad S) sz E0)) (va_Qi (fun (r : Int32) (u : CS) => CIv u ∧ kcL S u ∧ kcP S u ∧ kcU S u ∧ kcW S u) (fun u t => Bw D T (va_A (cW T ad S) sz) (cW T ad u) t) (va_A (cW T ad S) sz)) 0 0 (va_A (cW T ad S) sz) := by
  refine j_met (y := ⟨"PageScribe$Row", "push", "(IID)I"⟩) (b := prog_8_method_6_code) (n := 5) (ret := (some .int)) (av := [.ref (ad 62), .int p0, .int p1, .double d0]) (Qc := fun A => va_Qi (fun (r : Int32) (u : CS) => CIv u ∧ kcL S u ∧ kcP S u ∧ kcU S u ∧ kcW S u) (fun u t => Bw D T A (cW T ad u) t) A) (by decide +kernel) (Nat.le_of_ble_eq_true rfl) (fun p e s m args below meth c A ls F hr hlocks hnm hK hP hD hS hA hN hE hl => ?_)
  obtain ⟨hx, hb, hml, hown, hts⟩ := id F
  have hl : lv_has ls 5 [(0, .ref (ad 62)), (1, .int p0), (2, .int p1), (3, .double d0)] := hl
  obtain ⟨i_vst, i_vc0, i_vc1, i_vc2, i_vc3, i_vv0, i_vv1, i_vv2, i_vv3, i_vg, i_wct, i_wln, i_sd0, i_sd1, i_sd2, i_sd3, i_rln, i_rtx, i_rpl, i_rtk, i_cnv, i_pts, i_cik, i_und⟩ := id hI
  have rp0 := zt_rng p0
  have rp1 := zt_rng p1
  refine lv_aload_n hx hb d_Row_push_0 rfl (lv_at hl 0 rfl) ?_
  refine va_get (D := D) (ci := 4) (v := .int (f_xg_z S)) (C := "PageScribe$Row") (T := F_Row) (N := 4) hx hb hts i_Row hown hK hP 62 (ce_62 _ _ _) cl_4 3 (by decide) (hts _ k_1_49) (fun _ h9 => h9) rfl d_Row_push_1 ?_
  refine lv_if_lt (tgt := 19) hx hb d_Row_push_4 (by decide) (fun c4_1 => ?_) (fun c4_1 => ?_)
  · have fc4_1 : (f_xg_z S).toInt < 0 := zt_lt (show (f_xg_z S).toInt = _ from rfl) tI_0 c4_1
    refine lv_iconst (v := 2) hx hb d_Row_push_19 (by decide) ?_
    exact j_iret F hr hlocks hK hS S ⟨⟨i_vst, i_vc0, i_vc1, i_vc2, i_vc3, i_vv0, i_vv1, i_vv2, i_vv3, i_vg, i_wct, i_wln, i_sd0, i_sd1, i_sd2, i_sd3, i_rln, i_rtx, i_rpl, i_rtk, i_cnv, i_pts, i_cik, i_und⟩, (kcL_r S), (kcP_r S), (kcU_r S), (kcW_r S)⟩ hP hD d_Row_push_20
  · have fc4_1 : 0 ≤ (f_xg_z S).toInt := Int.not_lt.mp (zt_nlt (show (f_xg_z S).toInt = _ from rfl) tI_0 c4_1)
    refine lv_aload_n hx hb d_Row_push_7 rfl (lv_at hl 0 rfl) ?_
    refine va_get (D := D) (ci := 4) (v := .int (f_xg_z S)) (C := "PageScribe$Row") (T := F_Row) (N := 4) hx hb hts i_Row hown hK hP 62 (ce_62 _ _ _) cl_4 3 (by decide) (hts _ k_1_49) (fun _ h9 => h9) rfl d_Row_push_8 ?_
    refine lv_aload_n hx hb d_Row_push_11 rfl (lv_at hl 0 rfl) ?_
    refine va_get (D := D) (ci := 4) (v := .ref (ad 63)) (C := "PageScribe$Row") (T := F_Row) (N := 4) hx hb hts i_Row hown hK hP 62 (ce_62 _ _ _) cl_4 0 (by decide) (hts _ k_1_46) (fun _ h9 => h9) rfl d_Row_push_12 ?_
    refine va_alen (v := 120) hx hb hK hP 63 0 (ce_63 _ _ _) rfl (show Int32.ofNat 120 = 120 from by decide +kernel) d_Row_push_15 ?_
    refine lv_icmp_lt (tgt := 21) hx hb d_Row_push_16 (by decide) (fun c16_1 => ?_) (fun c16_1 => ?_)
    · have fc16_1 : (f_xg_z S).toInt < 120 := zt_lt (show (f_xg_z S).toInt = _ from rfl) tI_120 c16_1
      refine lv_aload_n hx hb d_Row_push_21 rfl (lv_at hl 0 rfl) ?_
      refine va_get (D := D) (ci := 4) (v := .ref (ad 63)) (C := "PageScribe$Row") (T := F_Row) (N := 4) hx hb hts i_Row hown hK hP 62 (ce_62 _ _ _) cl_4 0 (by decide) (hts _ k_1_46) (fun _ h9 => h9) rfl d_Row_push_22 ?_
      refine lv_aload_n hx hb d_Row_push_25 rfl (lv_at hl 0 rfl) ?_
      refine va_get (D := D) (ci := 4) (v := .int (f_xg_z S)) (C := "PageScribe$Row") (T := F_Row) (N := 4) hx hb hts i_Row hown hK hP 62 (ce_62 _ _ _) cl_4 3 (by decide) (hts _ k_1_49) (fun _ h9 => h9) rfl d_Row_push_26 ?_
      refine lv_iload_n hx hb d_Row_push_29 rfl (lv_at hl 1 rfl) ?_
      refine va_iast hx hb hK hP hD hS 63 0 (ce_63 _ _ _) rfl (zt_in (show (f_xg_z S).toInt = _ from rfl) (by omega) (by omega)) d_Row_push_30 (fun H locs hP hD hS => ?_)
      rw [cs_xg_k] at hP hD
      rw [zt_ix (show (f_xg_z S).toInt = _ from rfl)] at hP hD
      have hP : va_P D classes (cW T ad ((S.1, S.2.1, S.2.2.1, S.2.2.2.1, S.2.2.2.2.1, S.2.2.2.2.2.1, ((a_xr_text S), (f_xr_length S), (f_xr_place S), (f_xr_tokenKind S), (f_xr_tokenNumber S), (f_xr_tokenReal S), (a_xr_begins S), (upd (a_xg_k S) ((f_xg_z S).toInt.toNat) p0), (a_xg_n S), (a_xg_r S), (f_xg_z S)), S.2.2.2.2.2.2.2.1, S.2.2.2.2.2.2.2.2) : CS)) H := hP
      have hD : va_D A (cW T ad ((S.1, S.2.1, S.2.2.1, S.2.2.2.1, S.2.2.2.2.1, S.2.2.2.2.2.1, ((a_xr_text S), (f_xr_length S), (f_xr_place S), (f_xr_tokenKind S), (f_xr_tokenNumber S), (f_xr_tokenReal S), (a_xr_begins S), (upd (a_xg_k S) ((f_xg_z S).toInt.toNat) p0), (a_xg_n S), (a_xg_r S), (f_xg_z S)), S.2.2.2.2.2.2.2.1, S.2.2.2.2.2.2.2.2) : CS)) := hD
      refine lv_aload_n hx hb d_Row_push_31 rfl (lv_at hl 0 rfl) ?_
      refine va_get (D := D) (ci := 4) (v := .ref (ad 64)) (C := "PageScribe$Row") (T := F_Row) (N := 4) hx hb hts i_Row hown hK hP 62 (ce_62 _ _ _) cl_4 1 (by decide) (hts _ k_1_47) (fun _ h9 => h9) rfl d_Row_push_32 ?_
      refine lv_aload_n hx hb d_Row_push_35 rfl (lv_at hl 0 rfl) ?_
      refine va_get (D := D) (ci := 4) (v := .int (f_xg_z S)) (C := "PageScribe$Row") (T := F_Row) (N := 4) hx hb hts i_Row hown hK hP 62 (ce_62 _ _ _) cl_4 3 (by decide) (hts _ k_1_49) (fun _ h9 => h9) rfl d_Row_push_36 ?_
      refine lv_iload_n hx hb d_Row_push_39 rfl (lv_at hl 2 rfl) ?_
      refine va_iast hx hb hK hP hD hS 64 0 (ce_64 _ _ _) rfl (zt_in (show (f_xg_z S).toInt = _ from rfl) (by omega) (by omega)) d_Row_push_40 (fun H locs hP hD hS => ?_)
      rw [cs_xg_n] at hP hD
      rw [zt_ix (show (f_xg_z S).toInt = _ from rfl)] at hP hD
      have hP : va_P D classes (cW T ad ((S.1, S.2.1, S.2.2.1, S.2.2.2.1, S.2.2.2.2.1, S.2.2.2.2.2.1, ((a_xr_text S), (f_xr_length S), (f_xr_place S), (f_xr_tokenKind S), (f_xr_tokenNumber S), (f_xr_tokenReal S), (a_xr_begins S), (upd (a_xg_k S) ((f_xg_z S).toInt.toNat) p0), (upd (a_xg_n S) ((f_xg_z S).toInt.toNat) p1), (a_xg_r S), (f_xg_z S)), S.2.2.2.2.2.2.2.1, S.2.2.2.2.2.2.2.2) : CS)) H := hP
      have hD : va_D A (cW T ad ((S.1, S.2.1, S.2.2.1, S.2.2.2.1, S.2.2.2.2.1, S.2.2.2.2.2.1, ((a_xr_text S), (f_xr_length S), (f_xr_place S), (f_xr_tokenKind S), (f_xr_tokenNumber S), (f_xr_tokenReal S), (a_xr_begins S), (upd (a_xg_k S) ((f_xg_z S).toInt.toNat) p0), (upd (a_xg_n S) ((f_xg_z S).toInt.toNat) p1), (a_xg_r S), (f_xg_z S)), S.2.2.2.2.2.2.2.1, S.2.2.2.2.2.2.2.2) : CS)) := hD
      refine lv_aload_n hx hb d_Row_push_41 rfl (lv_at hl 0 rfl) ?_
      refine va_get (D := D) (ci := 4) (v := .ref (ad 65)) (C := "PageScribe$Row") (T := F_Row) (N := 4) hx hb hts i_Row hown hK hP 62 (ce_62 _ _ _) cl_4 2 (by decide) (hts _ k_1_48) (fun _ h9 => h9) rfl d_Row_push_42 ?_
      refine lv_aload_n hx hb d_Row_push_45 rfl (lv_at hl 0 rfl) ?_
      refine va_get (D := D) (ci := 4) (v := .int (f_xg_z S)) (C := "PageScribe$Row") (T := F_Row) (N := 4) hx hb hts i_Row hown hK hP 62 (ce_62 _ _ _) cl_4 3 (by decide) (hts _ k_1_49) (fun _ h9 => h9) rfl d_Row_push_46 ?_
      refine lv_dload_n hx hb d_Row_push_49 rfl (lv_at hl 3 rfl) ?_
      refine va_dast hx hb hK hP hD hS 65 3 (ce_65 _ _ _) rfl (zt_in (show (f_xg_z S).toInt = _ from rfl) (by omega) (by omega)) d_Row_push_50 (fun H locs hP hD hS => ?_)
      rw [cs_xg_r] at hP hD
      rw [zt_ix (show (f_xg_z S).toInt = _ from rfl)] at hP hD
      have hP : va_P D classes (cW T ad ((S.1, S.2.1, S.2.2.1, S.2.2.2.1, S.2.2.2.2.1, S.2.2.2.2.2.1, ((a_xr_text S), (f_xr_length S), (f_xr_place S), (f_xr_tokenKind S), (f_xr_tokenNumber S), (f_xr_tokenReal S), (a_xr_begins S), (upd (a_xg_k S) ((f_xg_z S).toInt.toNat) p0), (upd (a_xg_n S) ((f_xg_z S).toInt.toNat) p1), (vf_upd (a_xg_r S) ((f_xg_z S).toInt.toNat) d0), (f_xg_z S)), S.2.2.2.2.2.2.2.1, S.2.2.2.2.2.2.2.2) : CS)) H := hP
      have hD : va_D A (cW T ad ((S.1, S.2.1, S.2.2.1, S.2.2.2.1, S.2.2.2.2.1, S.2.2.2.2.2.1, ((a_xr_text S), (f_xr_length S), (f_xr_place S), (f_xr_tokenKind S), (f_xr_tokenNumber S), (f_xr_tokenReal S), (a_xr_begins S), (upd (a_xg_k S) ((f_xg_z S).toInt.toNat) p0), (upd (a_xg_n S) ((f_xg_z S).toInt.toNat) p1), (vf_upd (a_xg_r S) ((f_xg_z S).toInt.toNat) d0), (f_xg_z S)), S.2.2.2.2.2.2.2.1, S.2.2.2.2.2.2.2.2) : CS)) := hD
      have i_vg : ∀ k, k < 120 → dB ((vf_upd (a_xg_r S) ((f_xg_z S).toInt.toNat) d0) k) := dB_up i_vg (by omega)
      refine lv_aload_n hx hb d_Row_push_51 rfl (lv_at hl 0 rfl) ?_
      refine lv_dup hx hb d_Row_push_52 rfl ?_
      refine va_get (D := D) (ci := 4) (v := .int (f_xg_z S)) (C := "PageScribe$Row") (T := F_Row) (N := 4) hx hb hts i_Row hown hK hP 62 (ce_62 _ _ _) cl_4 3 (by decide) (hts _ k_1_49) (fun _ h9 => h9) rfl d_Row_push_53 ?_
      refine lv_iconst (v := 1) hx hb d_Row_push_56 (by decide) ?_
      refine lv_iadd hx hb d_Row_push_57 ?_
      refine lv_topi (fun x1 ex1 => ?_)
      have rx1 := zt_rng x1
      refine va_put (D := D) (ci := 4) (v := .int x1) (ty := .int) (C := "PageScribe$Row") (T := F_Row) (N := 4) hx hb hts i_Row t_Row t_Row_ok n_Row hown hK hP hD hS 62 (ce_62 _ _ _) cl_4 3 (by decide) (hts _ k_1_49) (fun _ h9 => h9) rfl (by decide +kernel) rfl rfl (Nat.le_of_ble_eq_true rfl) d_Row_push_58 (fun H locs hP hD hS => ?_)
      rw [cp_xg_z] at hP hD
      have hP : va_P D classes (cW T ad ((S.1, S.2.1, S.2.2.1, S.2.2.2.1, S.2.2.2.2.1, S.2.2.2.2.2.1, ((a_xr_text S), (f_xr_length S), (f_xr_place S), (f_xr_tokenKind S), (f_xr_tokenNumber S), (f_xr_tokenReal S), (a_xr_begins S), (upd (a_xg_k S) ((f_xg_z S).toInt.toNat) p0), (upd (a_xg_n S) ((f_xg_z S).toInt.toNat) p1), (vf_upd (a_xg_r S) ((f_xg_z S).toInt.toNat) d0), x1), S.2.2.2.2.2.2.2.1, S.2.2.2.2.2.2.2.2) : CS)) H := hP
      have hD : va_D A (cW T ad ((S.1, S.2.1, S.2.2.1, S.2.2.2.1, S.2.2.2.2.1, S.2.2.2.2.2.1, ((a_xr_text S), (f_xr_length S), (f_xr_place S), (f_xr_tokenKind S), (f_xr_tokenNumber S), (f_xr_tokenReal S), (a_xr_begins S), (upd (a_xg_k S) ((f_xg_z S).toInt.toNat) p0), (upd (a_xg_n S) ((f_xg_z S).toInt.toNat) p1), (vf_upd (a_xg_r S) ((f_xg_z S).toInt.toNat) d0), x1), S.2.2.2.2.2.2.2.1, S.2.2.2.2.2.2.2.2) : CS)) := hD
      refine lv_iconst (v := 0) hx hb d_Row_push_61 (by decide) ?_
      exact j_iret F hr hlocks hK hS ((S.1, S.2.1, S.2.2.1, S.2.2.2.1, S.2.2.2.2.1, S.2.2.2.2.2.1, ((a_xr_text S), (f_xr_length S), (f_xr_place S), (f_xr_tokenKind S), (f_xr_tokenNumber S), (f_xr_tokenReal S), (a_xr_begins S), (upd (a_xg_k S) ((f_xg_z S).toInt.toNat) p0), (upd (a_xg_n S) ((f_xg_z S).toInt.toNat) p1), (vf_upd (a_xg_r S) ((f_xg_z S).toInt.toNat) d0), x1), S.2.2.2.2.2.2.2.1, S.2.2.2.2.2.2.2.2) : CS) ⟨⟨i_vst, i_vc0, i_vc1, i_vc2, i_vc3, i_vv0, i_vv1, i_vv2, i_vv3, i_vg, i_wct, i_wln, i_sd0, i_sd1, i_sd2, i_sd3, i_rln, i_rtx, i_rpl, i_rtk, i_cnv, i_pts, i_cik, i_und⟩, (kcL_r S), (kcP_r S), (kcU_r S), (kcW_r S)⟩ hP hD d_Row_push_62
    · have fc16_1 : 120 ≤ (f_xg_z S).toInt := Int.not_lt.mp (zt_nlt (show (f_xg_z S).toInt = _ from rfl) tI_120 c16_1)
      refine lv_iconst (v := 2) hx hb d_Row_push_19 (by decide) ?_
      exact j_iret F hr hlocks hK hS S ⟨⟨i_vst, i_vc0, i_vc1, i_vc2, i_vc3, i_vv0, i_vv1, i_vv2, i_vv3, i_vg, i_wct, i_wln, i_sd0, i_sd1, i_sd2, i_sd3, i_rln, i_rtx, i_rpl, i_rtk, i_cnv, i_pts, i_cik, i_und⟩, (kcL_r S), (kcP_r S), (kcU_r S), (kcW_r S)⟩ hP hD d_Row_push_20
theorem d_Row_pushFrom_0 : decode prog_8_method_7_code 0 = .ok (.aload_n 0, 1) := by decide +kernel
theorem d_Row_pushFrom_1 : decode prog_8_method_7_code 1 = .ok (.aload_n 1, 1) := by decide +kernel
theorem d_Row_pushFrom_2 : decode prog_8_method_7_code 2 = .ok (.iload_n 2, 1) := by decide +kernel
theorem d_Row_pushFrom_3 : decode prog_8_method_7_code 3 = .ok (.invokevirtual 26, 3) := by decide +kernel
theorem k_2_126 : Cond.code ⟨"PageScribe$Row", "kindAt", "(I)I"⟩ prog_8_method_2_code 2 (some .int) ∈ gw := gw_of (tb_2 (List.mem_of_getElem? (i := 126) (by decide +kernel))) (by decide +kernel)
theorem k_1_2 : Cond.initialized "PageScribe$Row" ∈ gw := gw_of (tb_1 (List.mem_of_getElem? (i := 2) (by decide +kernel))) (by decide +kernel)
theorem k_3_97 : Cond.methodLink "PageScribe$Row" 26 ⟨"PageScribe$Row", "kindAt", "(I)I"⟩ ∈ gw := gw_of (tb_3 (List.mem_of_getElem? (i := 97) (by decide +kernel))) (by decide +kernel)
theorem k_2_125 : Cond.instanceMethod ⟨"PageScribe$Row", "kindAt", "(I)I"⟩ ∈ gw := gw_of (tb_2 (List.mem_of_getElem? (i := 125) (by decide +kernel))) (by decide +kernel)
theorem k_8_174 : Cond.selects "PageScribe$Stack" ⟨"PageScribe$Row", "kindAt", "(I)I"⟩ ⟨"PageScribe$Row", "kindAt", "(I)I"⟩ ∈ gw := gw_of (tb_8 (List.mem_of_getElem? (i := 174) (by decide +kernel))) (by decide +kernel)
theorem d_Row_pushFrom_6 : decode prog_8_method_7_code 6 = .ok (.aload_n 1, 1) := by decide +kernel
theorem d_Row_pushFrom_7 : decode prog_8_method_7_code 7 = .ok (.iload_n 2, 1) := by decide +kernel
theorem d_Row_pushFrom_8 : decode prog_8_method_7_code 8 = .ok (.invokevirtual 30, 3) := by decide +kernel
theorem k_2_136 : Cond.code ⟨"PageScribe$Row", "numberAt", "(I)I"⟩ prog_8_method_3_code 2 (some .int) ∈ gw := gw_of (tb_2 (List.mem_of_getElem? (i := 136) (by decide +kernel))) (by decide +kernel)
theorem k_3_98 : Cond.methodLink "PageScribe$Row" 30 ⟨"PageScribe$Row", "numberAt", "(I)I"⟩ ∈ gw := gw_of (tb_3 (List.mem_of_getElem? (i := 98) (by decide +kernel))) (by decide +kernel)
theorem k_2_135 : Cond.instanceMethod ⟨"PageScribe$Row", "numberAt", "(I)I"⟩ ∈ gw := gw_of (tb_2 (List.mem_of_getElem? (i := 135) (by decide +kernel))) (by decide +kernel)
theorem k_8_177 : Cond.selects "PageScribe$Stack" ⟨"PageScribe$Row", "numberAt", "(I)I"⟩ ⟨"PageScribe$Row", "numberAt", "(I)I"⟩ ∈ gw := gw_of (tb_8 (List.mem_of_getElem? (i := 177) (by decide +kernel))) (by decide +kernel)
theorem d_Row_pushFrom_11 : decode prog_8_method_7_code 11 = .ok (.aload_n 1, 1) := by decide +kernel
theorem d_Row_pushFrom_12 : decode prog_8_method_7_code 12 = .ok (.iload_n 2, 1) := by decide +kernel
theorem d_Row_pushFrom_13 : decode prog_8_method_7_code 13 = .ok (.invokevirtual 33, 3) := by decide +kernel
theorem k_3_104 : Cond.code ⟨"PageScribe$Row", "realAt", "(I)D"⟩ prog_8_method_4_code 2 (some .double) ∈ gw := gw_of (tb_3 (List.mem_of_getElem? (i := 104) (by decide +kernel))) (by decide +kernel)
theorem k_3_99 : Cond.methodLink "PageScribe$Row" 33 ⟨"PageScribe$Row", "realAt", "(I)D"⟩ ∈ gw := gw_of (tb_3 (List.mem_of_getElem? (i := 99) (by decide +kernel))) (by decide +kernel)
theorem k_3_100 : Cond.instanceMethod ⟨"PageScribe$Row", "realAt", "(I)D"⟩ ∈ gw := gw_of (tb_3 (List.mem_of_getElem? (i := 100) (by decide +kernel))) (by decide +kernel)
theorem k_3_103 : Cond.selects "PageScribe$Stack" ⟨"PageScribe$Row", "realAt", "(I)D"⟩ ⟨"PageScribe$Row", "realAt", "(I)D"⟩ ∈ gw := gw_of (tb_3 (List.mem_of_getElem? (i := 103) (by decide +kernel))) (by decide +kernel)
theorem d_Row_pushFrom_16 : decode prog_8_method_7_code 16 = .ok (.invokevirtual 37, 3) := by decide +kernel
theorem k_2_104 : Cond.code ⟨"PageScribe$Row", "push", "(IID)I"⟩ prog_8_method_6_code 5 (some .int) ∈ gw := gw_of (tb_2 (List.mem_of_getElem? (i := 104) (by decide +kernel))) (by decide +kernel)
theorem k_3_105 : Cond.methodLink "PageScribe$Row" 37 ⟨"PageScribe$Row", "push", "(IID)I"⟩ ∈ gw := gw_of (tb_3 (List.mem_of_getElem? (i := 105) (by decide +kernel))) (by decide +kernel)
theorem k_2_103 : Cond.instanceMethod ⟨"PageScribe$Row", "push", "(IID)I"⟩ ∈ gw := gw_of (tb_2 (List.mem_of_getElem? (i := 103) (by decide +kernel))) (by decide +kernel)
theorem k_8_180 : Cond.selects "PageScribe$Stack" ⟨"PageScribe$Row", "push", "(IID)I"⟩ ⟨"PageScribe$Row", "push", "(IID)I"⟩ ∈ gw := gw_of (tb_8 (List.mem_of_getElem? (i := 180) (by decide +kernel))) (by decide +kernel)
theorem d_Row_pushFrom_19 : decode prog_8_method_7_code 19 = .ok (.ireturn, 1) := by decide +kernel
set_option maxHeartbeats 4000000 in
set_option maxRecDepth 100000 in
theorem c_Row_pushFrom_1_1 (l : Launch) (D : va_G) (T : Nat → ClassId) (ad : Nat → Nat) (S : CS) (p0 : Int32) (sz : Nat)  (hI : CIv S) : Met l ⟨"PageScribe$Row", "pushFrom", "(LPageScribe$Row;I)I"⟩ (wy ⟨"PageScribe$Row", "pushFrom", "(LPageScribe$Row;I)I"⟩ prog_8_method_7_code 3 (some .int)) ({ frames := 1, cells := 0, slots := 0, locals := 70 }) (va_Pc [.ref (ad 1), .ref (ad 1), .int p0] (Pw D T (cW T ad S) sz E0)) (va_Qi (fun (r : Int32) (u : CS) => CIv u ∧ kcL S u ∧ kcP S u ∧ kcU S u ∧ kcW S u) (fun u t => Bw D T (va_A (cW T ad S) sz) (cW T ad u) t) (va_A (cW T ad S) sz)) 0 0 (va_A (cW T ad S) sz) := by
  refine j_met (y := ⟨"PageScribe$Row", "pushFrom", "(LPageScribe$Row;I)I"⟩) (b := prog_8_method_7_code) (n := 3) (ret := (some .int)) (av := [.ref (ad 1), .ref (ad 1), .int p0]) (Qc := fun A => va_Qi (fun (r : Int32) (u : CS) => CIv u ∧ kcL S u ∧ kcP S u ∧ kcU S u ∧ kcW S u) (fun u t => Bw D T A (cW T ad u) t) A) (by decide +kernel) (Nat.le_of_ble_eq_true rfl) (fun p e s m args below meth c A ls F hr hlocks hnm hK hP hD hS hA hN hE hl => ?_)
  obtain ⟨hx, hb, hml, hown, hts⟩ := id F
  have hl : lv_has ls 3 [(0, .ref (ad 1)), (1, .ref (ad 1)), (2, .int p0)] := hl
  obtain ⟨i_vst, i_vc0, i_vc1, i_vc2, i_vc3, i_vv0, i_vv1, i_vv2, i_vv3, i_vg, i_wct, i_wln, i_sd0, i_sd1, i_sd2, i_sd3, i_rln, i_rtx, i_rpl, i_rtk, i_cnv, i_pts, i_cik, i_und⟩ := id hI
  have rp0 := zt_rng p0
  refine lv_aload_n hx hb d_Row_pushFrom_0 rfl (lv_at hl 0 rfl) ?_
  refine lv_aload_n hx hb d_Row_pushFrom_1 rfl (lv_at hl 1 rfl) ?_
  refine lv_iload_n hx hb d_Row_pushFrom_2 rfl (lv_at hl 2 rfl) ?_
  refine jc_ci (w := (fun _ => S)) hK hP hD hS hA (va_runV (As := [.int p0]) (rest := [.ref (ad 1)]) F (c_Row_kindAt l D T ad S p0  s.heap.size) (j_cV (k := 1) (C := "PageScribe$Stack") hts k_2_126 k_1_2 k_3_97 k_2_125 k_8_174 (by decide +kernel) ⟨Nat.le_of_ble_eq_true rfl, Nat.le_of_ble_eq_true rfl⟩) (j_preV (q0 := 1) (ci := 0) hK hP hD csc csc_all csc_nd cl_0 (ce_1 _ _ _) (fun _ _ _ _ h => h) (fun _ _ _ => trivial)) rfl rfl hl.1 rfl (lv_room (Nat.le_of_ble_eq_true rfl)) d_Row_pushFrom_3 ⟨Nat.le_of_ble_eq_true rfl, Nat.le_of_ble_eq_true rfl⟩) (fun rv1 u1 H locs hw1 hP hD hS => ?_)
  have hP : va_P D classes (cW T ad S) H := hP
  have hD : va_D A (cW T ad S) := hD
  have rrv1 := zt_rng rv1
  refine lv_aload_n hx hb d_Row_pushFrom_6 rfl (lv_at hl 1 rfl) ?_
  refine lv_iload_n hx hb d_Row_pushFrom_7 rfl (lv_at hl 2 rfl) ?_
  refine jc_ci (w := (fun _ => S)) hK hP hD hS hA (va_runV (As := [.int p0]) (rest := [.int rv1, .ref (ad 1)]) F (c_Row_numberAt l D T ad S p0  H.size) (j_cV (k := 1) (C := "PageScribe$Stack") hts k_2_136 k_1_2 k_3_98 k_2_135 k_8_177 (by decide +kernel) ⟨Nat.le_of_ble_eq_true rfl, Nat.le_of_ble_eq_true rfl⟩) (j_preV (q0 := 1) (ci := 0) hK hP hD csc csc_all csc_nd cl_0 (ce_1 _ _ _) (fun _ _ _ _ h => h) (fun _ _ _ => trivial)) rfl rfl hl.1 rfl (lv_room (Nat.le_of_ble_eq_true rfl)) d_Row_pushFrom_8 ⟨Nat.le_of_ble_eq_true rfl, Nat.le_of_ble_eq_true rfl⟩) (fun rv2 u2 H locs hw2 hP hD hS => ?_)
  have hP : va_P D classes (cW T ad S) H := hP
  have hD : va_D A (cW T ad S) := hD
  have rrv2 := zt_rng rv2
  refine lv_aload_n hx hb d_Row_pushFrom_11 rfl (lv_at hl 1 rfl) ?_
  refine lv_iload_n hx hb d_Row_pushFrom_12 rfl (lv_at hl 2 rfl) ?_
  refine jc_cd (w := (fun _ => S)) hK hP hD hS hA (va_runV (As := [.int p0]) (rest := [.int rv2, .int rv1, .ref (ad 1)]) F (c_Row_realAt l D T ad S p0  H.size ⟨i_vst, i_vc0, i_vc1, i_vc2, i_vc3, i_vv0, i_vv1, i_vv2, i_vv3, i_vg, i_wct, i_wln, i_sd0, i_sd1, i_sd2, i_sd3, i_rln, i_rtx, i_rpl, i_rtk, i_cnv, i_pts, i_cik, i_und⟩) (j_cV (k := 1) (C := "PageScribe$Stack") hts k_3_104 k_1_2 k_3_99 k_3_100 k_3_103 (by decide +kernel) ⟨Nat.le_of_ble_eq_true rfl, Nat.le_of_ble_eq_true rfl⟩) (j_preV (q0 := 1) (ci := 0) hK hP hD csc csc_all csc_nd cl_0 (ce_1 _ _ _) (fun _ _ _ _ h => h) (fun _ _ _ => trivial)) rfl rfl hl.1 rfl (lv_room (Nat.le_of_ble_eq_true rfl)) d_Row_pushFrom_13 ⟨Nat.le_of_ble_eq_true rfl, Nat.le_of_ble_eq_true rfl⟩) (fun rv3 u3 H locs hw3 hP hD hS => ?_)
  have hP : va_P D classes (cW T ad S) H := hP
  have hD : va_D A (cW T ad S) := hD
  have qhw3 : dB rv3 := hw3
  refine jc_ci (w := (fun u => u)) hK hP hD hS hA (va_runV (As := [.int rv1, .int rv2, .double rv3]) (rest := []) F (c_Row_push l D T ad S rv1 rv2 rv3  H.size ⟨i_vst, i_vc0, i_vc1, i_vc2, i_vc3, i_vv0, i_vv1, i_vv2, i_vv3, i_vg, i_wct, i_wln, i_sd0, i_sd1, i_sd2, i_sd3, i_rln, i_rtx, i_rpl, i_rtk, i_cnv, i_pts, i_cik, i_und⟩ (show dB rv3 by omega)) (j_cV (k := 3) (C := "PageScribe$Stack") hts k_2_104 k_1_2 k_3_105 k_2_103 k_8_180 (by decide +kernel) ⟨Nat.le_of_ble_eq_true rfl, Nat.le_of_ble_eq_true rfl⟩) (j_preV (q0 := 1) (ci := 0) hK hP hD csc csc_all csc_nd cl_0 (ce_1 _ _ _) (fun _ _ _ _ h => h) (fun _ _ _ => trivial)) rfl rfl hl.1 rfl (lv_room (Nat.le_of_ble_eq_true rfl)) d_Row_pushFrom_16 ⟨Nat.le_of_ble_eq_true rfl, Nat.le_of_ble_eq_true rfl⟩) (fun rv4 S1 H locs hw4 hP hD hS => ?_)
  have hP : va_P D classes (cW T ad S1) H := hP
  have hD : va_D A (cW T ad S1) := hD
  obtain ⟨⟨i_vst, i_vc0, i_vc1, i_vc2, i_vc3, i_vv0, i_vv1, i_vv2, i_vv3, i_vg, i_wct, i_wln, i_sd0, i_sd1, i_sd2, i_sd3, i_rln, i_rtx, i_rpl, i_rtk, i_cnv, i_pts, i_cik, i_und⟩, kpcL_S1, kpcP_S1, kpcU_S1, kpcW_S1⟩ := hw4
  have kScL_S1 : kcL S S1 := kcL_t (show kcL S S from (kcL_r S)) kpcL_S1
  have kScP_S1 : kcP S S1 := kcP_t (show kcP S S from (kcP_r S)) kpcP_S1
  have kScU_S1 : kcU S S1 := kcU_t (show kcU S S from (kcU_r S)) kpcU_S1
  have kScW_S1 : kcW S S1 := kcW_t (show kcW S S from (kcW_r S)) kpcW_S1
  have nxr_length_S1 : (f_xr_length S1).toInt = (f_xr_length S).toInt := congrArg Int32.toInt kpcL_S1
  have nxr_length_S1 : (f_xr_length S1).toInt = (f_xr_length S).toInt := congrArg Int32.toInt kpcP_S1.1
  have nxr_place_S1 : (f_xr_place S1).toInt = (f_xr_place S).toInt := congrArg Int32.toInt kpcP_S1.2.1
  have nxe_underWay_S1 : (f_xe_underWay S1).toInt = (f_xe_underWay S).toInt := congrArg Int32.toInt kpcU_S1
  have nxp_columns_S1 : (f_xp_columns S1).toInt = (f_xp_columns S).toInt := congrArg Int32.toInt kpcW_S1.1
  have nxp_rows_S1 : (f_xp_rows S1).toInt = (f_xp_rows S).toInt := congrArg Int32.toInt kpcW_S1.2
  have rrv4 := zt_rng rv4
  exact j_iret F hr hlocks hK hS S1 ⟨⟨i_vst, i_vc0, i_vc1, i_vc2, i_vc3, i_vv0, i_vv1, i_vv2, i_vv3, i_vg, i_wct, i_wln, i_sd0, i_sd1, i_sd2, i_sd3, i_rln, i_rtx, i_rpl, i_rtk, i_cnv, i_pts, i_cik, i_und⟩, kScL_S1, kScP_S1, kScU_S1, kScW_S1⟩ hP hD d_Row_pushFrom_19
theorem k_8_173 : Cond.selects "PageScribe$Row" ⟨"PageScribe$Row", "kindAt", "(I)I"⟩ ⟨"PageScribe$Row", "kindAt", "(I)I"⟩ ∈ gw := gw_of (tb_8 (List.mem_of_getElem? (i := 173) (by decide +kernel))) (by decide +kernel)
theorem k_8_176 : Cond.selects "PageScribe$Row" ⟨"PageScribe$Row", "numberAt", "(I)I"⟩ ⟨"PageScribe$Row", "numberAt", "(I)I"⟩ ∈ gw := gw_of (tb_8 (List.mem_of_getElem? (i := 176) (by decide +kernel))) (by decide +kernel)
theorem k_3_101 : Cond.selects "PageScribe$Row" ⟨"PageScribe$Row", "realAt", "(I)D"⟩ ⟨"PageScribe$Row", "realAt", "(I)D"⟩ ∈ gw := gw_of (tb_3 (List.mem_of_getElem? (i := 101) (by decide +kernel))) (by decide +kernel)
set_option maxHeartbeats 4000000 in
set_option maxRecDepth 100000 in
theorem c_Row_pushFrom_1_13 (l : Launch) (D : va_G) (T : Nat → ClassId) (ad : Nat → Nat) (S : CS) (p0 : Int32) (sz : Nat)  (hI : CIv S) : Met l ⟨"PageScribe$Row", "pushFrom", "(LPageScribe$Row;I)I"⟩ (wy ⟨"PageScribe$Row", "pushFrom", "(LPageScribe$Row;I)I"⟩ prog_8_method_7_code 3 (some .int)) ({ frames := 1, cells := 0, slots := 0, locals := 70 }) (va_Pc [.ref (ad 1), .ref (ad 13), .int p0] (Pw D T (cW T ad S) sz E0)) (va_Qi (fun (r : Int32) (u : CS) => CIv u ∧ kcL S u ∧ kcP S u ∧ kcU S u ∧ kcW S u) (fun u t => Bw D T (va_A (cW T ad S) sz) (cW T ad u) t) (va_A (cW T ad S) sz)) 0 0 (va_A (cW T ad S) sz) := by
  refine j_met (y := ⟨"PageScribe$Row", "pushFrom", "(LPageScribe$Row;I)I"⟩) (b := prog_8_method_7_code) (n := 3) (ret := (some .int)) (av := [.ref (ad 1), .ref (ad 13), .int p0]) (Qc := fun A => va_Qi (fun (r : Int32) (u : CS) => CIv u ∧ kcL S u ∧ kcP S u ∧ kcU S u ∧ kcW S u) (fun u t => Bw D T A (cW T ad u) t) A) (by decide +kernel) (Nat.le_of_ble_eq_true rfl) (fun p e s m args below meth c A ls F hr hlocks hnm hK hP hD hS hA hN hE hl => ?_)
  obtain ⟨hx, hb, hml, hown, hts⟩ := id F
  have hl : lv_has ls 3 [(0, .ref (ad 1)), (1, .ref (ad 13)), (2, .int p0)] := hl
  obtain ⟨i_vst, i_vc0, i_vc1, i_vc2, i_vc3, i_vv0, i_vv1, i_vv2, i_vv3, i_vg, i_wct, i_wln, i_sd0, i_sd1, i_sd2, i_sd3, i_rln, i_rtx, i_rpl, i_rtk, i_cnv, i_pts, i_cik, i_und⟩ := id hI
  have rp0 := zt_rng p0
  refine lv_aload_n hx hb d_Row_pushFrom_0 rfl (lv_at hl 0 rfl) ?_
  refine lv_aload_n hx hb d_Row_pushFrom_1 rfl (lv_at hl 1 rfl) ?_
  refine lv_iload_n hx hb d_Row_pushFrom_2 rfl (lv_at hl 2 rfl) ?_
  refine jc_ci (w := (fun _ => S)) hK hP hD hS hA (va_runV (As := [.int p0]) (rest := [.ref (ad 1)]) F (c_Row_kindAt_13 l D T ad S p0  s.heap.size) (j_cV (k := 1) (C := "PageScribe$Row") hts k_2_126 k_1_2 k_3_97 k_2_125 k_8_173 (by decide +kernel) ⟨Nat.le_of_ble_eq_true rfl, Nat.le_of_ble_eq_true rfl⟩) (j_preV (q0 := 13) (ci := 4) hK hP hD csc csc_all csc_nd cl_4 (ce_13 _ _ _) (fun _ _ _ _ h => h) (fun _ _ _ => trivial)) rfl rfl hl.1 rfl (lv_room (Nat.le_of_ble_eq_true rfl)) d_Row_pushFrom_3 ⟨Nat.le_of_ble_eq_true rfl, Nat.le_of_ble_eq_true rfl⟩) (fun rv1 u1 H locs hw1 hP hD hS => ?_)
  have hP : va_P D classes (cW T ad S) H := hP
  have hD : va_D A (cW T ad S) := hD
  have rrv1 := zt_rng rv1
  refine lv_aload_n hx hb d_Row_pushFrom_6 rfl (lv_at hl 1 rfl) ?_
  refine lv_iload_n hx hb d_Row_pushFrom_7 rfl (lv_at hl 2 rfl) ?_
  refine jc_ci (w := (fun _ => S)) hK hP hD hS hA (va_runV (As := [.int p0]) (rest := [.int rv1, .ref (ad 1)]) F (c_Row_numberAt_13 l D T ad S p0  H.size) (j_cV (k := 1) (C := "PageScribe$Row") hts k_2_136 k_1_2 k_3_98 k_2_135 k_8_176 (by decide +kernel) ⟨Nat.le_of_ble_eq_true rfl, Nat.le_of_ble_eq_true rfl⟩) (j_preV (q0 := 13) (ci := 4) hK hP hD csc csc_all csc_nd cl_4 (ce_13 _ _ _) (fun _ _ _ _ h => h) (fun _ _ _ => trivial)) rfl rfl hl.1 rfl (lv_room (Nat.le_of_ble_eq_true rfl)) d_Row_pushFrom_8 ⟨Nat.le_of_ble_eq_true rfl, Nat.le_of_ble_eq_true rfl⟩) (fun rv2 u2 H locs hw2 hP hD hS => ?_)
  have hP : va_P D classes (cW T ad S) H := hP
  have hD : va_D A (cW T ad S) := hD
  have rrv2 := zt_rng rv2
  refine lv_aload_n hx hb d_Row_pushFrom_11 rfl (lv_at hl 1 rfl) ?_
  refine lv_iload_n hx hb d_Row_pushFrom_12 rfl (lv_at hl 2 rfl) ?_
  refine jc_cd (w := (fun _ => S)) hK hP hD hS hA (va_runV (As := [.int p0]) (rest := [.int rv2, .int rv1, .ref (ad 1)]) F (c_Row_realAt_13 l D T ad S p0  H.size ⟨i_vst, i_vc0, i_vc1, i_vc2, i_vc3, i_vv0, i_vv1, i_vv2, i_vv3, i_vg, i_wct, i_wln, i_sd0, i_sd1, i_sd2, i_sd3, i_rln, i_rtx, i_rpl, i_rtk, i_cnv, i_pts, i_cik, i_und⟩) (j_cV (k := 1) (C := "PageScribe$Row") hts k_3_104 k_1_2 k_3_99 k_3_100 k_3_101 (by decide +kernel) ⟨Nat.le_of_ble_eq_true rfl, Nat.le_of_ble_eq_true rfl⟩) (j_preV (q0 := 13) (ci := 4) hK hP hD csc csc_all csc_nd cl_4 (ce_13 _ _ _) (fun _ _ _ _ h => h) (fun _ _ _ => trivial)) rfl rfl hl.1 rfl (lv_room (Nat.le_of_ble_eq_true rfl)) d_Row_pushFrom_13 ⟨Nat.le_of_ble_eq_true rfl, Nat.le_of_ble_eq_true rfl⟩) (fun rv3 u3 H locs hw3 hP hD hS => ?_)
  have hP : va_P D classes (cW T ad S) H := hP
  have hD : va_D A (cW T ad S) := hD
  have qhw3 : dB rv3 := hw3
  refine jc_ci (w := (fun u => u)) hK hP hD hS hA (va_runV (As := [.int rv1, .int rv2, .double rv3]) (rest := []) F (c_Row_push l D T ad S rv1 rv2 rv3  H.size ⟨i_vst, i_vc0, i_vc1, i_vc2, i_vc3, i_vv0, i_vv1, i_vv2, i_vv3, i_vg, i_wct, i_wln, i_sd0, i_sd1, i_sd2, i_sd3, i_rln, i_rtx, i_rpl, i_rtk, i_cnv, i_pts, i_cik, i_und⟩ (show dB rv3 by omega)) (j_cV (k := 3) (C := "PageScribe$Stack") hts k_2_104 k_1_2 k_3_105 k_2_103 k_8_180 (by decide +kernel) ⟨Nat.le_of_ble_eq_true rfl, Nat.le_of_ble_eq_true rfl⟩) (j_preV (q0 := 1) (ci := 0) hK hP hD csc csc_all csc_nd cl_0 (ce_1 _ _ _) (fun _ _ _ _ h => h) (fun _ _ _ => trivial)) rfl rfl hl.1 rfl (lv_room (Nat.le_of_ble_eq_true rfl)) d_Row_pushFrom_16 ⟨Nat.le_of_ble_eq_true rfl, Nat.le_of_ble_eq_true rfl⟩) (fun rv4 S1 H locs hw4 hP hD hS => ?_)
  have hP : va_P D classes (cW T ad S1) H := hP
  have hD : va_D A (cW T ad S1) := hD
  obtain ⟨⟨i_vst, i_vc0, i_vc1, i_vc2, i_vc3, i_vv0, i_vv1, i_vv2, i_vv3, i_vg, i_wct, i_wln, i_sd0, i_sd1, i_sd2, i_sd3, i_rln, i_rtx, i_rpl, i_rtk, i_cnv, i_pts, i_cik, i_und⟩, kpcL_S1, kpcP_S1, kpcU_S1, kpcW_S1⟩ := hw4
  have kScL_S1 : kcL S S1 := kcL_t (show kcL S S from (kcL_r S)) kpcL_S1
  have kScP_S1 : kcP S S1 := kcP_t (show kcP S S from (kcP_r S)) kpcP_S1
  have kScU_S1 : kcU S S1 := kcU_t (show kcU S S from (kcU_r S)) kpcU_S1
  have kScW_S1 : kcW S S1 := kcW_t (show kcW S S from (kcW_r S)) kpcW_S1
  have nxr_length_S1 : (f_xr_length S1).toInt = (f_xr_length S).toInt := congrArg Int32.toInt kpcL_S1
  have nxr_length_S1 : (f_xr_length S1).toInt = (f_xr_length S).toInt := congrArg Int32.toInt kpcP_S1.1
  have nxr_place_S1 : (f_xr_place S1).toInt = (f_xr_place S).toInt := congrArg Int32.toInt kpcP_S1.2.1
  have nxe_underWay_S1 : (f_xe_underWay S1).toInt = (f_xe_underWay S).toInt := congrArg Int32.toInt kpcU_S1
  have nxp_columns_S1 : (f_xp_columns S1).toInt = (f_xp_columns S).toInt := congrArg Int32.toInt kpcW_S1.1
  have nxp_rows_S1 : (f_xp_rows S1).toInt = (f_xp_rows S).toInt := congrArg Int32.toInt kpcW_S1.2
  have rrv4 := zt_rng rv4
  exact j_iret F hr hlocks hK hS S1 ⟨⟨i_vst, i_vc0, i_vc1, i_vc2, i_vc3, i_vv0, i_vv1, i_vv2, i_vv3, i_vg, i_wct, i_wln, i_sd0, i_sd1, i_sd2, i_sd3, i_rln, i_rtx, i_rpl, i_rtk, i_cnv, i_pts, i_cik, i_und⟩, kScL_S1, kScP_S1, kScU_S1, kScW_S1⟩ hP hD d_Row_pushFrom_19
set_option maxHeartbeats 4000000 in
set_option maxRecDepth 100000 in
theorem c_Row_pushFrom_1_20 (l : Launch) (D : va_G) (T : Nat → ClassId) (ad : Nat → Nat) (S : CS) (p0 : Int32) (sz : Nat)  (hI : CIv S) : Met l ⟨"PageScribe$Row", "pushFrom", "(LPageScribe$Row;I)I"⟩ (wy ⟨"PageScribe$Row", "pushFrom", "(LPageScribe$Row;I)I"⟩ prog_8_method_7_code 3 (some .int)) ({ frames := 1, cells := 0, slots := 0, locals := 70 }) (va_Pc [.ref (ad 1), .ref (ad 20), .int p0] (Pw D T (cW T ad S) sz E0)) (va_Qi (fun (r : Int32) (u : CS) => CIv u ∧ kcL S u ∧ kcP S u ∧ kcU S u ∧ kcW S u) (fun u t => Bw D T (va_A (cW T ad S) sz) (cW T ad u) t) (va_A (cW T ad S) sz)) 0 0 (va_A (cW T ad S) sz) := by
  refine j_met (y := ⟨"PageScribe$Row", "pushFrom", "(LPageScribe$Row;I)I"⟩) (b := prog_8_method_7_code) (n := 3) (ret := (some .int)) (av := [.ref (ad 1), .ref (ad 20), .int p0]) (Qc := fun A => va_Qi (fun (r : Int32) (u : CS) => CIv u ∧ kcL S u ∧ kcP S u ∧ kcU S u ∧ kcW S u) (fun u t => Bw D T A (cW T ad u) t) A) (by decide +kernel) (Nat.le_of_ble_eq_true rfl) (fun p e s m args below meth c A ls F hr hlocks hnm hK hP hD hS hA hN hE hl => ?_)
  obtain ⟨hx, hb, hml, hown, hts⟩ := id F
  have hl : lv_has ls 3 [(0, .ref (ad 1)), (1, .ref (ad 20)), (2, .int p0)] := hl
  obtain ⟨i_vst, i_vc0, i_vc1, i_vc2, i_vc3, i_vv0, i_vv1, i_vv2, i_vv3, i_vg, i_wct, i_wln, i_sd0, i_sd1, i_sd2, i_sd3, i_rln, i_rtx, i_rpl, i_rtk, i_cnv, i_pts, i_cik, i_und⟩ := id hI
  have rp0 := zt_rng p0
  refine lv_aload_n hx hb d_Row_pushFrom_0 rfl (lv_at hl 0 rfl) ?_
  refine lv_aload_n hx hb d_Row_pushFrom_1 rfl (lv_at hl 1 rfl) ?_
  refine lv_iload_n hx hb d_Row_pushFrom_2 rfl (lv_at hl 2 rfl) ?_
  refine jc_ci (w := (fun _ => S)) hK hP hD hS hA (va_runV (As := [.int p0]) (rest := [.ref (ad 1)]) F (c_Row_kindAt_20 l D T ad S p0  s.heap.size) (j_cV (k := 1) (C := "PageScribe$Row") hts k_2_126 k_1_2 k_3_97 k_2_125 k_8_173 (by decide +kernel) ⟨Nat.le_of_ble_eq_true rfl, Nat.le_of_ble_eq_true rfl⟩) (j_preV (q0 := 20) (ci := 4) hK hP hD csc csc_all csc_nd cl_4 (ce_20 _ _ _) (fun _ _ _ _ h => h) (fun _ _ _ => trivial)) rfl rfl hl.1 rfl (lv_room (Nat.le_of_ble_eq_true rfl)) d_Row_pushFrom_3 ⟨Nat.le_of_ble_eq_true rfl, Nat.le_of_ble_eq_true rfl⟩) (fun rv1 u1 H locs hw1 hP hD hS => ?_)
  have hP : va_P D classes (cW T ad S) H := hP
  have hD : va_D A (cW T ad S) := hD
  have rrv1 := zt_rng rv1
  refine lv_aload_n hx hb d_Row_pushFrom_6 rfl (lv_at hl 1 rfl) ?_
  refine lv_iload_n hx hb d_Row_pushFrom_7 rfl (lv_at hl 2 rfl) ?_
  refine jc_ci (w := (fun _ => S)) hK hP hD hS hA (va_runV (As := [.int p0]) (rest := [.int rv1, .ref (ad 1)]) F (c_Row_numberAt_20 l D T ad S p0  H.size) (j_cV (k := 1) (C := "PageScribe$Row") hts k_2_136 k_1_2 k_3_98 k_2_135 k_8_176 (by decide +kernel) ⟨Nat.le_of_ble_eq_true rfl, Nat.le_of_ble_eq_true rfl⟩) (j_preV (q0 := 20) (ci := 4) hK hP hD csc csc_all csc_nd cl_4 (ce_20 _ _ _) (fun _ _ _ _ h => h) (fun _ _ _ => trivial)) rfl rfl hl.1 rfl (lv_room (Nat.le_of_ble_eq_true rfl)) d_Row_pushFrom_8 ⟨Nat.le_of_ble_eq_true rfl, Nat.le_of_ble_eq_true rfl⟩) (fun rv2 u2 H locs hw2 hP hD hS => ?_)
  have hP : va_P D classes (cW T ad S) H := hP
  have hD : va_D A (cW T ad S) := hD
  have rrv2 := zt_rng rv2
  refine lv_aload_n hx hb d_Row_pushFrom_11 rfl (lv_at hl 1 rfl) ?_
  refine lv_iload_n hx hb d_Row_pushFrom_12 rfl (lv_at hl 2 rfl) ?_
  refine jc_cd (w := (fun _ => S)) hK hP hD hS hA (va_runV (As := [.int p0]) (rest := [.int rv2, .int rv1, .ref (ad 1)]) F (c_Row_realAt_20 l D T ad S p0  H.size ⟨i_vst, i_vc0, i_vc1, i_vc2, i_vc3, i_vv0, i_vv1, i_vv2, i_vv3, i_vg, i_wct, i_wln, i_sd0, i_sd1, i_sd2, i_sd3, i_rln, i_rtx, i_rpl, i_rtk, i_cnv, i_pts, i_cik, i_und⟩) (j_cV (k := 1) (C := "PageScribe$Row") hts k_3_104 k_1_2 k_3_99 k_3_100 k_3_101 (by decide +kernel) ⟨Nat.le_of_ble_eq_true rfl, Nat.le_of_ble_eq_true rfl⟩) (j_preV (q0 := 20) (ci := 4) hK hP hD csc csc_all csc_nd cl_4 (ce_20 _ _ _) (fun _ _ _ _ h => h) (fun _ _ _ => trivial)) rfl rfl hl.1 rfl (lv_room (Nat.le_of_ble_eq_true rfl)) d_Row_pushFrom_13 ⟨Nat.le_of_ble_eq_true rfl, Nat.le_of_ble_eq_true rfl⟩) (fun rv3 u3 H locs hw3 hP hD hS => ?_)
  have hP : va_P D classes (cW T ad S) H := hP
  have hD : va_D A (cW T ad S) := hD
  have qhw3 : dB rv3 := hw3
  refine jc_ci (w := (fun u => u)) hK hP hD hS hA (va_runV (As := [.int rv1, .int rv2, .double rv3]) (rest := []) F (c_Row_push l D T ad S rv1 rv2 rv3  H.size ⟨i_vst, i_vc0, i_vc1, i_vc2, i_vc3, i_vv0, i_vv1, i_vv2, i_vv3, i_vg, i_wct, i_wln, i_sd0, i_sd1, i_sd2, i_sd3, i_rln, i_rtx, i_rpl, i_rtk, i_cnv, i_pts, i_cik, i_und⟩ (show dB rv3 by omega)) (j_cV (k := 3) (C := "PageScribe$Stack") hts k_2_104 k_1_2 k_3_105 k_2_103 k_8_180 (by decide +kernel) ⟨Nat.le_of_ble_eq_true rfl, Nat.le_of_ble_eq_true rfl⟩) (j_preV (q0 := 1) (ci := 0) hK hP hD csc csc_all csc_nd cl_0 (ce_1 _ _ _) (fun _ _ _ _ h => h) (fun _ _ _ => trivial)) rfl rfl hl.1 rfl (lv_room (Nat.le_of_ble_eq_true rfl)) d_Row_pushFrom_16 ⟨Nat.le_of_ble_eq_true rfl, Nat.le_of_ble_eq_true rfl⟩) (fun rv4 S1 H locs hw4 hP hD hS => ?_)
  have hP : va_P D classes (cW T ad S1) H := hP
  have hD : va_D A (cW T ad S1) := hD
  obtain ⟨⟨i_vst, i_vc0, i_vc1, i_vc2, i_vc3, i_vv0, i_vv1, i_vv2, i_vv3, i_vg, i_wct, i_wln, i_sd0, i_sd1, i_sd2, i_sd3, i_rln, i_rtx, i_rpl, i_rtk, i_cnv, i_pts, i_cik, i_und⟩, kpcL_S1, kpcP_S1, kpcU_S1, kpcW_S1⟩ := hw4
  have kScL_S1 : kcL S S1 := kcL_t (show kcL S S from (kcL_r S)) kpcL_S1
  have kScP_S1 : kcP S S1 := kcP_t (show kcP S S from (kcP_r S)) kpcP_S1
  have kScU_S1 : kcU S S1 := kcU_t (show kcU S S from (kcU_r S)) kpcU_S1
  have kScW_S1 : kcW S S1 := kcW_t (show kcW S S from (kcW_r S)) kpcW_S1
  have nxr_length_S1 : (f_xr_length S1).toInt = (f_xr_length S).toInt := congrArg Int32.toInt kpcL_S1
  have nxr_length_S1 : (f_xr_length S1).toInt = (f_xr_length S).toInt := congrArg Int32.toInt kpcP_S1.1
  have nxr_place_S1 : (f_xr_place S1).toInt = (f_xr_place S).toInt := congrArg Int32.toInt kpcP_S1.2.1
  have nxe_underWay_S1 : (f_xe_underWay S1).toInt = (f_xe_underWay S).toInt := congrArg Int32.toInt kpcU_S1
  have nxp_columns_S1 : (f_xp_columns S1).toInt = (f_xp_columns S).toInt := congrArg Int32.toInt kpcW_S1.1
  have nxp_rows_S1 : (f_xp_rows S1).toInt = (f_xp_rows S).toInt := congrArg Int32.toInt kpcW_S1.2
  have rrv4 := zt_rng rv4
  exact j_iret F hr hlocks hK hS S1 ⟨⟨i_vst, i_vc0, i_vc1, i_vc2, i_vc3, i_vv0, i_vv1, i_vv2, i_vv3, i_vg, i_wct, i_wln, i_sd0, i_sd1, i_sd2, i_sd3, i_rln, i_rtx, i_rpl, i_rtk, i_cnv, i_pts, i_cik, i_und⟩, kScL_S1, kScP_S1, kScU_S1, kScW_S1⟩ hP hD d_Row_pushFrom_19
theorem k_8_179 : Cond.selects "PageScribe$Row" ⟨"PageScribe$Row", "push", "(IID)I"⟩ ⟨"PageScribe$Row", "push", "(IID)I"⟩ ∈ gw := gw_of (tb_8 (List.mem_of_getElem? (i := 179) (by decide +kernel))) (by decide +kernel)
set_option maxHeartbeats 4000000 in
set_option maxRecDepth 100000 in
theorem c_Row_pushFrom_13_62 (l : Launch) (D : va_G) (T : Nat → ClassId) (ad : Nat → Nat) (S : CS) (p0 : Int32) (sz : Nat)  (hI : CIv S) : Met l ⟨"PageScribe$Row", "pushFrom", "(LPageScribe$Row;I)I"⟩ (wy ⟨"PageScribe$Row", "pushFrom", "(LPageScribe$Row;I)I"⟩ prog_8_method_7_code 3 (some .int)) ({ frames := 1, cells := 0, slots := 0, locals := 70 }) (va_Pc [.ref (ad 13), .ref (ad 62), .int p0] (Pw D T (cW T ad S) sz E0)) (va_Qi (fun (r : Int32) (u : CS) => CIv u ∧ kcL S u ∧ kcP S u ∧ kcU S u ∧ kcW S u) (fun u t => Bw D T (va_A (cW T ad S) sz) (cW T ad u) t) (va_A (cW T ad S) sz)) 0 0 (va_A (cW T ad S) sz) := by
  refine j_met (y := ⟨"PageScribe$Row", "pushFrom", "(LPageScribe$Row;I)I"⟩) (b := prog_8_method_7_code) (n := 3) (ret := (some .int)) (av := [.ref (ad 13), .ref (ad 62), .int p0]) (Qc := fun A => va_Qi (fun (r : Int32) (u : CS) => CIv u ∧ kcL S u ∧ kcP S u ∧ kcU S u ∧ kcW S u) (fun u t => Bw D T A (cW T ad u) t) A) (by decide +kernel) (Nat.le_of_ble_eq_true rfl) (fun p e s m args below meth c A ls F hr hlocks hnm hK hP hD hS hA hN hE hl => ?_)
  obtain ⟨hx, hb, hml, hown, hts⟩ := id F
  have hl : lv_has ls 3 [(0, .ref (ad 13)), (1, .ref (ad 62)), (2, .int p0)] := hl
  obtain ⟨i_vst, i_vc0, i_vc1, i_vc2, i_vc3, i_vv0, i_vv1, i_vv2, i_vv3, i_vg, i_wct, i_wln, i_sd0, i_sd1, i_sd2, i_sd3, i_rln, i_rtx, i_rpl, i_rtk, i_cnv, i_pts, i_cik, i_und⟩ := id hI
  have rp0 := zt_rng p0
  refine lv_aload_n hx hb d_Row_pushFrom_0 rfl (lv_at hl 0 rfl) ?_
  refine lv_aload_n hx hb d_Row_pushFrom_1 rfl (lv_at hl 1 rfl) ?_
  refine lv_iload_n hx hb d_Row_pushFrom_2 rfl (lv_at hl 2 rfl) ?_
  refine jc_ci (w := (fun _ => S)) hK hP hD hS hA (va_runV (As := [.int p0]) (rest := [.ref (ad 13)]) F (c_Row_kindAt_62 l D T ad S p0  s.heap.size) (j_cV (k := 1) (C := "PageScribe$Row") hts k_2_126 k_1_2 k_3_97 k_2_125 k_8_173 (by decide +kernel) ⟨Nat.le_of_ble_eq_true rfl, Nat.le_of_ble_eq_true rfl⟩) (j_preV (q0 := 62) (ci := 4) hK hP hD csc csc_all csc_nd cl_4 (ce_62 _ _ _) (fun _ _ _ _ h => h) (fun _ _ _ => trivial)) rfl rfl hl.1 rfl (lv_room (Nat.le_of_ble_eq_true rfl)) d_Row_pushFrom_3 ⟨Nat.le_of_ble_eq_true rfl, Nat.le_of_ble_eq_true rfl⟩) (fun rv1 u1 H locs hw1 hP hD hS => ?_)
  have hP : va_P D classes (cW T ad S) H := hP
  have hD : va_D A (cW T ad S) := hD
  have rrv1 := zt_rng rv1
  refine lv_aload_n hx hb d_Row_pushFrom_6 rfl (lv_at hl 1 rfl) ?_
  refine lv_iload_n hx hb d_Row_pushFrom_7 rfl (lv_at hl 2 rfl) ?_
  refine jc_ci (w := (fun _ => S)) hK hP hD hS hA (va_runV (As := [.int p0]) (rest := [.int rv1, .ref (ad 13)]) F (c_Row_numberAt_62 l D T ad S p0  H.size) (j_cV (k := 1) (C := "PageScribe$Row") hts k_2_136 k_1_2 k_3_98 k_2_135 k_8_176 (by decide +kernel) ⟨Nat.le_of_ble_eq_true rfl, Nat.le_of_ble_eq_true rfl⟩) (j_preV (q0 := 62) (ci := 4) hK hP hD csc csc_all csc_nd cl_4 (ce_62 _ _ _) (fun _ _ _ _ h => h) (fun _ _ _ => trivial)) rfl rfl hl.1 rfl (lv_room (Nat.le_of_ble_eq_true rfl)) d_Row_pushFrom_8 ⟨Nat.le_of_ble_eq_true rfl, Nat.le_of_ble_eq_true rfl⟩) (fun rv2 u2 H locs hw2 hP hD hS => ?_)
  have hP : va_P D classes (cW T ad S) H := hP
  have hD : va_D A (cW T ad S) := hD
  have rrv2 := zt_rng rv2
  refine lv_aload_n hx hb d_Row_pushFrom_11 rfl (lv_at hl 1 rfl) ?_
  refine lv_iload_n hx hb d_Row_pushFrom_12 rfl (lv_at hl 2 rfl) ?_
  refine jc_cd (w := (fun _ => S)) hK hP hD hS hA (va_runV (As := [.int p0]) (rest := [.int rv2, .int rv1, .ref (ad 13)]) F (c_Row_realAt_62 l D T ad S p0  H.size ⟨i_vst, i_vc0, i_vc1, i_vc2, i_vc3, i_vv0, i_vv1, i_vv2, i_vv3, i_vg, i_wct, i_wln, i_sd0, i_sd1, i_sd2, i_sd3, i_rln, i_rtx, i_rpl, i_rtk, i_cnv, i_pts, i_cik, i_und⟩) (j_cV (k := 1) (C := "PageScribe$Row") hts k_3_104 k_1_2 k_3_99 k_3_100 k_3_101 (by decide +kernel) ⟨Nat.le_of_ble_eq_true rfl, Nat.le_of_ble_eq_true rfl⟩) (j_preV (q0 := 62) (ci := 4) hK hP hD csc csc_all csc_nd cl_4 (ce_62 _ _ _) (fun _ _ _ _ h => h) (fun _ _ _ => trivial)) rfl rfl hl.1 rfl (lv_room (Nat.le_of_ble_eq_true rfl)) d_Row_pushFrom_13 ⟨Nat.le_of_ble_eq_true rfl, Nat.le_of_ble_eq_true rfl⟩) (fun rv3 u3 H locs hw3 hP hD hS => ?_)
  have hP : va_P D classes (cW T ad S) H := hP
  have hD : va_D A (cW T ad S) := hD
  have qhw3 : dB rv3 := hw3
  refine jc_ci (w := (fun u => u)) hK hP hD hS hA (va_runV (As := [.int rv1, .int rv2, .double rv3]) (rest := []) F (c_Row_push_13 l D T ad S rv1 rv2 rv3  H.size ⟨i_vst, i_vc0, i_vc1, i_vc2, i_vc3, i_vv0, i_vv1, i_vv2, i_vv3, i_vg, i_wct, i_wln, i_sd0, i_sd1, i_sd2, i_sd3, i_rln, i_rtx, i_rpl, i_rtk, i_cnv, i_pts, i_cik, i_und⟩ (show dB rv3 by omega)) (j_cV (k := 3) (C := "PageScribe$Row") hts k_2_104 k_1_2 k_3_105 k_2_103 k_8_179 (by decide +kernel) ⟨Nat.le_of_ble_eq_true rfl, Nat.le_of_ble_eq_true rfl⟩) (j_preV (q0 := 13) (ci := 4) hK hP hD csc csc_all csc_nd cl_4 (ce_13 _ _ _) (fun _ _ _ _ h => h) (fun _ _ _ => trivial)) rfl rfl hl.1 rfl (lv_room (Nat.le_of_ble_eq_true rfl)) d_Row_pushFrom_16 ⟨Nat.le_of_ble_eq_true rfl, Nat.le_of_ble_eq_true rfl⟩) (fun rv4 S1 H locs hw4 hP hD hS => ?_)
  have hP : va_P D classes (cW T ad S1) H := hP
  have hD : va_D A (cW T ad S1) := hD
  obtain ⟨⟨i_vst, i_vc0, i_vc1, i_vc2, i_vc3, i_vv0, i_vv1, i_vv2, i_vv3, i_vg, i_wct, i_wln, i_sd0, i_sd1, i_sd2, i_sd3, i_rln, i_rtx, i_rpl, i_rtk, i_cnv, i_pts, i_cik, i_und⟩, kpcL_S1, kpcP_S1, kpcU_S1, kpcW_S1⟩ := hw4
  have kScL_S1 : kcL S S1 := kcL_t (show kcL S S from (kcL_r S)) kpcL_S1
  have kScP_S1 : kcP S S1 := kcP_t (show kcP S S from (kcP_r S)) kpcP_S1
  have kScU_S1 : kcU S S1 := kcU_t (show kcU S S from (kcU_r S)) kpcU_S1
  have kScW_S1 : kcW S S1 := kcW_t (show kcW S S from (kcW_r S)) kpcW_S1
  have nxr_length_S1 : (f_xr_length S1).toInt = (f_xr_length S).toInt := congrArg Int32.toInt kpcL_S1
  have nxr_length_S1 : (f_xr_length S1).toInt = (f_xr_length S).toInt := congrArg Int32.toInt kpcP_S1.1
  have nxr_place_S1 : (f_xr_place S1).toInt = (f_xr_place S).toInt := congrArg Int32.toInt kpcP_S1.2.1
  have nxe_underWay_S1 : (f_xe_underWay S1).toInt = (f_xe_underWay S).toInt := congrArg Int32.toInt kpcU_S1
  have nxp_columns_S1 : (f_xp_columns S1).toInt = (f_xp_columns S).toInt := congrArg Int32.toInt kpcW_S1.1
  have nxp_rows_S1 : (f_xp_rows S1).toInt = (f_xp_rows S).toInt := congrArg Int32.toInt kpcW_S1.2
  have rrv4 := zt_rng rv4
  exact j_iret F hr hlocks hK hS S1 ⟨⟨i_vst, i_vc0, i_vc1, i_vc2, i_vc3, i_vv0, i_vv1, i_vv2, i_vv3, i_vg, i_wct, i_wln, i_sd0, i_sd1, i_sd2, i_sd3, i_rln, i_rtx, i_rpl, i_rtk, i_cnv, i_pts, i_cik, i_und⟩, kScL_S1, kScP_S1, kScU_S1, kScW_S1⟩ hP hD d_Row_pushFrom_19
set_option maxHeartbeats 4000000 in
set_option maxRecDepth 100000 in
theorem c_Row_pushFrom_13_1 (l : Launch) (D : va_G) (T : Nat → ClassId) (ad : Nat → Nat) (S : CS) (p0 : Int32) (sz : Nat)  (hI : CIv S) : Met l ⟨"PageScribe$Row", "pushFrom", "(LPageScribe$Row;I)I"⟩ (wy ⟨"PageScribe$Row", "pushFrom", "(LPageScribe$Row;I)I"⟩ prog_8_method_7_code 3 (some .int)) ({ frames := 1, cells := 0, slots := 0, locals := 70 }) (va_Pc [.ref (ad 13), .ref (ad 1), .int p0] (Pw D T (cW T ad S) sz E0)) (va_Qi (fun (r : Int32) (u : CS) => CIv u ∧ kcL S u ∧ kcP S u ∧ kcU S u ∧ kcW S u) (fun u t => Bw D T (va_A (cW T ad S) sz) (cW T ad u) t) (va_A (cW T ad S) sz)) 0 0 (va_A (cW T ad S) sz) := by
  refine j_met (y := ⟨"PageScribe$Row", "pushFrom", "(LPageScribe$Row;I)I"⟩) (b := prog_8_method_7_code) (n := 3) (ret := (some .int)) (av := [.ref (ad 13), .ref (ad 1), .int p0]) (Qc := fun A => va_Qi (fun (r : Int32) (u : CS) => CIv u ∧ kcL S u ∧ kcP S u ∧ kcU S u ∧ kcW S u) (fun u t => Bw D T A (cW T ad u) t) A) (by decide +kernel) (Nat.le_of_ble_eq_true rfl) (fun p e s m args below meth c A ls F hr hlocks hnm hK hP hD hS hA hN hE hl => ?_)
  obtain ⟨hx, hb, hml, hown, hts⟩ := id F
  have hl : lv_has ls 3 [(0, .ref (ad 13)), (1, .ref (ad 1)), (2, .int p0)] := hl
  obtain ⟨i_vst, i_vc0, i_vc1, i_vc2, i_vc3, i_vv0, i_vv1, i_vv2, i_vv3, i_vg, i_wct, i_wln, i_sd0, i_sd1, i_sd2, i_sd3, i_rln, i_rtx, i_rpl, i_rtk, i_cnv, i_pts, i_cik, i_und⟩ := id hI
  have rp0 := zt_rng p0
  refine lv_aload_n hx hb d_Row_pushFrom_0 rfl (lv_at hl 0 rfl) ?_
  refine lv_aload_n hx hb d_Row_pushFrom_1 rfl (lv_at hl 1 rfl) ?_
  refine lv_iload_n hx hb d_Row_pushFrom_2 rfl (lv_at hl 2 rfl) ?_
  refine jc_ci (w := (fun _ => S)) hK hP hD hS hA (va_runV (As := [.int p0]) (rest := [.ref (ad 13)]) F (c_Row_kindAt l D T ad S p0  s.heap.size) (j_cV (k := 1) (C := "PageScribe$Stack") hts k_2_126 k_1_2 k_3_97 k_2_125 k_8_174 (by decide +kernel) ⟨Nat.le_of_ble_eq_true rfl, Nat.le_of_ble_eq_true rfl⟩) (j_preV (q0 := 1) (ci := 0) hK hP hD csc csc_all csc_nd cl_0 (ce_1 _ _ _) (fun _ _ _ _ h => h) (fun _ _ _ => trivial)) rfl rfl hl.1 rfl (lv_room (Nat.le_of_ble_eq_true rfl)) d_Row_pushFrom_3 ⟨Nat.le_of_ble_eq_true rfl, Nat.le_of_ble_eq_true rfl⟩) (fun rv1 u1 H locs hw1 hP hD hS => ?_)
  have hP : va_P D classes (cW T ad S) H := hP
  have hD : va_D A (cW T ad S) := hD
  have rrv1 := zt_rng rv1
  refine lv_aload_n hx hb d_Row_pushFrom_6 rfl (lv_at hl 1 rfl) ?_
  refine lv_iload_n hx hb d_Row_pushFrom_7 rfl (lv_at hl 2 rfl) ?_
  refine jc_ci (w := (fun _ => S)) hK hP hD hS hA (va_runV (As := [.int p0]) (rest := [.int rv1, .ref (ad 13)]) F (c_Row_numberAt l D T ad S p0  H.size) (j_cV (k := 1) (C := "PageScribe$Stack") hts k_2_136 k_1_2 k_3_98 k_2_135 k_8_177 (by decide +kernel) ⟨Nat.le_of_ble_eq_true rfl, Nat.le_of_ble_eq_true rfl⟩) (j_preV (q0 := 1) (ci := 0) hK hP hD csc csc_all csc_nd cl_0 (ce_1 _ _ _) (fun _ _ _ _ h => h) (fun _ _ _ => trivial)) rfl rfl hl.1 rfl (lv_room (Nat.le_of_ble_eq_true rfl)) d_Row_pushFrom_8 ⟨Nat.le_of_ble_eq_true rfl, Nat.le_of_ble_eq_true rfl⟩) (fun rv2 u2 H locs hw2 hP hD hS => ?_)
  have hP : va_P D classes (cW T ad S) H := hP
  have hD : va_D A (cW T ad S) := hD
  have rrv2 := zt_rng rv2
  refine lv_aload_n hx hb d_Row_pushFrom_11 rfl (lv_at hl 1 rfl) ?_
  refine lv_iload_n hx hb d_Row_pushFrom_12 rfl (lv_at hl 2 rfl) ?_
  refine jc_cd (w := (fun _ => S)) hK hP hD hS hA (va_runV (As := [.int p0]) (rest := [.int rv2, .int rv1, .ref (ad 13)]) F (c_Row_realAt l D T ad S p0  H.size ⟨i_vst, i_vc0, i_vc1, i_vc2, i_vc3, i_vv0, i_vv1, i_vv2, i_vv3, i_vg, i_wct, i_wln, i_sd0, i_sd1, i_sd2, i_sd3, i_rln, i_rtx, i_rpl, i_rtk, i_cnv, i_pts, i_cik, i_und⟩) (j_cV (k := 1) (C := "PageScribe$Stack") hts k_3_104 k_1_2 k_3_99 k_3_100 k_3_103 (by decide +kernel) ⟨Nat.le_of_ble_eq_true rfl, Nat.le_of_ble_eq_true rfl⟩) (j_preV (q0 := 1) (ci := 0) hK hP hD csc csc_all csc_nd cl_0 (ce_1 _ _ _) (fun _ _ _ _ h => h) (fun _ _ _ => trivial)) rfl rfl hl.1 rfl (lv_room (Nat.le_of_ble_eq_true rfl)) d_Row_pushFrom_13 ⟨Nat.le_of_ble_eq_true rfl, Nat.le_of_ble_eq_true rfl⟩) (fun rv3 u3 H locs hw3 hP hD hS => ?_)
  have hP : va_P D classes (cW T ad S) H := hP
  have hD : va_D A (cW T ad S) := hD
  have qhw3 : dB rv3 := hw3
  refine jc_ci (w := (fun u => u)) hK hP hD hS hA (va_runV (As := [.int rv1, .int rv2, .double rv3]) (rest := []) F (c_Row_push_13 l D T ad S rv1 rv2 rv3  H.size ⟨i_vst, i_vc0, i_vc1, i_vc2, i_vc3, i_vv0, i_vv1, i_vv2, i_vv3, i_vg, i_wct, i_wln, i_sd0, i_sd1, i_sd2, i_sd3, i_rln, i_rtx, i_rpl, i_rtk, i_cnv, i_pts, i_cik, i_und⟩ (show dB rv3 by omega)) (j_cV (k := 3) (C := "PageScribe$Row") hts k_2_104 k_1_2 k_3_105 k_2_103 k_8_179 (by decide +kernel) ⟨Nat.le_of_ble_eq_true rfl, Nat.le_of_ble_eq_true rfl⟩) (j_preV (q0 := 13) (ci := 4) hK hP hD csc csc_all csc_nd cl_4 (ce_13 _ _ _) (fun _ _ _ _ h => h) (fun _ _ _ => trivial)) rfl rfl hl.1 rfl (lv_room (Nat.le_of_ble_eq_true rfl)) d_Row_pushFrom_16 ⟨Nat.le_of_ble_eq_true rfl, Nat.le_of_ble_eq_true rfl⟩) (fun rv4 S1 H locs hw4 hP hD hS => ?_)
  have hP : va_P D classes (cW T ad S1) H := hP
  have hD : va_D A (cW T ad S1) := hD
  obtain ⟨⟨i_vst, i_vc0, i_vc1, i_vc2, i_vc3, i_vv0, i_vv1, i_vv2, i_vv3, i_vg, i_wct, i_wln, i_sd0, i_sd1, i_sd2, i_sd3, i_rln, i_rtx, i_rpl, i_rtk, i_cnv, i_pts, i_cik, i_und⟩, kpcL_S1, kpcP_S1, kpcU_S1, kpcW_S1⟩ := hw4
  have kScL_S1 : kcL S S1 := kcL_t (show kcL S S from (kcL_r S)) kpcL_S1
  have kScP_S1 : kcP S S1 := kcP_t (show kcP S S from (kcP_r S)) kpcP_S1
  have kScU_S1 : kcU S S1 := kcU_t (show kcU S S from (kcU_r S)) kpcU_S1
  have kScW_S1 : kcW S S1 := kcW_t (show kcW S S from (kcW_r S)) kpcW_S1
  have nxr_length_S1 : (f_xr_length S1).toInt = (f_xr_length S).toInt := congrArg Int32.toInt kpcL_S1
  have nxr_length_S1 : (f_xr_length S1).toInt = (f_xr_length S).toInt := congrArg Int32.toInt kpcP_S1.1
  have nxr_place_S1 : (f_xr_place S1).toInt = (f_xr_place S).toInt := congrArg Int32.toInt kpcP_S1.2.1
  have nxe_underWay_S1 : (f_xe_underWay S1).toInt = (f_xe_underWay S).toInt := congrArg Int32.toInt kpcU_S1
  have nxp_columns_S1 : (f_xp_columns S1).toInt = (f_xp_columns S).toInt := congrArg Int32.toInt kpcW_S1.1
  have nxp_rows_S1 : (f_xp_rows S1).toInt = (f_xp_rows S).toInt := congrArg Int32.toInt kpcW_S1.2
  have rrv4 := zt_rng rv4
  exact j_iret F hr hlocks hK hS S1 ⟨⟨i_vst, i_vc0, i_vc1, i_vc2, i_vc3, i_vv0, i_vv1, i_vv2, i_vv3, i_vg, i_wct, i_wln, i_sd0, i_sd1, i_sd2, i_sd3, i_rln, i_rtx, i_rpl, i_rtk, i_cnv, i_pts, i_cik, i_und⟩, kScL_S1, kScP_S1, kScU_S1, kScW_S1⟩ hP hD d_Row_pushFrom_19
theorem d_Row_drop_0 : decode prog_8_method_8_code 0 = .ok (.aload_n 0, 1) := by decide +kernel
theorem d_Row_drop_1 : decode prog_8_method_8_code 1 = .ok (.iconst 0, 1) := by decide +kernel
theorem d_Row_drop_2 : decode prog_8_method_8_code 2 = .ok (.aload_n 0, 1) := by decide +kernel
theorem d_Row_drop_3 : decode prog_8_method_8_code 3 = .ok (.getfield 9, 3) := by decide +kernel
theorem d_Row_drop_6 : decode prog_8_method_8_code 6 = .ok (.iload_n 1, 1) := by decide +kernel
theorem d_Row_drop_7 : decode prog_8_method_8_code 7 = .ok (.isub, 1) := by decide +kernel
theorem d_Row_drop_8 : decode prog_8_method_8_code 8 = .ok (.invokestatic 41, 3) := by decide +kernel
theorem k_3_218 : Cond.code ⟨"java/lang/Math", "max", "(II)I"⟩ prog_22_method_65_code 2 (some .int) ∈ gw := gw_of (tb_3 (List.mem_of_getElem? (i := 218) (by decide +kernel))) (by decide +kernel)
theorem k_1_21 : Cond.initialized "java/lang/Math" ∈ gw := gw_of (tb_1 (List.mem_of_getElem? (i := 21) (by decide +kernel))) (by decide +kernel)
theorem k_4_48 : Cond.methodLink "PageScribe$Row" 41 ⟨"java/lang/Math", "max", "(II)I"⟩ ∈ gw := gw_of (tb_4 (List.mem_of_getElem? (i := 48) (by decide +kernel))) (by decide +kernel)
theorem k_3_217 : Cond.static ⟨"java/lang/Math", "max", "(II)I"⟩ ∈ gw := gw_of (tb_3 (List.mem_of_getElem? (i := 217) (by decide +kernel))) (by decide +kernel)
theorem d_Row_drop_11 : decode prog_8_method_8_code 11 = .ok (.putfield 9, 3) := by decide +kernel
theorem d_Row_drop_14 : decode prog_8_method_8_code 14 = .ok (.return_, 1) := by decide +kernel
set_option maxHeartbeats 4000000 in
set_option maxRecDepth 100000 in
theorem c_Row_drop (l : Launch) (D : va_G) (T : Nat → ClassId) (ad : Nat → Nat) (S : CS) (p0 : Int32) (sz : Nat)  (hI : CIv S) : Met l ⟨"PageScribe$Row", "drop", "(I)V"⟩ (wy ⟨"PageScribe$Row", "drop", "(I)V"⟩ prog_8_method_8_code 2 none) ({ frames := 1, cells := 0, slots := 0, locals := 70 }) (va_Pc [.ref (ad 1), .int p0] (Pw D T (cW T ad S) sz E0)) (va_Qv (fun (u : CS) => CIv u ∧ kcL S u ∧ kcP S u ∧ kcU S u ∧ kcW S u) (fun u t => Bw D T (va_A (cW T ad S) sz) (cW T ad u) t) (va_A (cW T ad S) sz)) 0 0 (va_A (cW T ad S) sz) := by
  refine j_met (y := ⟨"PageScribe$Row", "drop", "(I)V"⟩) (b := prog_8_method_8_code) (n := 2) (ret := none) (av := [.ref (ad 1), .int p0]) (Qc := fun A => va_Qv (fun (u : CS) => CIv u ∧ kcL S u ∧ kcP S u ∧ kcU S u ∧ kcW S u) (fun u t => Bw D T A (cW T ad u) t) A) (by decide +kernel) (Nat.le_of_ble_eq_true rfl) (fun p e s m args below meth c A ls F hr hlocks hnm hK hP hD hS hA hN hE hl => ?_)
  obtain ⟨hx, hb, hml, hown, hts⟩ := id F
  have hl : lv_has ls 2 [(0, .ref (ad 1)), (1, .int p0)] := hl
  obtain ⟨i_vst, i_vc0, i_vc1, i_vc2, i_vc3, i_vv0, i_vv1, i_vv2, i_vv3, i_vg, i_wct, i_wln, i_sd0, i_sd1, i_sd2, i_sd3, i_rln, i_rtx, i_rpl, i_rtk, i_cnv, i_pts, i_cik, i_und⟩ := id hI
  have rp0 := zt_rng p0
  refine lv_aload_n hx hb d_Row_drop_0 rfl (lv_at hl 0 rfl) ?_
  refine lv_iconst (v := 0) hx hb d_Row_drop_1 (by decide) ?_
  refine lv_aload_n hx hb d_Row_drop_2 rfl (lv_at hl 0 rfl) ?_
  refine va_get (D := D) (ci := 0) (v := .int (f_xst_z S)) (C := "PageScribe$Stack") (T := F_Stack) (N := 4) hx hb hts i_Stack hown hK hP 1 (ce_1 _ _ _) cl_0 3 (by decide) (hts _ k_1_49) (fun _ h9 => h9) rfl d_Row_drop_3 ?_
  refine lv_iload_n hx hb d_Row_drop_6 rfl (lv_at hl 1 rfl) ?_
  refine lv_isub hx hb d_Row_drop_7 ?_
  refine lv_topi (fun x1 ex1 => ?_)
  have rx1 := zt_rng x1
  refine j_ci (wc := []) (wr := (cW T ad S)) hK hP hD hS hA [] csc rfl csc_all csc_nd (fun _ _ => List.not_mem_nil) (va_runS (As := [.int 0, .int x1]) (rest := [.ref (ad 1)]) F (c_Math_max l D T (0 : Int32) x1  s.heap.size) (j_cS (k := 2) hts k_3_218 k_1_21 k_4_48 k_3_217 (by decide +kernel) ⟨Nat.le_of_ble_eq_true rfl, Nat.le_of_ble_eq_true rfl⟩) (j_preS hK hP hD [] rfl (by decide) (fun _ _ _ _ h => h) (fun _ _ _ => trivial)) rfl rfl hl.1 rfl (lv_room (Nat.le_of_ble_eq_true rfl)) d_Row_drop_8 ⟨Nat.le_of_ble_eq_true rfl, Nat.le_of_ble_eq_true rfl⟩) (fun rv1 u1 H locs hw1 hP hD hS => ?_)
  have hP : va_P D classes (cW T ad S) H := hP
  have hD : va_D A (cW T ad S) := hD
  have qhw1 : 0 ≤ rv1.toInt ∧ x1.toInt ≤ rv1.toInt ∧ (rv1.toInt = 0 ∨ rv1.toInt = x1.toInt) := by simpa only [tI_0] using hw1
  have rrv1 := zt_rng rv1
  refine va_put (D := D) (ci := 0) (v := .int rv1) (ty := .int) (C := "PageScribe$Stack") (T := F_Stack) (N := 4) hx hb hts i_Stack t_Stack t_Stack_ok n_Stack hown hK hP hD hS 1 (ce_1 _ _ _) cl_0 3 (by decide) (hts _ k_1_49) (fun _ h9 => h9) rfl (by decide +kernel) rfl rfl (Nat.le_of_ble_eq_true rfl) d_Row_drop_11 (fun H locs hP hD hS => ?_)
  rw [cp_xst_z] at hP hD
  have hP : va_P D classes (cW T ad ((((a_xst_k S), (a_xst_n S), (a_xst_r S), rv1, (a_xw_letters S), (a_xw_lengths S), (f_xw_count S)), S.2.1, S.2.2.1, S.2.2.2.1, S.2.2.2.2.1, S.2.2.2.2.2.1, S.2.2.2.2.2.2.1, S.2.2.2.2.2.2.2.1, S.2.2.2.2.2.2.2.2) : CS)) H := hP
  have hD : va_D A (cW T ad ((((a_xst_k S), (a_xst_n S), (a_xst_r S), rv1, (a_xw_letters S), (a_xw_lengths S), (f_xw_count S)), S.2.1, S.2.2.1, S.2.2.2.1, S.2.2.2.2.1, S.2.2.2.2.2.1, S.2.2.2.2.2.2.1, S.2.2.2.2.2.2.2.1, S.2.2.2.2.2.2.2.2) : CS)) := hD
  exact j_vret F hr hlocks hK hS ((((a_xst_k S), (a_xst_n S), (a_xst_r S), rv1, (a_xw_letters S), (a_xw_lengths S), (f_xw_count S)), S.2.1, S.2.2.1, S.2.2.2.1, S.2.2.2.2.1, S.2.2.2.2.2.1, S.2.2.2.2.2.2.1, S.2.2.2.2.2.2.2.1, S.2.2.2.2.2.2.2.2) : CS) ⟨⟨i_vst, i_vc0, i_vc1, i_vc2, i_vc3, i_vv0, i_vv1, i_vv2, i_vv3, i_vg, i_wct, i_wln, i_sd0, i_sd1, i_sd2, i_sd3, i_rln, i_rtx, i_rpl, i_rtk, i_cnv, i_pts, i_cik, i_und⟩, (kcL_r S), (kcP_r S), (kcU_r S), (kcW_r S)⟩ hP hD d_Row_drop_14
