section JO
variable {p : Program} {l : Launch} {e : Env} {R : Room} {s : State} {H : Heap} {locs : List Loc} {A : Nat → Prop} {D : va_G} {T : Nat → ClassId} {ws : va_W}
theorem jc_preO {C : String} {b : Nat} {av : List Value} {E : State → Prop} (h : PreS s H (va_Pc (.ref b :: av) E) (.ref b :: av)) (ho : va_O C b A s s.heap) (hS : va_S A s.heap H locs) : PreV s H C b (va_Pc (.ref b :: av) E) av := by
  obtain ⟨cell, h1, h2, h3, -⟩ := ho.kept hS.2.1
  exact ⟨h.1, ⟨cell, h1, h2, h3⟩, h.2⟩
end JO
theorem zt_shr0 {x y : Int32} (e : y = x >>> ((0 : Int32) &&& 31)) : y.toInt = x.toInt := by
  rw [e, show ((0 : Int32) &&& 31) = 0 by decide +kernel, Int32.shiftRight_zero]
theorem zt_ci {x y : Int32} (e : y = (x.toUInt32 % 65536).toInt32) : 0 ≤ y.toInt ∧ y.toInt ≤ 65535 := by
  have hq : (x.toUInt32 % 65536).toNat < 65536 := by
    rw [UInt32.toNat_mod]
    exact Nat.mod_lt _ (by decide)
  have e2 : y = nI (x.toUInt32 % 65536).toNat := by
    rw [e]
    apply Int32.toBitVec_inj.mp
    apply BitVec.eq_of_toNat_eq
    show (x.toUInt32 % 65536).toNat = (x.toUInt32 % 65536).toNat % 2 ^ 32
    rw [Nat.mod_eq_of_lt (by omega)]
  rw [e2, nI_toInt (by omega)]
  omega
theorem zt_chB {x : Int32} (h : 0 ≤ x.toInt ∧ x.toInt ≤ 65535) : narrow .char (.int x) = .int x := by
  have e : x = nI x.toInt.toNat := Int32.toInt_inj.mp (by rw [nI_toInt (by omega)]; omega)
  rw [e]
  exact (pk_charN (by omega)).1
theorem d_java_lang_Enum_ordinal_0 : decode prog_17_method_2_code 0 = .ok (.aload_n 0, 1) := by decide +kernel
theorem d_java_lang_Enum_ordinal_1 : decode prog_17_method_2_code 1 = .ok (.getfield 7, 3) := by decide +kernel
theorem k_8_189 : Cond.fieldLink "java/lang/Enum" 7 "java/lang/Enum" "ordinal" "I" ∈ gw := gw_of (tb_8 (List.mem_of_getElem? (i := 189) (by decide +kernel))) (by decide +kernel)
theorem d_java_lang_Enum_ordinal_4 : decode prog_17_method_2_code 4 = .ok (.ireturn, 1) := by decide +kernel
set_option maxHeartbeats 4000000 in
set_option maxRecDepth 100000 in
theorem c_Enum_ordinal (l : Launch) (D : va_G) (T : Nat → ClassId) (ad : Nat → Nat) (g : GE) (Bq : Nat → Prop) (S : CS) (ix : Nat) (sz : Nat) (hix : ix < 72) : Met l ⟨"java/lang/Enum", "ordinal", "()I"⟩ (wy ⟨"java/lang/Enum", "ordinal", "()I"⟩ prog_17_method_2_code 1 (some .int)) ({ frames := 0, cells := 0, slots := 0, locals := 0 }) (va_Pc [.ref (g_en g ix)] (Pw D T (cW T ad S) sz (EC g Bq ad))) (va_Qi (fun (r : Int32) (u : Unit) => r.toInt = (ix : Int)) (fun u t => Bw D T (va_A (cW T ad S) sz) (cW T ad S) t) (va_A (cW T ad S) sz)) 0 0 (va_A (cW T ad S) sz) := by
  refine j_met (y := ⟨"java/lang/Enum", "ordinal", "()I"⟩) (b := prog_17_method_2_code) (n := 1) (ret := (some .int)) (av := [.ref (g_en g ix)]) (Qc := fun A => va_Qi (fun (r : Int32) (u : Unit) => r.toInt = (ix : Int)) (fun u t => Bw D T A (cW T ad S) t) A) (by decide +kernel) (Nat.le_of_ble_eq_true rfl) (fun p e s m args below meth c A ls F hr hlocks hnm hK hP hD hS hA hN hE hl => ?_)
  obtain ⟨hx, hb, hml, hown, hts⟩ := id F
  have hl : lv_has ls 1 [(0, .ref (g_en g ix))] := hl
  have hAB : ∀ q, A q → Bq q := EC.ab hE hN
  have hEV := hE.1.narrow hAB
  refine lv_aload_n hx hb d_java_lang_Enum_ordinal_0 rfl (lv_at hl 0 rfl) ?_
  refine vk_getf hx hb (hEV.1 ix hix).2.1 hS hown (hts _ k_8_189) (fun _ h9 => h9) d_java_lang_Enum_ordinal_1 ?_
  refine lv_topi (fun x1 ex1 => ?_)
  have fx1 : x1.toInt = ix := by rw [ex1]; exact nI_toInt (Nat.lt_trans hix (by decide))
  exact j_iret F hr hlocks hK hS () (show x1.toInt = (ix : Int) by omega) hP hD d_java_lang_Enum_ordinal_4
theorem d_java_lang_String_isLatin1_0 : decode prog_24_method_154_code 0 = .ok (.getstatic 38, 3) := by decide +kernel
theorem k_2_155 : Cond.fieldLink "java/lang/String" 38 "java/lang/String" "COMPACT_STRINGS" "Z" ∈ gw := gw_of (tb_2 (List.mem_of_getElem? (i := 155) (by decide +kernel))) (by decide +kernel)
theorem d_java_lang_String_isLatin1_3 : decode prog_24_method_154_code 3 = .ok (.ifCond .eq 14, 3) := by decide +kernel
theorem d_java_lang_String_isLatin1_6 : decode prog_24_method_154_code 6 = .ok (.aload_n 0, 1) := by decide +kernel
theorem d_java_lang_String_isLatin1_7 : decode prog_24_method_154_code 7 = .ok (.getfield 15, 3) := by decide +kernel
theorem k_8_186 : Cond.fieldLink "java/lang/String" 15 "java/lang/String" "coder" "B" ∈ gw := gw_of (tb_8 (List.mem_of_getElem? (i := 186) (by decide +kernel))) (by decide +kernel)
theorem d_java_lang_String_isLatin1_10 : decode prog_24_method_154_code 10 = .ok (.ifCond .ne 7, 3) := by decide +kernel
theorem d_java_lang_String_isLatin1_13 : decode prog_24_method_154_code 13 = .ok (.iconst 1, 1) := by decide +kernel
theorem d_java_lang_String_isLatin1_14 : decode prog_24_method_154_code 14 = .ok (.goto 4, 3) := by decide +kernel
theorem d_java_lang_String_isLatin1_18 : decode prog_24_method_154_code 18 = .ok (.ireturn, 1) := by decide +kernel
set_option maxHeartbeats 4000000 in
set_option maxRecDepth 100000 in
theorem c_String_isLatin1 (l : Launch) (D : va_G) (T : Nat → ClassId) (ad : Nat → Nat) (g : GE) (Bq : Nat → Prop) (S : CS) (ix : Nat) (sz : Nat) (hix : ix < 97) : Met l ⟨"java/lang/String", "isLatin1", "()Z"⟩ (wy ⟨"java/lang/String", "isLatin1", "()Z"⟩ prog_24_method_154_code 1 (some .boolean)) ({ frames := 0, cells := 0, slots := 0, locals := 0 }) (va_Pc [.ref (g_K g ix)] (Pw D T (cW T ad S) sz (EC g Bq ad))) (va_Qi (fun (r : Int32) (u : Unit) => r.toInt = 1) (fun u t => Bw D T (va_A (cW T ad S) sz) (cW T ad S) t) (va_A (cW T ad S) sz)) 0 0 (va_A (cW T ad S) sz) := by
  refine j_met (y := ⟨"java/lang/String", "isLatin1", "()Z"⟩) (b := prog_24_method_154_code) (n := 1) (ret := (some .boolean)) (av := [.ref (g_K g ix)]) (Qc := fun A => va_Qi (fun (r : Int32) (u : Unit) => r.toInt = 1) (fun u t => Bw D T A (cW T ad S) t) A) (by decide +kernel) (Nat.le_of_ble_eq_true rfl) (fun p e s m args below meth c A ls F hr hlocks hnm hK hP hD hS hA hN hE hl => ?_)
  obtain ⟨hx, hb, hml, hown, hts⟩ := id F
  have hl : lv_has ls 1 [(0, .ref (g_K g ix))] := hl
  have hAB : ∀ q, A q → Bq q := EC.ab hE hN
  have hEV := hE.1.narrow hAB
  refine va_gets hx hb hEV.2.2.2.1.1 hS hown (hts _ k_2_155) (fun _ h9 => h9) d_java_lang_String_isLatin1_0 ?_
  refine lv_if_eq (tgt := 17) hx hb d_java_lang_String_isLatin1_3 (by decide) (fun c9 => absurd c9 (by decide +kernel)) (fun _ => ?_)
  refine lv_aload_n hx hb d_java_lang_String_isLatin1_6 rfl (lv_at hl 0 rfl) ?_
  refine vk_getf hx hb (hEV.2.2.2.2.1.1 ix hix).2.1 hS hown (hts _ k_8_186) (fun _ h9 => h9) d_java_lang_String_isLatin1_7 ?_
  refine lv_if_ne (tgt := 17) hx hb d_java_lang_String_isLatin1_10 (by decide) (fun c9 => absurd c9 (by decide +kernel)) (fun _ => ?_)
  refine lv_iconst (v := 1) hx hb d_java_lang_String_isLatin1_13 (by decide) ?_
  refine lv_goto (tgt := 18) hx hb d_java_lang_String_isLatin1_14 (by decide) ?_
  exact j_zret F hr (by decide +kernel) hlocks hK hS () (show (1 : Int32).toInt = 1 by have := tI_1; omega) hP hD d_java_lang_String_isLatin1_18
theorem d_java_lang_String_coder_0 : decode prog_24_method_152_code 0 = .ok (.getstatic 38, 3) := by decide +kernel
theorem d_java_lang_String_coder_3 : decode prog_24_method_152_code 3 = .ok (.ifCond .eq 10, 3) := by decide +kernel
theorem d_java_lang_String_coder_6 : decode prog_24_method_152_code 6 = .ok (.aload_n 0, 1) := by decide +kernel
theorem d_java_lang_String_coder_7 : decode prog_24_method_152_code 7 = .ok (.getfield 15, 3) := by decide +kernel
theorem d_java_lang_String_coder_10 : decode prog_24_method_152_code 10 = .ok (.goto 4, 3) := by decide +kernel
theorem d_java_lang_String_coder_14 : decode prog_24_method_152_code 14 = .ok (.ireturn, 1) := by decide +kernel
set_option maxHeartbeats 4000000 in
set_option maxRecDepth 100000 in
theorem c_String_coder (l : Launch) (D : va_G) (T : Nat → ClassId) (ad : Nat → Nat) (g : GE) (Bq : Nat → Prop) (S : CS) (ix : Nat) (sz : Nat) (hix : ix < 97) : Met l ⟨"java/lang/String", "coder", "()B"⟩ (wy ⟨"java/lang/String", "coder", "()B"⟩ prog_24_method_152_code 1 (some .byte)) ({ frames := 0, cells := 0, slots := 0, locals := 0 }) (va_Pc [.ref (g_K g ix)] (Pw D T (cW T ad S) sz (EC g Bq ad))) (va_Qi (fun (r : Int32) (u : Unit) => r = 0) (fun u t => Bw D T (va_A (cW T ad S) sz) (cW T ad S) t) (va_A (cW T ad S) sz)) 0 0 (va_A (cW T ad S) sz) := by
  refine j_met (y := ⟨"java/lang/String", "coder", "()B"⟩) (b := prog_24_method_152_code) (n := 1) (ret := (some .byte)) (av := [.ref (g_K g ix)]) (Qc := fun A => va_Qi (fun (r : Int32) (u : Unit) => r = 0) (fun u t => Bw D T A (cW T ad S) t) A) (by decide +kernel) (Nat.le_of_ble_eq_true rfl) (fun p e s m args below meth c A ls F hr hlocks hnm hK hP hD hS hA hN hE hl => ?_)
  obtain ⟨hx, hb, hml, hown, hts⟩ := id F
  have hl : lv_has ls 1 [(0, .ref (g_K g ix))] := hl
  have hAB : ∀ q, A q → Bq q := EC.ab hE hN
  have hEV := hE.1.narrow hAB
  refine va_gets hx hb hEV.2.2.2.1.1 hS hown (hts _ k_2_155) (fun _ h9 => h9) d_java_lang_String_coder_0 ?_
  refine lv_if_eq (tgt := 13) hx hb d_java_lang_String_coder_3 (by decide) (fun c9 => absurd c9 (by decide +kernel)) (fun _ => ?_)
  refine lv_aload_n hx hb d_java_lang_String_coder_6 rfl (lv_at hl 0 rfl) ?_
  refine vk_getf hx hb (hEV.2.2.2.2.1.1 ix hix).2.1 hS hown (hts _ k_8_186) (fun _ h9 => h9) d_java_lang_String_coder_7 ?_
  refine lv_goto (tgt := 14) hx hb d_java_lang_String_coder_10 (by decide) ?_
  exact j_zret F hr (by decide +kernel) hlocks hK hS () (show (0 : Int32) = 0 by have := tI_0; rfl) hP hD d_java_lang_String_coder_14
theorem d_java_lang_String_length_0 : decode prog_24_method_54_code 0 = .ok (.aload_n 0, 1) := by decide +kernel
theorem d_java_lang_String_length_1 : decode prog_24_method_54_code 1 = .ok (.getfield 9, 3) := by decide +kernel
theorem k_8_185 : Cond.fieldLink "java/lang/String" 9 "java/lang/String" "value" "[B" ∈ gw := gw_of (tb_8 (List.mem_of_getElem? (i := 185) (by decide +kernel))) (by decide +kernel)
theorem d_java_lang_String_length_4 : decode prog_24_method_54_code 4 = .ok (.arraylength, 1) := by decide +kernel
theorem d_java_lang_String_length_5 : decode prog_24_method_54_code 5 = .ok (.aload_n 0, 1) := by decide +kernel
theorem d_java_lang_String_length_6 : decode prog_24_method_54_code 6 = .ok (.invokevirtual 335, 3) := by decide +kernel
theorem k_2_154 : Cond.code ⟨"java/lang/String", "coder", "()B"⟩ prog_24_method_152_code 1 (some .byte) ∈ gw := gw_of (tb_2 (List.mem_of_getElem? (i := 154) (by decide +kernel))) (by decide +kernel)
theorem k_1_17 : Cond.initialized "java/lang/String" ∈ gw := gw_of (tb_1 (List.mem_of_getElem? (i := 17) (by decide +kernel))) (by decide +kernel)
theorem k_2_151 : Cond.methodLink "java/lang/String" 335 ⟨"java/lang/String", "coder", "()B"⟩ ∈ gw := gw_of (tb_2 (List.mem_of_getElem? (i := 151) (by decide +kernel))) (by decide +kernel)
theorem k_2_152 : Cond.instanceMethod ⟨"java/lang/String", "coder", "()B"⟩ ∈ gw := gw_of (tb_2 (List.mem_of_getElem? (i := 152) (by decide +kernel))) (by decide +kernel)
theorem k_2_153 : Cond.selects "java/lang/String" ⟨"java/lang/String", "coder", "()B"⟩ ⟨"java/lang/String", "coder", "()B"⟩ ∈ gw := gw_of (tb_2 (List.mem_of_getElem? (i := 153) (by decide +kernel))) (by decide +kernel)
theorem d_java_lang_String_length_9 : decode prog_24_method_54_code 9 = .ok (.ishr, 1) := by decide +kernel
theorem d_java_lang_String_length_10 : decode prog_24_method_54_code 10 = .ok (.ireturn, 1) := by decide +kernel
set_option maxHeartbeats 4000000 in
set_option maxRecDepth 100000 in
theorem c_String_length (l : Launch) (D : va_G) (T : Nat → ClassId) (ad : Nat → Nat) (g : GE) (Bq : Nat → Prop) (S : CS) (ix : Nat) (sz : Nat) (hix : ix < 97) : Met l ⟨"java/lang/String", "length", "()I"⟩ (wy ⟨"java/lang/String", "length", "()I"⟩ prog_24_method_54_code 1 (some .int)) ({ frames := 1, cells := 0, slots := 0, locals := 70 }) (va_Pc [.ref (g_K g ix)] (Pw D T (cW T ad S) sz (EC g Bq ad))) (va_Qi (fun (r : Int32) (u : Unit) => r.toInt = ((txL.getD ix 0 : Nat) : Int)) (fun u t => Bw D T (va_A (cW T ad S) sz) (cW T ad S) t) (va_A (cW T ad S) sz)) 0 0 (va_A (cW T ad S) sz) := by
  refine j_met (y := ⟨"java/lang/String", "length", "()I"⟩) (b := prog_24_method_54_code) (n := 1) (ret := (some .int)) (av := [.ref (g_K g ix)]) (Qc := fun A => va_Qi (fun (r : Int32) (u : Unit) => r.toInt = ((txL.getD ix 0 : Nat) : Int)) (fun u t => Bw D T A (cW T ad S) t) A) (by decide +kernel) (Nat.le_of_ble_eq_true rfl) (fun p e s m args below meth c A ls F hr hlocks hnm hK hP hD hS hA hN hE hl => ?_)
  obtain ⟨hx, hb, hml, hown, hts⟩ := id F
  have hl : lv_has ls 1 [(0, .ref (g_K g ix))] := hl
  have hAB : ∀ q, A q → Bq q := EC.ab hE hN
  have hEV := hE.1.narrow hAB
  refine lv_aload_n hx hb d_java_lang_String_length_0 rfl (lv_at hl 0 rfl) ?_
  refine vk_getf hx hb (hEV.2.2.2.2.1.1 ix hix).2.2.1 hS hown (hts _ k_8_185) (fun _ h9 => h9) d_java_lang_String_length_1 ?_
  refine va_tlen hx hb (hEV.2.2.2.2.1.1 ix hix).2.2.2 hS (v := nI (txL.getD ix 0)) rfl d_java_lang_String_length_4 ?_
  refine lv_topi (fun x1 ex1 => ?_)
  have fx1 : x1.toInt = ((txL.getD ix 0 : Nat) : Int) := by rw [ex1]; exact nI_toInt (Nat.lt_of_le_of_lt (tx_le ix) (by decide))
  have kx1 := tx_le ix
  refine lv_aload_n hx hb d_java_lang_String_length_5 rfl (lv_at hl 0 rfl) ?_
  refine jc_ci (w := (fun _ => S)) hK hP hD hS hA (va_runV (As := []) (rest := [.int x1]) F (c_String_coder l D T ad g Bq S ix  s.heap.size hix) (j_cV (k := 0) (C := "java/lang/String") hts k_2_154 k_1_17 k_2_151 k_2_152 k_2_153 (by decide +kernel) ⟨Nat.le_of_ble_eq_true rfl, Nat.le_of_ble_eq_true rfl⟩) (jc_preO (j_preS hK hP hD csc csc_all csc_nd (fun _ _ _ _ h => EC.calling h) (fun U hU hW => EC.at hS hAB hU hW hE)) (hEV.2.2.2.2.1.1 _ hix).1 hS) rfl rfl hl.1 rfl (lv_room (Nat.le_of_ble_eq_true rfl)) d_java_lang_String_length_6 ⟨Nat.le_of_ble_eq_true rfl, Nat.le_of_ble_eq_true rfl⟩) (fun rv1 u1 H locs hw1 hP hD hS => ?_)
  have hP : va_P D classes (cW T ad S) H := hP
  have hD : va_D A (cW T ad S) := hD
  have qhw1 : rv1 = 0 := hw1
  have rrv1 := zt_rng rv1
  refine j_eqi (y := 0) qhw1 ?_
  refine lv_ishr hx hb d_java_lang_String_length_9 ?_
  refine lv_topi (fun x2 ex2 => ?_)
  have wx2 := zt_rng x2
  have f9 := zt_shr0 ex2
  exact j_iret F hr hlocks hK hS () (show x2.toInt = ((txL.getD ix 0 : Nat) : Int) by omega) hP hD d_java_lang_String_length_10
theorem d_jdk_internal_util_Preconditions_checkIndex_0 : decode prog_29_method_11_code 0 = .ok (.iload_n 0, 1) := by decide +kernel
theorem d_jdk_internal_util_Preconditions_checkIndex_1 : decode prog_29_method_11_code 1 = .ok (.ifCond .lt 8, 3) := by decide +kernel
theorem d_jdk_internal_util_Preconditions_checkIndex_4 : decode prog_29_method_11_code 4 = .ok (.iload_n 0, 1) := by decide +kernel
theorem d_jdk_internal_util_Preconditions_checkIndex_5 : decode prog_29_method_11_code 5 = .ok (.iload_n 1, 1) := by decide +kernel
theorem d_jdk_internal_util_Preconditions_checkIndex_6 : decode prog_29_method_11_code 6 = .ok (.if_icmp .lt 10, 3) := by decide +kernel
theorem d_jdk_internal_util_Preconditions_checkIndex_16 : decode prog_29_method_11_code 16 = .ok (.iload_n 0, 1) := by decide +kernel
theorem d_jdk_internal_util_Preconditions_checkIndex_17 : decode prog_29_method_11_code 17 = .ok (.ireturn, 1) := by decide +kernel
set_option maxHeartbeats 4000000 in
set_option maxRecDepth 100000 in
theorem c_Pre_checkIndex_n (l : Launch) (D : va_G) (T : Nat → ClassId) (ad : Nat → Nat) (g : GE) (Bq : Nat → Prop) (S : CS) (p0 : Int32) (p1 : Int32) (sz : Nat)  (h1 : 0 ≤ p0.toInt ∧ p0.toInt < p1.toInt) : Met l ⟨"jdk/internal/util/Preconditions", "checkIndex", "(IILjava/util/function/BiFunction;)I"⟩ (wy ⟨"jdk/internal/util/Preconditions", "checkIndex", "(IILjava/util/function/BiFunction;)I"⟩ prog_29_method_11_code 3 (some .int)) ({ frames := 0, cells := 0, slots := 0, locals := 0 }) (va_Pc [.int p0, .int p1, .null] (Pw D T (cW T ad S) sz (EC g Bq ad))) (va_Qi (fun (r : Int32) (u : Unit) => True) (fun u t => Bw D T (va_A (cW T ad S) sz) (cW T ad S) t) (va_A (cW T ad S) sz)) 0 0 (va_A (cW T ad S) sz) := by
  refine j_met (y := ⟨"jdk/internal/util/Preconditions", "checkIndex", "(IILjava/util/function/BiFunction;)I"⟩) (b := prog_29_method_11_code) (n := 3) (ret := (some .int)) (av := [.int p0, .int p1, .null]) (Qc := fun A => va_Qi (fun (r : Int32) (u : Unit) => True) (fun u t => Bw D T A (cW T ad S) t) A) (by decide +kernel) (Nat.le_of_ble_eq_true rfl) (fun p e s m args below meth c A ls F hr hlocks hnm hK hP hD hS hA hN hE hl => ?_)
  obtain ⟨hx, hb, hml, hown, hts⟩ := id F
  have hl : lv_has ls 3 [(0, .int p0), (1, .int p1), (2, .null)] := hl
  have hAB : ∀ q, A q → Bq q := EC.ab hE hN
  have hEV := hE.1.narrow hAB
  have rp0 := zt_rng p0
  have rp1 := zt_rng p1
  refine lv_iload_n hx hb d_jdk_internal_util_Preconditions_checkIndex_0 rfl (lv_at hl 0 rfl) ?_
  refine lv_if_lt (tgt := 9) hx hb d_jdk_internal_util_Preconditions_checkIndex_1 (by decide) (fun c1_1 => ?_) (fun c1_1 => ?_)
  · have fc1_1 : p0.toInt < 0 := zt_lt (show p0.toInt = _ from rfl) tI_0 c1_1
    exfalso; omega
  · have fc1_1 : 0 ≤ p0.toInt := Int.not_lt.mp (zt_nlt (show p0.toInt = _ from rfl) tI_0 c1_1)
    refine lv_iload_n hx hb d_jdk_internal_util_Preconditions_checkIndex_4 rfl (lv_at hl 0 rfl) ?_
    refine lv_iload_n hx hb d_jdk_internal_util_Preconditions_checkIndex_5 rfl (lv_at hl 1 rfl) ?_
    refine lv_icmp_lt (tgt := 16) hx hb d_jdk_internal_util_Preconditions_checkIndex_6 (by decide) (fun c6_1 => ?_) (fun c6_1 => ?_)
    · have fc6_1 : p0.toInt < p1.toInt := zt_lt (show p0.toInt = _ from rfl) (show p1.toInt = _ from rfl) c6_1
      refine lv_iload_n hx hb d_jdk_internal_util_Preconditions_checkIndex_16 rfl (lv_at hl 0 rfl) ?_
      exact j_iret F hr hlocks hK hS () trivial hP hD d_jdk_internal_util_Preconditions_checkIndex_17
    · have fc6_1 : p1.toInt ≤ p0.toInt := Int.not_lt.mp (zt_nlt (show p0.toInt = _ from rfl) (show p1.toInt = _ from rfl) c6_1)
      exfalso; omega
set_option maxHeartbeats 4000000 in
set_option maxRecDepth 100000 in
theorem c_Pre_checkIndex_r (l : Launch) (D : va_G) (T : Nat → ClassId) (ad : Nat → Nat) (g : GE) (Bq : Nat → Prop) (S : CS) (p0 : Int32) (p1 : Int32) (f : Nat) (sz : Nat)  (h1 : 0 ≤ p0.toInt ∧ p0.toInt < p1.toInt) : Met l ⟨"jdk/internal/util/Preconditions", "checkIndex", "(IILjava/util/function/BiFunction;)I"⟩ (wy ⟨"jdk/internal/util/Preconditions", "checkIndex", "(IILjava/util/function/BiFunction;)I"⟩ prog_29_method_11_code 3 (some .int)) ({ frames := 0, cells := 0, slots := 0, locals := 0 }) (va_Pc [.int p0, .int p1, .ref f] (Pw D T (cW T ad S) sz (EC g Bq ad))) (va_Qi (fun (r : Int32) (u : Unit) => True) (fun u t => Bw D T (va_A (cW T ad S) sz) (cW T ad S) t) (va_A (cW T ad S) sz)) 0 0 (va_A (cW T ad S) sz) := by
  refine j_met (y := ⟨"jdk/internal/util/Preconditions", "checkIndex", "(IILjava/util/function/BiFunction;)I"⟩) (b := prog_29_method_11_code) (n := 3) (ret := (some .int)) (av := [.int p0, .int p1, .ref f]) (Qc := fun A => va_Qi (fun (r : Int32) (u : Unit) => True) (fun u t => Bw D T A (cW T ad S) t) A) (by decide +kernel) (Nat.le_of_ble_eq_true rfl) (fun p e s m args below meth c A ls F hr hlocks hnm hK hP hD hS hA hN hE hl => ?_)
  obtain ⟨hx, hb, hml, hown, hts⟩ := id F
  have hl : lv_has ls 3 [(0, .int p0), (1, .int p1), (2, .ref f)] := hl
  have hAB : ∀ q, A q → Bq q := EC.ab hE hN
  have hEV := hE.1.narrow hAB
  have rp0 := zt_rng p0
  have rp1 := zt_rng p1
  refine lv_iload_n hx hb d_jdk_internal_util_Preconditions_checkIndex_0 rfl (lv_at hl 0 rfl) ?_
  refine lv_if_lt (tgt := 9) hx hb d_jdk_internal_util_Preconditions_checkIndex_1 (by decide) (fun c1_1 => ?_) (fun c1_1 => ?_)
  · have fc1_1 : p0.toInt < 0 := zt_lt (show p0.toInt = _ from rfl) tI_0 c1_1
    exfalso; omega
  · have fc1_1 : 0 ≤ p0.toInt := Int.not_lt.mp (zt_nlt (show p0.toInt = _ from rfl) tI_0 c1_1)
    refine lv_iload_n hx hb d_jdk_internal_util_Preconditions_checkIndex_4 rfl (lv_at hl 0 rfl) ?_
    refine lv_iload_n hx hb d_jdk_internal_util_Preconditions_checkIndex_5 rfl (lv_at hl 1 rfl) ?_
    refine lv_icmp_lt (tgt := 16) hx hb d_jdk_internal_util_Preconditions_checkIndex_6 (by decide) (fun c6_1 => ?_) (fun c6_1 => ?_)
    · have fc6_1 : p0.toInt < p1.toInt := zt_lt (show p0.toInt = _ from rfl) (show p1.toInt = _ from rfl) c6_1
      refine lv_iload_n hx hb d_jdk_internal_util_Preconditions_checkIndex_16 rfl (lv_at hl 0 rfl) ?_
      exact j_iret F hr hlocks hK hS () trivial hP hD d_jdk_internal_util_Preconditions_checkIndex_17
    · have fc6_1 : p1.toInt ≤ p0.toInt := Int.not_lt.mp (zt_nlt (show p0.toInt = _ from rfl) (show p1.toInt = _ from rfl) c6_1)
      exfalso; omega
theorem d_java_lang_String_checkIndex_0 : decode prog_24_method_155_code 0 = .ok (.iload_n 0, 1) := by decide +kernel
theorem d_java_lang_String_checkIndex_1 : decode prog_24_method_155_code 1 = .ok (.iload_n 1, 1) := by decide +kernel
theorem d_java_lang_String_checkIndex_2 : decode prog_24_method_155_code 2 = .ok (.getstatic 1053, 3) := by decide +kernel
theorem k_2_171 : Cond.fieldLink "java/lang/String" 1053 "jdk/internal/util/Preconditions" "SIOOBE_FORMATTER" "Ljava/util/function/BiFunction;" ∈ gw := gw_of (tb_2 (List.mem_of_getElem? (i := 171) (by decide +kernel))) (by decide +kernel)
theorem d_java_lang_String_checkIndex_5 : decode prog_24_method_155_code 5 = .ok (.invokestatic 1059, 3) := by decide +kernel
theorem k_2_175 : Cond.code ⟨"jdk/internal/util/Preconditions", "checkIndex", "(IILjava/util/function/BiFunction;)I"⟩ prog_29_method_11_code 3 (some .int) ∈ gw := gw_of (tb_2 (List.mem_of_getElem? (i := 175) (by decide +kernel))) (by decide +kernel)
theorem k_1_19 : Cond.initialized "jdk/internal/util/Preconditions" ∈ gw := gw_of (tb_1 (List.mem_of_getElem? (i := 19) (by decide +kernel))) (by decide +kernel)
theorem k_2_173 : Cond.methodLink "java/lang/String" 1059 ⟨"jdk/internal/util/Preconditions", "checkIndex", "(IILjava/util/function/BiFunction;)I"⟩ ∈ gw := gw_of (tb_2 (List.mem_of_getElem? (i := 173) (by decide +kernel))) (by decide +kernel)
theorem k_2_174 : Cond.static ⟨"jdk/internal/util/Preconditions", "checkIndex", "(IILjava/util/function/BiFunction;)I"⟩ ∈ gw := gw_of (tb_2 (List.mem_of_getElem? (i := 174) (by decide +kernel))) (by decide +kernel)
theorem d_java_lang_String_checkIndex_8 : decode prog_24_method_155_code 8 = .ok (.pop, 1) := by decide +kernel
theorem d_java_lang_String_checkIndex_9 : decode prog_24_method_155_code 9 = .ok (.return_, 1) := by decide +kernel
set_option maxHeartbeats 4000000 in
set_option maxRecDepth 100000 in
theorem c_String_checkIndex (l : Launch) (D : va_G) (T : Nat → ClassId) (ad : Nat → Nat) (g : GE) (Bq : Nat → Prop) (S : CS) (p0 : Int32) (p1 : Int32) (sz : Nat)  (h1 : 0 ≤ p0.toInt ∧ p0.toInt < p1.toInt) : Met l ⟨"java/lang/String", "checkIndex", "(II)V"⟩ (wy ⟨"java/lang/String", "checkIndex", "(II)V"⟩ prog_24_method_155_code 2 none) ({ frames := 1, cells := 0, slots := 0, locals := 70 }) (va_Pc [.int p0, .int p1] (Pw D T (cW T ad S) sz (EC g Bq ad))) (va_Qv (fun (u : Unit) => True) (fun u t => Bw D T (va_A (cW T ad S) sz) (cW T ad S) t) (va_A (cW T ad S) sz)) 0 0 (va_A (cW T ad S) sz) := by
  refine j_met (y := ⟨"java/lang/String", "checkIndex", "(II)V"⟩) (b := prog_24_method_155_code) (n := 2) (ret := none) (av := [.int p0, .int p1]) (Qc := fun A => va_Qv (fun (u : Unit) => True) (fun u t => Bw D T A (cW T ad S) t) A) (by decide +kernel) (Nat.le_of_ble_eq_true rfl) (fun p e s m args below meth c A ls F hr hlocks hnm hK hP hD hS hA hN hE hl => ?_)
  obtain ⟨hx, hb, hml, hown, hts⟩ := id F
  have hl : lv_has ls 2 [(0, .int p0), (1, .int p1)] := hl
  have hAB : ∀ q, A q → Bq q := EC.ab hE hN
  have hEV := hE.1.narrow hAB
  have rp0 := zt_rng p0
  have rp1 := zt_rng p1
  refine lv_iload_n hx hb d_java_lang_String_checkIndex_0 rfl (lv_at hl 0 rfl) ?_
  refine lv_iload_n hx hb d_java_lang_String_checkIndex_1 rfl (lv_at hl 1 rfl) ?_
  rcases hEV.2.2.2.1.2 with hZ9 | ⟨t9, hZ9⟩
  · refine va_gets hx hb hZ9 hS hown (hts _ k_2_171) (fun _ h9 => h9) d_java_lang_String_checkIndex_2 ?_
    refine jc_ci (w := (fun _ => S)) hK hP hD hS hA (va_runS (As := [.int p0, .int p1, .null]) (rest := []) F (c_Pre_checkIndex_n l D T ad g Bq S p0 p1  s.heap.size (show 0 ≤ p0.toInt ∧ p0.toInt < p1.toInt by omega)) (j_cS (k := 3) hts k_2_175 k_1_19 k_2_173 k_2_174 (by decide +kernel) ⟨Nat.le_of_ble_eq_true rfl, Nat.le_of_ble_eq_true rfl⟩) (j_preS hK hP hD csc csc_all csc_nd (fun _ _ _ _ h => EC.calling h) (fun U hU hW => EC.at hS hAB hU hW hE)) rfl rfl hl.1 rfl (lv_room (Nat.le_of_ble_eq_true rfl)) d_java_lang_String_checkIndex_5 ⟨Nat.le_of_ble_eq_true rfl, Nat.le_of_ble_eq_true rfl⟩) (fun rv1 u1 H locs hw1 hP hD hS => ?_)
    have hP : va_P D classes (cW T ad S) H := hP
    have hD : va_D A (cW T ad S) := hD
    have rrv1 := zt_rng rv1
    refine lv_pop hx hb d_java_lang_String_checkIndex_8 rfl ?_
    exact j_vret F hr hlocks hK hS () trivial hP hD d_java_lang_String_checkIndex_9
  · refine va_gets hx hb hZ9 hS hown (hts _ k_2_171) (fun _ h9 => h9) d_java_lang_String_checkIndex_2 ?_
    refine jc_ci (w := (fun _ => S)) hK hP hD hS hA (va_runS (As := [.int p0, .int p1, .ref t9]) (rest := []) F (c_Pre_checkIndex_r l D T ad g Bq S p0 p1 t9  s.heap.size (show 0 ≤ p0.toInt ∧ p0.toInt < p1.toInt by omega)) (j_cS (k := 3) hts k_2_175 k_1_19 k_2_173 k_2_174 (by decide +kernel) ⟨Nat.le_of_ble_eq_true rfl, Nat.le_of_ble_eq_true rfl⟩) (j_preS hK hP hD csc csc_all csc_nd (fun _ _ _ _ h => EC.calling h) (fun U hU hW => EC.at hS hAB hU hW hE)) rfl rfl hl.1 rfl (lv_room (Nat.le_of_ble_eq_true rfl)) d_java_lang_String_checkIndex_5 ⟨Nat.le_of_ble_eq_true rfl, Nat.le_of_ble_eq_true rfl⟩) (fun rv2 u2 H locs hw2 hP hD hS => ?_)
    have hP : va_P D classes (cW T ad S) H := hP
    have hD : va_D A (cW T ad S) := hD
    have rrv2 := zt_rng rv2
    refine lv_pop hx hb d_java_lang_String_checkIndex_8 rfl ?_
    exact j_vret F hr hlocks hK hS () trivial hP hD d_java_lang_String_checkIndex_9
theorem d_java_lang_StringLatin1_charAt_0 : decode prog_25_method_2_code 0 = .ok (.iload_n 1, 1) := by decide +kernel
theorem d_java_lang_StringLatin1_charAt_1 : decode prog_25_method_2_code 1 = .ok (.aload_n 0, 1) := by decide +kernel
theorem d_java_lang_StringLatin1_charAt_2 : decode prog_25_method_2_code 2 = .ok (.arraylength, 1) := by decide +kernel
theorem d_java_lang_StringLatin1_charAt_3 : decode prog_25_method_2_code 3 = .ok (.invokestatic 9, 3) := by decide +kernel
theorem k_2_170 : Cond.code ⟨"java/lang/String", "checkIndex", "(II)V"⟩ prog_24_method_155_code 2 none ∈ gw := gw_of (tb_2 (List.mem_of_getElem? (i := 170) (by decide +kernel))) (by decide +kernel)
theorem k_2_168 : Cond.methodLink "java/lang/StringLatin1" 9 ⟨"java/lang/String", "checkIndex", "(II)V"⟩ ∈ gw := gw_of (tb_2 (List.mem_of_getElem? (i := 168) (by decide +kernel))) (by decide +kernel)
theorem k_2_169 : Cond.static ⟨"java/lang/String", "checkIndex", "(II)V"⟩ ∈ gw := gw_of (tb_2 (List.mem_of_getElem? (i := 169) (by decide +kernel))) (by decide +kernel)
theorem d_java_lang_StringLatin1_charAt_6 : decode prog_25_method_2_code 6 = .ok (.aload_n 0, 1) := by decide +kernel
theorem d_java_lang_StringLatin1_charAt_7 : decode prog_25_method_2_code 7 = .ok (.iload_n 1, 1) := by decide +kernel
theorem d_java_lang_StringLatin1_charAt_8 : decode prog_25_method_2_code 8 = .ok (.baload, 1) := by decide +kernel
theorem d_java_lang_StringLatin1_charAt_9 : decode prog_25_method_2_code 9 = .ok (.sipush 255, 3) := by decide +kernel
theorem d_java_lang_StringLatin1_charAt_12 : decode prog_25_method_2_code 12 = .ok (.iand, 1) := by decide +kernel
theorem d_java_lang_StringLatin1_charAt_13 : decode prog_25_method_2_code 13 = .ok (.i2c, 1) := by decide +kernel
theorem d_java_lang_StringLatin1_charAt_14 : decode prog_25_method_2_code 14 = .ok (.ireturn, 1) := by decide +kernel
set_option maxHeartbeats 4000000 in
set_option maxRecDepth 100000 in
theorem c_StringLatin1_charAt (l : Launch) (D : va_G) (T : Nat → ClassId) (ad : Nat → Nat) (g : GE) (Bq : Nat → Prop) (S : CS) (ix : Nat) (p0 : Int32) (sz : Nat) (hi_ix : ix < 97) (h1 : 0 ≤ p0.toInt ∧ p0.toInt < ((txL.getD ix 0 : Nat) : Int)) : Met l ⟨"java/lang/StringLatin1", "charAt", "([BI)C"⟩ (wy ⟨"java/lang/StringLatin1", "charAt", "([BI)C"⟩ prog_25_method_2_code 2 (some .char)) ({ frames := 2, cells := 0, slots := 0, locals := 140 }) (va_Pc [.ref (g_V g ix), .int p0] (Pw D T (cW T ad S) sz (EC g Bq ad))) (va_Qi (fun (r : Int32) (u : Unit) => 0 ≤ r.toInt ∧ r.toInt ≤ 65535) (fun u t => Bw D T (va_A (cW T ad S) sz) (cW T ad S) t) (va_A (cW T ad S) sz)) 0 0 (va_A (cW T ad S) sz) := by
  refine j_met (y := ⟨"java/lang/StringLatin1", "charAt", "([BI)C"⟩) (b := prog_25_method_2_code) (n := 2) (ret := (some .char)) (av := [.ref (g_V g ix), .int p0]) (Qc := fun A => va_Qi (fun (r : Int32) (u : Unit) => 0 ≤ r.toInt ∧ r.toInt ≤ 65535) (fun u t => Bw D T A (cW T ad S) t) A) (by decide +kernel) (Nat.le_of_ble_eq_true rfl) (fun p e s m args below meth c A ls F hr hlocks hnm hK hP hD hS hA hN hE hl => ?_)
  obtain ⟨hx, hb, hml, hown, hts⟩ := id F
  have hl : lv_has ls 2 [(0, .ref (g_V g ix)), (1, .int p0)] := hl
  have hAB : ∀ q, A q → Bq q := EC.ab hE hN
  have hEV := hE.1.narrow hAB
  have rp0 := zt_rng p0
  refine lv_iload_n hx hb d_java_lang_StringLatin1_charAt_0 rfl (lv_at hl 1 rfl) ?_
  refine lv_aload_n hx hb d_java_lang_StringLatin1_charAt_1 rfl (lv_at hl 0 rfl) ?_
  refine va_tlen hx hb (hEV.2.2.2.2.1.1 ix hi_ix).2.2.2 hS (v := nI (txL.getD ix 0)) rfl d_java_lang_StringLatin1_charAt_2 ?_
  refine lv_topi (fun x1 ex1 => ?_)
  have fx1 : x1.toInt = ((txL.getD ix 0 : Nat) : Int) := by rw [ex1]; exact nI_toInt (Nat.lt_of_le_of_lt (tx_le ix) (by decide))
  have kx1 := tx_le ix
  refine jc_cv (w := (fun _ => S)) hK hP hD hS hA (va_runS (As := [.int p0, .int x1]) (rest := []) F (c_String_checkIndex l D T ad g Bq S p0 x1  s.heap.size (show 0 ≤ p0.toInt ∧ p0.toInt < x1.toInt by omega)) (j_cS (k := 2) hts k_2_170 k_1_17 k_2_168 k_2_169 (by decide +kernel) ⟨Nat.le_of_ble_eq_true rfl, Nat.le_of_ble_eq_true rfl⟩) (j_preS hK hP hD csc csc_all csc_nd (fun _ _ _ _ h => EC.calling h) (fun U hU hW => EC.at hS hAB hU hW hE)) rfl rfl hl.1 rfl (lv_room (Nat.le_of_ble_eq_true rfl)) d_java_lang_StringLatin1_charAt_3 ⟨Nat.le_of_ble_eq_true rfl, Nat.le_of_ble_eq_true rfl⟩) (fun u1 H locs hw1 hP hD hS => ?_)
  have hP : va_P D classes (cW T ad S) H := hP
  have hD : va_D A (cW T ad S) := hD
  refine lv_aload_n hx hb d_java_lang_StringLatin1_charAt_6 rfl (lv_at hl 0 rfl) ?_
  refine lv_iload_n hx hb d_java_lang_StringLatin1_charAt_7 rfl (lv_at hl 1 rfl) ?_
  refine va_tb hx hb (hEV.2.2.2.2.1.1 ix hi_ix).2.2.2 hS (zt_in (show p0.toInt = _ from rfl) (by omega) (by omega)) rfl d_java_lang_StringLatin1_charAt_8 ?_
  refine lv_topi (fun x2 ex2 => ?_)
  have rx2 := zt_rng x2
  refine lv_sipush (v := 255) hx hb d_java_lang_StringLatin1_charAt_9 (by decide) ?_
  refine lv_iand hx hb d_java_lang_StringLatin1_charAt_12 ?_
  refine lv_topi (fun x3 ex3 => ?_)
  have rx3 := zt_rng x3
  refine lv_i2c (v := ((x3).toUInt32 % 65536).toInt32) hx hb d_java_lang_StringLatin1_charAt_13 rfl ?_
  refine lv_topi (fun x4 ex4 => ?_)
  have f13 := zt_ci ex4
  exact j_zret F hr (zt_chB (by omega)) hlocks hK hS () (show 0 ≤ x4.toInt ∧ x4.toInt ≤ 65535 by omega) hP hD d_java_lang_StringLatin1_charAt_14
theorem d_java_lang_String_charAt_0 : decode prog_24_method_56_code 0 = .ok (.aload_n 0, 1) := by decide +kernel
theorem d_java_lang_String_charAt_1 : decode prog_24_method_56_code 1 = .ok (.invokevirtual 492, 3) := by decide +kernel
theorem k_2_164 : Cond.code ⟨"java/lang/String", "isLatin1", "()Z"⟩ prog_24_method_154_code 1 (some .boolean) ∈ gw := gw_of (tb_2 (List.mem_of_getElem? (i := 164) (by decide +kernel))) (by decide +kernel)
theorem k_2_161 : Cond.methodLink "java/lang/String" 492 ⟨"java/lang/String", "isLatin1", "()Z"⟩ ∈ gw := gw_of (tb_2 (List.mem_of_getElem? (i := 161) (by decide +kernel))) (by decide +kernel)
theorem k_2_162 : Cond.instanceMethod ⟨"java/lang/String", "isLatin1", "()Z"⟩ ∈ gw := gw_of (tb_2 (List.mem_of_getElem? (i := 162) (by decide +kernel))) (by decide +kernel)
theorem k_2_163 : Cond.selects "java/lang/String" ⟨"java/lang/String", "isLatin1", "()Z"⟩ ⟨"java/lang/String", "isLatin1", "()Z"⟩ ∈ gw := gw_of (tb_2 (List.mem_of_getElem? (i := 163) (by decide +kernel))) (by decide +kernel)
theorem d_java_lang_String_charAt_4 : decode prog_24_method_56_code 4 = .ok (.ifCond .eq 12, 3) := by decide +kernel
theorem d_java_lang_String_charAt_7 : decode prog_24_method_56_code 7 = .ok (.aload_n 0, 1) := by decide +kernel
theorem d_java_lang_String_charAt_8 : decode prog_24_method_56_code 8 = .ok (.getfield 9, 3) := by decide +kernel
theorem d_java_lang_String_charAt_11 : decode prog_24_method_56_code 11 = .ok (.iload_n 1, 1) := by decide +kernel
theorem d_java_lang_String_charAt_12 : decode prog_24_method_56_code 12 = .ok (.invokestatic 495, 3) := by decide +kernel
theorem k_2_167 : Cond.code ⟨"java/lang/StringLatin1", "charAt", "([BI)C"⟩ prog_25_method_2_code 2 (some .char) ∈ gw := gw_of (tb_2 (List.mem_of_getElem? (i := 167) (by decide +kernel))) (by decide +kernel)
theorem k_1_18 : Cond.initialized "java/lang/StringLatin1" ∈ gw := gw_of (tb_1 (List.mem_of_getElem? (i := 18) (by decide +kernel))) (by decide +kernel)
theorem k_2_165 : Cond.methodLink "java/lang/String" 495 ⟨"java/lang/StringLatin1", "charAt", "([BI)C"⟩ ∈ gw := gw_of (tb_2 (List.mem_of_getElem? (i := 165) (by decide +kernel))) (by decide +kernel)
theorem k_2_166 : Cond.static ⟨"java/lang/StringLatin1", "charAt", "([BI)C"⟩ ∈ gw := gw_of (tb_2 (List.mem_of_getElem? (i := 166) (by decide +kernel))) (by decide +kernel)
theorem d_java_lang_String_charAt_15 : decode prog_24_method_56_code 15 = .ok (.ireturn, 1) := by decide +kernel
set_option maxHeartbeats 4000000 in
set_option maxRecDepth 100000 in
theorem c_String_charAt (l : Launch) (D : va_G) (T : Nat → ClassId) (ad : Nat → Nat) (g : GE) (Bq : Nat → Prop) (S : CS) (ix : Nat) (p0 : Int32) (sz : Nat) (hix : ix < 97) (h1 : 0 ≤ p0.toInt ∧ p0.toInt < ((txL.getD ix 0 : Nat) : Int)) : Met l ⟨"java/lang/String", "charAt", "(I)C"⟩ (wy ⟨"java/lang/String", "charAt", "(I)C"⟩ prog_24_method_56_code 2 (some .char)) ({ frames := 3, cells := 0, slots := 0, locals := 210 }) (va_Pc [.ref (g_K g ix), .int p0] (Pw D T (cW T ad S) sz (EC g Bq ad))) (va_Qi (fun (r : Int32) (u : Unit) => 0 ≤ r.toInt ∧ r.toInt ≤ 65535) (fun u t => Bw D T (va_A (cW T ad S) sz) (cW T ad S) t) (va_A (cW T ad S) sz)) 0 0 (va_A (cW T ad S) sz) := by
  refine j_met (y := ⟨"java/lang/String", "charAt", "(I)C"⟩) (b := prog_24_method_56_code) (n := 2) (ret := (some .char)) (av := [.ref (g_K g ix), .int p0]) (Qc := fun A => va_Qi (fun (r : Int32) (u : Unit) => 0 ≤ r.toInt ∧ r.toInt ≤ 65535) (fun u t => Bw D T A (cW T ad S) t) A) (by decide +kernel) (Nat.le_of_ble_eq_true rfl) (fun p e s m args below meth c A ls F hr hlocks hnm hK hP hD hS hA hN hE hl => ?_)
  obtain ⟨hx, hb, hml, hown, hts⟩ := id F
  have hl : lv_has ls 2 [(0, .ref (g_K g ix)), (1, .int p0)] := hl
  have hAB : ∀ q, A q → Bq q := EC.ab hE hN
  have hEV := hE.1.narrow hAB
  have rp0 := zt_rng p0
  refine lv_aload_n hx hb d_java_lang_String_charAt_0 rfl (lv_at hl 0 rfl) ?_
  refine jc_ci (w := (fun _ => S)) hK hP hD hS hA (va_runV (As := []) (rest := []) F (c_String_isLatin1 l D T ad g Bq S ix  s.heap.size hix) (j_cV (k := 0) (C := "java/lang/String") hts k_2_164 k_1_17 k_2_161 k_2_162 k_2_163 (by decide +kernel) ⟨Nat.le_of_ble_eq_true rfl, Nat.le_of_ble_eq_true rfl⟩) (jc_preO (j_preS hK hP hD csc csc_all csc_nd (fun _ _ _ _ h => EC.calling h) (fun U hU hW => EC.at hS hAB hU hW hE)) (hEV.2.2.2.2.1.1 _ hix).1 hS) rfl rfl hl.1 rfl (lv_room (Nat.le_of_ble_eq_true rfl)) d_java_lang_String_charAt_1 ⟨Nat.le_of_ble_eq_true rfl, Nat.le_of_ble_eq_true rfl⟩) (fun rv1 u1 H locs hw1 hP hD hS => ?_)
  have hP : va_P D classes (cW T ad S) H := hP
  have hD : va_D A (cW T ad S) := hD
  have qhw1 : rv1.toInt = 1 := hw1
  have rrv1 := zt_rng rv1
  refine lv_if_eq (tgt := 16) hx hb d_java_lang_String_charAt_4 (by decide) (fun c4_1 => ?_) (fun c4_1 => ?_)
  · have fc4_1 : rv1.toInt = 0 := zt_eq (show rv1.toInt = _ from rfl) tI_0 c4_1
    exfalso; omega
  · first | have fc4_1 : rv1.toInt < 0 := (by have := zt_ne (show rv1.toInt = _ from rfl) tI_0 c4_1; omega) | have fc4_1 : 0 < rv1.toInt := (by have := zt_ne (show rv1.toInt = _ from rfl) tI_0 c4_1; omega) | skip
    refine lv_aload_n hx hb d_java_lang_String_charAt_7 rfl (lv_at hl 0 rfl) ?_
    refine vk_getf hx hb (hEV.2.2.2.2.1.1 ix hix).2.2.1 hS hown (hts _ k_8_185) (fun _ h9 => h9) d_java_lang_String_charAt_8 ?_
    refine lv_iload_n hx hb d_java_lang_String_charAt_11 rfl (lv_at hl 1 rfl) ?_
    refine jc_ci (w := (fun _ => S)) hK hP hD hS hA (va_runS (As := [.ref (g_V g ix), .int p0]) (rest := []) F (c_StringLatin1_charAt l D T ad g Bq S ix p0  H.size hix (show 0 ≤ p0.toInt ∧ p0.toInt < ((txL.getD ix 0 : Nat) : Int) by omega)) (j_cS (k := 2) hts k_2_167 k_1_18 k_2_165 k_2_166 (by decide +kernel) ⟨Nat.le_of_ble_eq_true rfl, Nat.le_of_ble_eq_true rfl⟩) (j_preS hK hP hD csc csc_all csc_nd (fun _ _ _ _ h => EC.calling h) (fun U hU hW => EC.at hS hAB hU hW hE)) rfl rfl hl.1 rfl (lv_room (Nat.le_of_ble_eq_true rfl)) d_java_lang_String_charAt_12 ⟨Nat.le_of_ble_eq_true rfl, Nat.le_of_ble_eq_true rfl⟩) (fun rv2 u2 H locs hw2 hP hD hS => ?_)
    have hP : va_P D classes (cW T ad S) H := hP
    have hD : va_D A (cW T ad S) := hD
    have qhw2 : 0 ≤ rv2.toInt ∧ rv2.toInt ≤ 65535 := hw2
    have rrv2 := zt_rng rv2
    exact j_zret F hr (zt_chB (by omega)) hlocks hK hS () (show 0 ≤ rv2.toInt ∧ rv2.toInt ≤ 65535 by omega) hP hD d_java_lang_String_charAt_15
theorem d_java_lang_StringLatin1_canEncode_0 : decode prog_25_method_4_code 0 = .ok (.iload_n 0, 1) := by decide +kernel
theorem d_java_lang_StringLatin1_canEncode_1 : decode prog_25_method_4_code 1 = .ok (.ifCond .lt 14, 3) := by decide +kernel
theorem d_java_lang_StringLatin1_canEncode_15 : decode prog_25_method_4_code 15 = .ok (.iconst 0, 1) := by decide +kernel
theorem d_java_lang_StringLatin1_canEncode_16 : decode prog_25_method_4_code 16 = .ok (.ireturn, 1) := by decide +kernel
theorem d_java_lang_StringLatin1_canEncode_4 : decode prog_25_method_4_code 4 = .ok (.iload_n 0, 1) := by decide +kernel
theorem d_java_lang_StringLatin1_canEncode_5 : decode prog_25_method_4_code 5 = .ok (.sipush 255, 3) := by decide +kernel
theorem d_java_lang_StringLatin1_canEncode_8 : decode prog_25_method_4_code 8 = .ok (.if_icmp .gt 7, 3) := by decide +kernel
theorem tI_255 : (255 : Int32).toInt = 255 := by decide +kernel
theorem d_java_lang_StringLatin1_canEncode_11 : decode prog_25_method_4_code 11 = .ok (.iconst 1, 1) := by decide +kernel
theorem d_java_lang_StringLatin1_canEncode_12 : decode prog_25_method_4_code 12 = .ok (.goto 4, 3) := by decide +kernel
set_option maxHeartbeats 4000000 in
set_option maxRecDepth 100000 in
theorem c_StringLatin1_canEncode (l : Launch) (D : va_G) (T : Nat → ClassId) (p0 : Int32) (sz : Nat)  : Met l ⟨"java/lang/StringLatin1", "canEncode", "(I)Z"⟩ (wy ⟨"java/lang/StringLatin1", "canEncode", "(I)Z"⟩ prog_25_method_4_code 1 (some .boolean)) ({ frames := 0, cells := 0, slots := 0, locals := 0 }) (va_Pc [.int p0] (Pw D T [] sz E0)) (va_Qi (fun (r : Int32) (u : Unit) => True) (fun u t => Bw D T (va_A [] sz) [] t) (va_A [] sz)) 0 0 (va_A [] sz) := by
  refine j_met (y := ⟨"java/lang/StringLatin1", "canEncode", "(I)Z"⟩) (b := prog_25_method_4_code) (n := 1) (ret := (some .boolean)) (av := [.int p0]) (Qc := fun A => va_Qi (fun (r : Int32) (u : Unit) => True) (fun u t => Bw D T A [] t) A) (by decide +kernel) (Nat.le_of_ble_eq_true rfl) (fun p e s m args below meth c A ls F hr hlocks hnm hK hP hD hS hA hN hE hl => ?_)
  obtain ⟨hx, hb, hml, hown, hts⟩ := id F
  have hl : lv_has ls 1 [(0, .int p0)] := hl
  have rp0 := zt_rng p0
  refine lv_iload_n hx hb d_java_lang_StringLatin1_canEncode_0 rfl (lv_at hl 0 rfl) ?_
  refine lv_if_lt (tgt := 15) hx hb d_java_lang_StringLatin1_canEncode_1 (by decide) (fun c1_1 => ?_) (fun c1_1 => ?_)
  · have fc1_1 : p0.toInt < 0 := zt_lt (show p0.toInt = _ from rfl) tI_0 c1_1
    refine lv_iconst (v := 0) hx hb d_java_lang_StringLatin1_canEncode_15 (by decide) ?_
    exact j_zret F hr (by decide +kernel) hlocks hK hS () trivial hP hD d_java_lang_StringLatin1_canEncode_16
  · have fc1_1 : 0 ≤ p0.toInt := Int.not_lt.mp (zt_nlt (show p0.toInt = _ from rfl) tI_0 c1_1)
    refine lv_iload_n hx hb d_java_lang_StringLatin1_canEncode_4 rfl (lv_at hl 0 rfl) ?_
    refine lv_sipush (v := 255) hx hb d_java_lang_StringLatin1_canEncode_5 (by decide) ?_
    refine lv_icmp_gt (tgt := 15) hx hb d_java_lang_StringLatin1_canEncode_8 (by decide) (fun c8_1 => ?_) (fun c8_1 => ?_)
    · have fc8_1 : 255 < p0.toInt := zt_lt tI_255 (show p0.toInt = _ from rfl) c8_1
      refine lv_iconst (v := 0) hx hb d_java_lang_StringLatin1_canEncode_15 (by decide) ?_
      exact j_zret F hr (by decide +kernel) hlocks hK hS () trivial hP hD d_java_lang_StringLatin1_canEncode_16
    · have fc8_1 : p0.toInt ≤ 255 := Int.not_lt.mp (zt_nlt tI_255 (show p0.toInt = _ from rfl) c8_1)
      refine lv_iconst (v := 1) hx hb d_java_lang_StringLatin1_canEncode_11 (by decide) ?_
      refine lv_goto (tgt := 16) hx hb d_java_lang_StringLatin1_canEncode_12 (by decide) ?_
      exact j_zret F hr (by decide +kernel) hlocks hK hS () trivial hP hD d_java_lang_StringLatin1_canEncode_16
theorem d_java_lang_StringLatin1_indexOfChar_0 : decode prog_25_method_23_code 0 = .ok (.iload_n 1, 1) := by decide +kernel
theorem d_java_lang_StringLatin1_indexOfChar_1 : decode prog_25_method_23_code 1 = .ok (.i2b, 1) := by decide +kernel
theorem d_java_lang_StringLatin1_indexOfChar_2 : decode prog_25_method_23_code 2 = .ok (.istore 4, 2) := by decide +kernel
theorem d_java_lang_StringLatin1_indexOfChar_4 : decode prog_25_method_23_code 4 = .ok (.iload_n 2, 1) := by decide +kernel
theorem d_java_lang_StringLatin1_indexOfChar_5 : decode prog_25_method_23_code 5 = .ok (.istore 5, 2) := by decide +kernel
theorem d_java_lang_StringLatin1_indexOfChar_7 : decode prog_25_method_23_code 7 = .ok (.iload 5, 2) := by decide +kernel
theorem d_java_lang_StringLatin1_indexOfChar_9 : decode prog_25_method_23_code 9 = .ok (.iload_n 3, 1) := by decide +kernel
theorem d_java_lang_StringLatin1_indexOfChar_10 : decode prog_25_method_23_code 10 = .ok (.if_icmp .ge 21, 3) := by decide +kernel
theorem d_java_lang_StringLatin1_indexOfChar_31 : decode prog_25_method_23_code 31 = .ok (.iconst (-1), 1) := by decide +kernel
theorem d_java_lang_StringLatin1_indexOfChar_32 : decode prog_25_method_23_code 32 = .ok (.ireturn, 1) := by decide +kernel
theorem d_java_lang_StringLatin1_indexOfChar_13 : decode prog_25_method_23_code 13 = .ok (.aload_n 0, 1) := by decide +kernel
theorem d_java_lang_StringLatin1_indexOfChar_14 : decode prog_25_method_23_code 14 = .ok (.iload 5, 2) := by decide +kernel
theorem d_java_lang_StringLatin1_indexOfChar_16 : decode prog_25_method_23_code 16 = .ok (.baload, 1) := by decide +kernel
theorem d_java_lang_StringLatin1_indexOfChar_17 : decode prog_25_method_23_code 17 = .ok (.iload 4, 2) := by decide +kernel
theorem d_java_lang_StringLatin1_indexOfChar_19 : decode prog_25_method_23_code 19 = .ok (.if_icmp .ne 6, 3) := by decide +kernel
theorem d_java_lang_StringLatin1_indexOfChar_25 : decode prog_25_method_23_code 25 = .ok (.iinc 5 1, 3) := by decide +kernel
theorem d_java_lang_StringLatin1_indexOfChar_28 : decode prog_25_method_23_code 28 = .ok (.goto (-21), 3) := by decide +kernel
theorem d_java_lang_StringLatin1_indexOfChar_22 : decode prog_25_method_23_code 22 = .ok (.iload 5, 2) := by decide +kernel
theorem d_java_lang_StringLatin1_indexOfChar_24 : decode prog_25_method_23_code 24 = .ok (.ireturn, 1) := by decide +kernel
set_option maxHeartbeats 4000000 in
set_option maxRecDepth 100000 in
theorem c_StringLatin1_indexOfChar (l : Launch) (D : va_G) (T : Nat → ClassId) (ad : Nat → Nat) (g : GE) (Bq : Nat → Prop) (S : CS) (ix : Nat) (p0 : Int32) (p1 : Int32) (p2 : Int32) (sz : Nat) (hi_ix : ix < 97) (h1 : 0 ≤ p1.toInt ∧ p2.toInt ≤ ((txL.getD ix 0 : Nat) : Int)) : Met l ⟨"java/lang/StringLatin1", "indexOfChar", "([BIII)I"⟩ (wy ⟨"java/lang/StringLatin1", "indexOfChar", "([BIII)I"⟩ prog_25_method_23_code 6 (some .int)) ({ frames := 0, cells := 0, slots := 0, locals := 0 }) (va_Pc [.ref (g_V g ix), .int p0, .int p1, .int p2] (Pw D T (cW T ad S) sz (EC g Bq ad))) (va_Qi (fun (r : Int32) (u : Unit) => -1 ≤ r.toInt ∧ (r.toInt = -1 ∨ r.toInt < p2.toInt)) (fun u t => Bw D T (va_A (cW T ad S) sz) (cW T ad S) t) (va_A (cW T ad S) sz)) 0 0 (va_A (cW T ad S) sz) := by
  refine j_met (y := ⟨"java/lang/StringLatin1", "indexOfChar", "([BIII)I"⟩) (b := prog_25_method_23_code) (n := 6) (ret := (some .int)) (av := [.ref (g_V g ix), .int p0, .int p1, .int p2]) (Qc := fun A => va_Qi (fun (r : Int32) (u : Unit) => -1 ≤ r.toInt ∧ (r.toInt = -1 ∨ r.toInt < p2.toInt)) (fun u t => Bw D T A (cW T ad S) t) A) (by decide +kernel) (Nat.le_of_ble_eq_true rfl) (fun p e s m args below meth c A ls F hr hlocks hnm hK hP hD hS hA hN hE hl => ?_)
  obtain ⟨hx, hb, hml, hown, hts⟩ := id F
  have hl : lv_has ls 6 [(0, .ref (g_V g ix)), (1, .int p0), (2, .int p1), (3, .int p2)] := hl
  have hAB : ∀ q, A q → Bq q := EC.ab hE hN
  have hEV := hE.1.narrow hAB
  have rp0 := zt_rng p0
  have rp1 := zt_rng p1
  have rp2 := zt_rng p2
  refine lv_iload_n hx hb d_java_lang_StringLatin1_indexOfChar_0 rfl (lv_at hl 1 rfl) ?_
  refine lv_i2b (v := (p0.toInt8.toInt32)) hx hb d_java_lang_StringLatin1_indexOfChar_1 rfl ?_
  refine lv_topi (fun x1 ex1 => ?_)
  refine lv_istore (lv' := [(4, .int x1), (0, .ref (g_V g ix)), (1, .int p0), (2, .int p1), (3, .int p2)]) hx hb d_java_lang_StringLatin1_indexOfChar_2 hl (by decide) rfl (fun ls hl => ?_)
  refine lv_iload_n hx hb d_java_lang_StringLatin1_indexOfChar_4 rfl (lv_at hl 3 rfl) ?_
  refine lv_istore (lv' := [(5, .int p1), (4, .int x1), (0, .ref (g_V g ix)), (1, .int p0), (2, .int p1), (3, .int p2)]) hx hb d_java_lang_StringLatin1_indexOfChar_5 hl (by decide) rfl (fun ls hl => ?_)
  refine j_loop (α := Int32) (fun k x H locs ls => (p1.toInt ≤ x.toInt ∧ 0 ≤ x.toInt ∧ p2.toInt ≤ x.toInt + ((k : Nat) : Int)) ∧ va_P D classes (cW T ad S) H ∧ va_D A (cW T ad S) ∧ va_S A s.heap H locs ∧ lv_has ls 6 [(5, .int x), (4, .int x1), (0, .ref (g_V g ix)), (1, .int p0), (2, .int p1), (3, .int p2)]) (fun _ _ ls => F0 m 7 ls []) (fun k x H locs ls hI9 ih => ?_) (p2.toInt).toNat p1 _ _ _ ⟨(show p1.toInt ≤ p1.toInt ∧ 0 ≤ p1.toInt ∧ p2.toInt ≤ p1.toInt + (((p2.toInt).toNat : Nat) : Int) by omega), hP, hD, hS, lv_sub hl [0, 1, 2, 3, 4, 5] rfl⟩
  obtain ⟨i, rfl⟩ : ∃ z, z = x := ⟨_, rfl⟩
  obtain ⟨hf1, hP, hD, hS, hl⟩ := hI9
  have hf1 : p1.toInt ≤ i.toInt ∧ 0 ≤ i.toInt ∧ p2.toInt ≤ i.toInt + ((k : Nat) : Int) := hf1
  have hP : va_P D classes (cW T ad S) H := hP
  have hD : va_D A (cW T ad S) := hD
  have hl : lv_has ls 6 [(5, .int i), (4, .int x1), (0, .ref (g_V g ix)), (1, .int p0), (2, .int p1), (3, .int p2)] := hl
  refine lv_iload hx hb d_java_lang_StringLatin1_indexOfChar_7 (lv_at hl 0 rfl) ?_
  refine lv_iload_n hx hb d_java_lang_StringLatin1_indexOfChar_9 rfl (lv_at hl 5 rfl) ?_
  refine lv_icmp_ge (tgt := 31) hx hb d_java_lang_StringLatin1_indexOfChar_10 (by decide) (fun c10_1 => ?_) (fun c10_1 => ?_)
  · have fc10_1 : p2.toInt ≤ i.toInt := zt_le (show p2.toInt = _ from rfl) (show i.toInt = _ from rfl) c10_1
    refine lv_iconst (v := (-1)) hx hb d_java_lang_StringLatin1_indexOfChar_31 (by decide) ?_
    exact j_iret F hr hlocks hK hS () (show -1 ≤ (-1 : Int32).toInt ∧ ((-1 : Int32).toInt = -1 ∨ (-1 : Int32).toInt < p2.toInt) by have := tI_m1; omega) hP hD d_java_lang_StringLatin1_indexOfChar_32
  · have fc10_1 : i.toInt < p2.toInt := Int.not_le.mp (zt_nle (show p2.toInt = _ from rfl) (show i.toInt = _ from rfl) c10_1)
    refine lv_aload_n hx hb d_java_lang_StringLatin1_indexOfChar_13 rfl (lv_at hl 2 rfl) ?_
    refine lv_iload hx hb d_java_lang_StringLatin1_indexOfChar_14 (lv_at hl 0 rfl) ?_
    refine va_tb hx hb (hEV.2.2.2.2.1.1 ix hi_ix).2.2.2 hS (zt_in (show i.toInt = _ from rfl) (by omega) (by omega)) rfl d_java_lang_StringLatin1_indexOfChar_16 ?_
    refine lv_topi (fun x2 ex2 => ?_)
    have rx2 := zt_rng x2
    refine lv_iload hx hb d_java_lang_StringLatin1_indexOfChar_17 (lv_at hl 1 rfl) ?_
    refine lv_icmp_ne (tgt := 25) hx hb d_java_lang_StringLatin1_indexOfChar_19 (by decide) (fun c19_1 => ?_) (fun c19_1 => ?_)
    · first | have fc19_1 : x2.toInt < x1.toInt := (by have := zt_ne (show x2.toInt = _ from rfl) (show x1.toInt = _ from rfl) c19_1; omega) | have fc19_1 : x1.toInt < x2.toInt := (by have := zt_ne (show x2.toInt = _ from rfl) (show x1.toInt = _ from rfl) c19_1; omega) | skip
      refine lv_iinc (v := (i + 1)) (lv' := [(5, .int (i + 1)), (4, .int x1), (0, .ref (g_V g ix)), (1, .int p0), (2, .int p1), (3, .int p2)]) hx hb d_java_lang_StringLatin1_indexOfChar_25 hl (k := 0) rfl (by first | rfl | decide) (by decide) rfl (fun ls hl => ?_)
      obtain ⟨x3, ex3⟩ : ∃ z, z = (i + 1) := ⟨_, rfl⟩
      rw [← ex3] at hl
      have fx3 : x3.toInt = (i.toInt + 1) := by rw [ex3]; exact (zt_add (show i.toInt = _ from rfl) tI_1 (by omega) (by omega)).trans (by omega)
      have hl : lv_has ls 6 [(5, .int x3), (4, .int x1), (0, .ref (g_V g ix)), (1, .int p0), (2, .int p1), (3, .int p2)] := hl
      refine lv_goto (tgt := 7) hx hb d_java_lang_StringLatin1_indexOfChar_28 (by decide) ?_
      exact ih (k - 1) x3 _ _ _ (by omega) ⟨(show p1.toInt ≤ x3.toInt ∧ 0 ≤ x3.toInt ∧ p2.toInt ≤ x3.toInt + (((k - 1) : Nat) : Int) by omega), hP, hD, hS, lv_sub hl [0, 1, 2, 3, 4, 5] rfl⟩
    · have fc19_1 : x2.toInt = x1.toInt := zt_eq (show x2.toInt = _ from rfl) (show x1.toInt = _ from rfl) c19_1
      refine lv_iload hx hb d_java_lang_StringLatin1_indexOfChar_22 (lv_at hl 0 rfl) ?_
      exact j_iret F hr hlocks hK hS () (show -1 ≤ i.toInt ∧ (i.toInt = -1 ∨ i.toInt < p2.toInt) by omega) hP hD d_java_lang_StringLatin1_indexOfChar_24
theorem d_java_lang_StringLatin1_indexOf_0 : decode prog_25_method_22_code 0 = .ok (.iload_n 1, 1) := by decide +kernel
theorem d_java_lang_StringLatin1_indexOf_1 : decode prog_25_method_22_code 1 = .ok (.invokestatic 88, 3) := by decide +kernel
theorem k_3_215 : Cond.code ⟨"java/lang/StringLatin1", "canEncode", "(I)Z"⟩ prog_25_method_4_code 1 (some .boolean) ∈ gw := gw_of (tb_3 (List.mem_of_getElem? (i := 215) (by decide +kernel))) (by decide +kernel)
theorem k_3_213 : Cond.methodLink "java/lang/StringLatin1" 88 ⟨"java/lang/StringLatin1", "canEncode", "(I)Z"⟩ ∈ gw := gw_of (tb_3 (List.mem_of_getElem? (i := 213) (by decide +kernel))) (by decide +kernel)
theorem k_3_214 : Cond.static ⟨"java/lang/StringLatin1", "canEncode", "(I)Z"⟩ ∈ gw := gw_of (tb_3 (List.mem_of_getElem? (i := 214) (by decide +kernel))) (by decide +kernel)
theorem d_java_lang_StringLatin1_indexOf_4 : decode prog_25_method_22_code 4 = .ok (.ifCond .ne 5, 3) := by decide +kernel
theorem d_java_lang_StringLatin1_indexOf_9 : decode prog_25_method_22_code 9 = .ok (.iload_n 2, 1) := by decide +kernel
theorem d_java_lang_StringLatin1_indexOf_10 : decode prog_25_method_22_code 10 = .ok (.iconst 0, 1) := by decide +kernel
theorem d_java_lang_StringLatin1_indexOf_11 : decode prog_25_method_22_code 11 = .ok (.invokestatic 92, 3) := by decide +kernel
theorem k_3_216 : Cond.methodLink "java/lang/StringLatin1" 92 ⟨"java/lang/Math", "max", "(II)I"⟩ ∈ gw := gw_of (tb_3 (List.mem_of_getElem? (i := 216) (by decide +kernel))) (by decide +kernel)
theorem d_java_lang_StringLatin1_indexOf_14 : decode prog_25_method_22_code 14 = .ok (.istore_n 2, 1) := by decide +kernel
theorem d_java_lang_StringLatin1_indexOf_15 : decode prog_25_method_22_code 15 = .ok (.iload_n 3, 1) := by decide +kernel
theorem d_java_lang_StringLatin1_indexOf_16 : decode prog_25_method_22_code 16 = .ok (.aload_n 0, 1) := by decide +kernel
theorem d_java_lang_StringLatin1_indexOf_17 : decode prog_25_method_22_code 17 = .ok (.arraylength, 1) := by decide +kernel
theorem d_java_lang_StringLatin1_indexOf_18 : decode prog_25_method_22_code 18 = .ok (.invokestatic 38, 3) := by decide +kernel
theorem k_3_221 : Cond.code ⟨"java/lang/Math", "min", "(II)I"⟩ prog_22_method_69_code 2 (some .int) ∈ gw := gw_of (tb_3 (List.mem_of_getElem? (i := 221) (by decide +kernel))) (by decide +kernel)
theorem k_3_219 : Cond.methodLink "java/lang/StringLatin1" 38 ⟨"java/lang/Math", "min", "(II)I"⟩ ∈ gw := gw_of (tb_3 (List.mem_of_getElem? (i := 219) (by decide +kernel))) (by decide +kernel)
theorem k_3_220 : Cond.static ⟨"java/lang/Math", "min", "(II)I"⟩ ∈ gw := gw_of (tb_3 (List.mem_of_getElem? (i := 220) (by decide +kernel))) (by decide +kernel)
theorem d_java_lang_StringLatin1_indexOf_21 : decode prog_25_method_22_code 21 = .ok (.istore_n 3, 1) := by decide +kernel
theorem d_java_lang_StringLatin1_indexOf_22 : decode prog_25_method_22_code 22 = .ok (.iload_n 2, 1) := by decide +kernel
theorem d_java_lang_StringLatin1_indexOf_23 : decode prog_25_method_22_code 23 = .ok (.iload_n 3, 1) := by decide +kernel
theorem d_java_lang_StringLatin1_indexOf_24 : decode prog_25_method_22_code 24 = .ok (.if_icmp .lt 5, 3) := by decide +kernel
theorem d_java_lang_StringLatin1_indexOf_29 : decode prog_25_method_22_code 29 = .ok (.aload_n 0, 1) := by decide +kernel
theorem d_java_lang_StringLatin1_indexOf_30 : decode prog_25_method_22_code 30 = .ok (.iload_n 1, 1) := by decide +kernel
theorem d_java_lang_StringLatin1_indexOf_31 : decode prog_25_method_22_code 31 = .ok (.iload_n 2, 1) := by decide +kernel
theorem d_java_lang_StringLatin1_indexOf_32 : decode prog_25_method_22_code 32 = .ok (.iload_n 3, 1) := by decide +kernel
theorem d_java_lang_StringLatin1_indexOf_33 : decode prog_25_method_22_code 33 = .ok (.invokestatic 95, 3) := by decide +kernel
theorem k_3_224 : Cond.code ⟨"java/lang/StringLatin1", "indexOfChar", "([BIII)I"⟩ prog_25_method_23_code 6 (some .int) ∈ gw := gw_of (tb_3 (List.mem_of_getElem? (i := 224) (by decide +kernel))) (by decide +kernel)
theorem k_3_222 : Cond.methodLink "java/lang/StringLatin1" 95 ⟨"java/lang/StringLatin1", "indexOfChar", "([BIII)I"⟩ ∈ gw := gw_of (tb_3 (List.mem_of_getElem? (i := 222) (by decide +kernel))) (by decide +kernel)
theorem k_3_223 : Cond.static ⟨"java/lang/StringLatin1", "indexOfChar", "([BIII)I"⟩ ∈ gw := gw_of (tb_3 (List.mem_of_getElem? (i := 223) (by decide +kernel))) (by decide +kernel)
theorem d_java_lang_StringLatin1_indexOf_36 : decode prog_25_method_22_code 36 = .ok (.ireturn, 1) := by decide +kernel
theorem d_java_lang_StringLatin1_indexOf_27 : decode prog_25_method_22_code 27 = .ok (.iconst (-1), 1) := by decide +kernel
theorem d_java_lang_StringLatin1_indexOf_28 : decode prog_25_method_22_code 28 = .ok (.ireturn, 1) := by decide +kernel
theorem d_java_lang_StringLatin1_indexOf_7 : decode prog_25_method_22_code 7 = .ok (.iconst (-1), 1) := by decide +kernel
theorem d_java_lang_StringLatin1_indexOf_8 : decode prog_25_method_22_code 8 = .ok (.ireturn, 1) := by decide +kernel
set_option maxHeartbeats 4000000 in
set_option maxRecDepth 100000 in
theorem c_StringLatin1_indexOf (l : Launch) (D : va_G) (T : Nat → ClassId) (ad : Nat → Nat) (g : GE) (Bq : Nat → Prop) (S : CS) (ix : Nat) (p0 : Int32) (p1 : Int32) (p2 : Int32) (sz : Nat) (hi_ix : ix < 97) : Met l ⟨"java/lang/StringLatin1", "indexOf", "([BIII)I"⟩ (wy ⟨"java/lang/StringLatin1", "indexOf", "([BIII)I"⟩ prog_25_method_22_code 4 (some .int)) ({ frames := 1, cells := 0, slots := 0, locals := 70 }) (va_Pc [.ref (g_V g ix), .int p0, .int p1, .int p2] (Pw D T (cW T ad S) sz (EC g Bq ad))) (va_Qi (fun (r : Int32) (u : Unit) => -1 ≤ r.toInt ∧ (r.toInt = -1 ∨ r.toInt < ((txL.getD ix 0 : Nat) : Int))) (fun u t => Bw D T (va_A (cW T ad S) sz) (cW T ad S) t) (va_A (cW T ad S) sz)) 0 0 (va_A (cW T ad S) sz) := by
  refine j_met (y := ⟨"java/lang/StringLatin1", "indexOf", "([BIII)I"⟩) (b := prog_25_method_22_code) (n := 4) (ret := (some .int)) (av := [.ref (g_V g ix), .int p0, .int p1, .int p2]) (Qc := fun A => va_Qi (fun (r : Int32) (u : Unit) => -1 ≤ r.toInt ∧ (r.toInt = -1 ∨ r.toInt < ((txL.getD ix 0 : Nat) : Int))) (fun u t => Bw D T A (cW T ad S) t) A) (by decide +kernel) (Nat.le_of_ble_eq_true rfl) (fun p e s m args below meth c A ls F hr hlocks hnm hK hP hD hS hA hN hE hl => ?_)
  obtain ⟨hx, hb, hml, hown, hts⟩ := id F
  have hl : lv_has ls 4 [(0, .ref (g_V g ix)), (1, .int p0), (2, .int p1), (3, .int p2)] := hl
  have hAB : ∀ q, A q → Bq q := EC.ab hE hN
  have hEV := hE.1.narrow hAB
  have rp0 := zt_rng p0
  have rp1 := zt_rng p1
  have rp2 := zt_rng p2
  refine lv_iload_n hx hb d_java_lang_StringLatin1_indexOf_0 rfl (lv_at hl 1 rfl) ?_
  refine j_ci (wc := []) (wr := (cW T ad S)) hK hP hD hS hA [] csc rfl csc_all csc_nd (fun _ _ => List.not_mem_nil) (va_runS (As := [.int p0]) (rest := []) F (c_StringLatin1_canEncode l D T p0  s.heap.size) (j_cS (k := 1) hts k_3_215 k_1_18 k_3_213 k_3_214 (by decide +kernel) ⟨Nat.le_of_ble_eq_true rfl, Nat.le_of_ble_eq_true rfl⟩) (j_preS hK hP hD [] rfl (by decide) (fun _ _ _ _ h => h) (fun _ _ _ => trivial)) rfl rfl hl.1 rfl (lv_room (Nat.le_of_ble_eq_true rfl)) d_java_lang_StringLatin1_indexOf_1 ⟨Nat.le_of_ble_eq_true rfl, Nat.le_of_ble_eq_true rfl⟩) (fun rv1 u1 H locs hw1 hP hD hS => ?_)
  have hP : va_P D classes (cW T ad S) H := hP
  have hD : va_D A (cW T ad S) := hD
  have rrv1 := zt_rng rv1
  refine lv_if_ne (tgt := 9) hx hb d_java_lang_StringLatin1_indexOf_4 (by decide) (fun c4_1 => ?_) (fun c4_1 => ?_)
  · first | have fc4_1 : rv1.toInt < 0 := (by have := zt_ne (show rv1.toInt = _ from rfl) tI_0 c4_1; omega) | have fc4_1 : 0 < rv1.toInt := (by have := zt_ne (show rv1.toInt = _ from rfl) tI_0 c4_1; omega) | skip
    refine lv_iload_n hx hb d_java_lang_StringLatin1_indexOf_9 rfl (lv_at hl 2 rfl) ?_
    refine lv_iconst (v := 0) hx hb d_java_lang_StringLatin1_indexOf_10 (by decide) ?_
    refine j_ci (wc := []) (wr := (cW T ad S)) hK hP hD hS hA [] csc rfl csc_all csc_nd (fun _ _ => List.not_mem_nil) (va_runS (As := [.int p1, .int 0]) (rest := []) F (c_Math_max l D T p1 (0 : Int32)  H.size) (j_cS (k := 2) hts k_3_218 k_1_21 k_3_216 k_3_217 (by decide +kernel) ⟨Nat.le_of_ble_eq_true rfl, Nat.le_of_ble_eq_true rfl⟩) (j_preS hK hP hD [] rfl (by decide) (fun _ _ _ _ h => h) (fun _ _ _ => trivial)) rfl rfl hl.1 rfl (lv_room (Nat.le_of_ble_eq_true rfl)) d_java_lang_StringLatin1_indexOf_11 ⟨Nat.le_of_ble_eq_true rfl, Nat.le_of_ble_eq_true rfl⟩) (fun rv2 u2 H locs hw2 hP hD hS => ?_)
    have hP : va_P D classes (cW T ad S) H := hP
    have hD : va_D A (cW T ad S) := hD
    have qhw2 : p1.toInt ≤ rv2.toInt ∧ 0 ≤ rv2.toInt ∧ (rv2.toInt = p1.toInt ∨ rv2.toInt = 0) := by simpa only [tI_0] using hw2
    have rrv2 := zt_rng rv2
    refine lv_istore_n (lv' := [(2, .int rv2), (0, .ref (g_V g ix)), (1, .int p0), (3, .int p2)]) hx hb d_java_lang_StringLatin1_indexOf_14 rfl hl (by decide) rfl (fun ls hl => ?_)
    refine lv_iload_n hx hb d_java_lang_StringLatin1_indexOf_15 rfl (lv_at hl 3 rfl) ?_
    refine lv_aload_n hx hb d_java_lang_StringLatin1_indexOf_16 rfl (lv_at hl 1 rfl) ?_
    refine va_tlen hx hb (hEV.2.2.2.2.1.1 ix hi_ix).2.2.2 hS (v := nI (txL.getD ix 0)) rfl d_java_lang_StringLatin1_indexOf_17 ?_
    refine lv_topi (fun x1 ex1 => ?_)
    have fx1 : x1.toInt = ((txL.getD ix 0 : Nat) : Int) := by rw [ex1]; exact nI_toInt (Nat.lt_of_le_of_lt (tx_le ix) (by decide))
    have kx1 := tx_le ix
    refine j_ci (wc := []) (wr := (cW T ad S)) hK hP hD hS hA [] csc rfl csc_all csc_nd (fun _ _ => List.not_mem_nil) (va_runS (As := [.int p2, .int x1]) (rest := []) F (c_Math_min l D T p2 x1  H.size) (j_cS (k := 2) hts k_3_221 k_1_21 k_3_219 k_3_220 (by decide +kernel) ⟨Nat.le_of_ble_eq_true rfl, Nat.le_of_ble_eq_true rfl⟩) (j_preS hK hP hD [] rfl (by decide) (fun _ _ _ _ h => h) (fun _ _ _ => trivial)) rfl rfl hl.1 rfl (lv_room (Nat.le_of_ble_eq_true rfl)) d_java_lang_StringLatin1_indexOf_18 ⟨Nat.le_of_ble_eq_true rfl, Nat.le_of_ble_eq_true rfl⟩) (fun rv3 u3 H locs hw3 hP hD hS => ?_)
    have hP : va_P D classes (cW T ad S) H := hP
    have hD : va_D A (cW T ad S) := hD
    have qhw3 : rv3.toInt ≤ p2.toInt ∧ rv3.toInt ≤ x1.toInt ∧ (rv3.toInt = p2.toInt ∨ rv3.toInt = x1.toInt) := hw3
    have rrv3 := zt_rng rv3
    refine lv_istore_n (lv' := [(3, .int rv3), (2, .int rv2), (0, .ref (g_V g ix)), (1, .int p0)]) hx hb d_java_lang_StringLatin1_indexOf_21 rfl hl (by decide) rfl (fun ls hl => ?_)
    refine lv_iload_n hx hb d_java_lang_StringLatin1_indexOf_22 rfl (lv_at hl 1 rfl) ?_
    refine lv_iload_n hx hb d_java_lang_StringLatin1_indexOf_23 rfl (lv_at hl 0 rfl) ?_
    refine lv_icmp_lt (tgt := 29) hx hb d_java_lang_StringLatin1_indexOf_24 (by decide) (fun c24_1 => ?_) (fun c24_1 => ?_)
    · have fc24_1 : rv2.toInt < rv3.toInt := zt_lt (show rv2.toInt = _ from rfl) (show rv3.toInt = _ from rfl) c24_1
      refine lv_aload_n hx hb d_java_lang_StringLatin1_indexOf_29 rfl (lv_at hl 2 rfl) ?_
      refine lv_iload_n hx hb d_java_lang_StringLatin1_indexOf_30 rfl (lv_at hl 3 rfl) ?_
      refine lv_iload_n hx hb d_java_lang_StringLatin1_indexOf_31 rfl (lv_at hl 1 rfl) ?_
      refine lv_iload_n hx hb d_java_lang_StringLatin1_indexOf_32 rfl (lv_at hl 0 rfl) ?_
      refine jc_ci (w := (fun _ => S)) hK hP hD hS hA (va_runS (As := [.ref (g_V g ix), .int p0, .int rv2, .int rv3]) (rest := []) F (c_StringLatin1_indexOfChar l D T ad g Bq S ix p0 rv2 rv3  H.size hi_ix (show 0 ≤ rv2.toInt ∧ rv3.toInt ≤ ((txL.getD ix 0 : Nat) : Int) by omega)) (j_cS (k := 4) hts k_3_224 k_1_18 k_3_222 k_3_223 (by decide +kernel) ⟨Nat.le_of_ble_eq_true rfl, Nat.le_of_ble_eq_true rfl⟩) (j_preS hK hP hD csc csc_all csc_nd (fun _ _ _ _ h => EC.calling h) (fun U hU hW => EC.at hS hAB hU hW hE)) rfl rfl hl.1 rfl (lv_room (Nat.le_of_ble_eq_true rfl)) d_java_lang_StringLatin1_indexOf_33 ⟨Nat.le_of_ble_eq_true rfl, Nat.le_of_ble_eq_true rfl⟩) (fun rv4 u4 H locs hw4 hP hD hS => ?_)
      have hP : va_P D classes (cW T ad S) H := hP
      have hD : va_D A (cW T ad S) := hD
      have qhw4 : -1 ≤ rv4.toInt ∧ (rv4.toInt = -1 ∨ rv4.toInt < rv3.toInt) := hw4
      have rrv4 := zt_rng rv4
      exact j_iret F hr hlocks hK hS () (show -1 ≤ rv4.toInt ∧ (rv4.toInt = -1 ∨ rv4.toInt < ((txL.getD ix 0 : Nat) : Int)) by omega) hP hD d_java_lang_StringLatin1_indexOf_36
    · have fc24_1 : rv3.toInt ≤ rv2.toInt := Int.not_lt.mp (zt_nlt (show rv2.toInt = _ from rfl) (show rv3.toInt = _ from rfl) c24_1)
      refine lv_iconst (v := (-1)) hx hb d_java_lang_StringLatin1_indexOf_27 (by decide) ?_
      exact j_iret F hr hlocks hK hS () (show -1 ≤ (-1 : Int32).toInt ∧ ((-1 : Int32).toInt = -1 ∨ (-1 : Int32).toInt < ((txL.getD ix 0 : Nat) : Int)) by have := tI_m1; omega) hP hD d_java_lang_StringLatin1_indexOf_28
  · have fc4_1 : rv1.toInt = 0 := zt_eq (show rv1.toInt = _ from rfl) tI_0 c4_1
    refine lv_iconst (v := (-1)) hx hb d_java_lang_StringLatin1_indexOf_7 (by decide) ?_
    exact j_iret F hr hlocks hK hS () (show -1 ≤ (-1 : Int32).toInt ∧ ((-1 : Int32).toInt = -1 ∨ (-1 : Int32).toInt < ((txL.getD ix 0 : Nat) : Int)) by have := tI_m1; omega) hP hD d_java_lang_StringLatin1_indexOf_8
theorem d_java_lang_String_indexOf_0 : decode prog_24_method_80_code 0 = .ok (.aload_n 0, 1) := by decide +kernel
theorem d_java_lang_String_indexOf_1 : decode prog_24_method_80_code 1 = .ok (.invokevirtual 492, 3) := by decide +kernel
theorem d_java_lang_String_indexOf_4 : decode prog_24_method_80_code 4 = .ok (.ifCond .eq 19, 3) := by decide +kernel
theorem d_java_lang_String_indexOf_7 : decode prog_24_method_80_code 7 = .ok (.aload_n 0, 1) := by decide +kernel
theorem d_java_lang_String_indexOf_8 : decode prog_24_method_80_code 8 = .ok (.getfield 9, 3) := by decide +kernel
theorem d_java_lang_String_indexOf_11 : decode prog_24_method_80_code 11 = .ok (.iload_n 1, 1) := by decide +kernel
theorem d_java_lang_String_indexOf_12 : decode prog_24_method_80_code 12 = .ok (.iload_n 2, 1) := by decide +kernel
theorem d_java_lang_String_indexOf_13 : decode prog_24_method_80_code 13 = .ok (.aload_n 0, 1) := by decide +kernel
theorem d_java_lang_String_indexOf_14 : decode prog_24_method_80_code 14 = .ok (.invokevirtual 505, 3) := by decide +kernel
theorem k_2_150 : Cond.code ⟨"java/lang/String", "length", "()I"⟩ prog_24_method_54_code 1 (some .int) ∈ gw := gw_of (tb_2 (List.mem_of_getElem? (i := 150) (by decide +kernel))) (by decide +kernel)
theorem k_3_209 : Cond.methodLink "java/lang/String" 505 ⟨"java/lang/String", "length", "()I"⟩ ∈ gw := gw_of (tb_3 (List.mem_of_getElem? (i := 209) (by decide +kernel))) (by decide +kernel)
theorem k_2_148 : Cond.instanceMethod ⟨"java/lang/String", "length", "()I"⟩ ∈ gw := gw_of (tb_2 (List.mem_of_getElem? (i := 148) (by decide +kernel))) (by decide +kernel)
theorem k_2_149 : Cond.selects "java/lang/String" ⟨"java/lang/String", "length", "()I"⟩ ⟨"java/lang/String", "length", "()I"⟩ ∈ gw := gw_of (tb_2 (List.mem_of_getElem? (i := 149) (by decide +kernel))) (by decide +kernel)
theorem d_java_lang_String_indexOf_17 : decode prog_24_method_80_code 17 = .ok (.invokestatic 637, 3) := by decide +kernel
theorem k_3_212 : Cond.code ⟨"java/lang/StringLatin1", "indexOf", "([BIII)I"⟩ prog_25_method_22_code 4 (some .int) ∈ gw := gw_of (tb_3 (List.mem_of_getElem? (i := 212) (by decide +kernel))) (by decide +kernel)
theorem k_3_210 : Cond.methodLink "java/lang/String" 637 ⟨"java/lang/StringLatin1", "indexOf", "([BIII)I"⟩ ∈ gw := gw_of (tb_3 (List.mem_of_getElem? (i := 210) (by decide +kernel))) (by decide +kernel)
theorem k_3_211 : Cond.static ⟨"java/lang/StringLatin1", "indexOf", "([BIII)I"⟩ ∈ gw := gw_of (tb_3 (List.mem_of_getElem? (i := 211) (by decide +kernel))) (by decide +kernel)
theorem d_java_lang_String_indexOf_20 : decode prog_24_method_80_code 20 = .ok (.goto 16, 3) := by decide +kernel
theorem d_java_lang_String_indexOf_36 : decode prog_24_method_80_code 36 = .ok (.ireturn, 1) := by decide +kernel
set_option maxHeartbeats 4000000 in
set_option maxRecDepth 100000 in
theorem c_String_indexOf2 (l : Launch) (D : va_G) (T : Nat → ClassId) (ad : Nat → Nat) (g : GE) (Bq : Nat → Prop) (S : CS) (ix : Nat) (p0 : Int32) (p1 : Int32) (sz : Nat) (hix : ix < 97) : Met l ⟨"java/lang/String", "indexOf", "(II)I"⟩ (wy ⟨"java/lang/String", "indexOf", "(II)I"⟩ prog_24_method_80_code 3 (some .int)) ({ frames := 2, cells := 0, slots := 0, locals := 140 }) (va_Pc [.ref (g_K g ix), .int p0, .int p1] (Pw D T (cW T ad S) sz (EC g Bq ad))) (va_Qi (fun (r : Int32) (u : Unit) => -1 ≤ r.toInt ∧ (r.toInt = -1 ∨ r.toInt < ((txL.getD ix 0 : Nat) : Int))) (fun u t => Bw D T (va_A (cW T ad S) sz) (cW T ad S) t) (va_A (cW T ad S) sz)) 0 0 (va_A (cW T ad S) sz) := by
  refine j_met (y := ⟨"java/lang/String", "indexOf", "(II)I"⟩) (b := prog_24_method_80_code) (n := 3) (ret := (some .int)) (av := [.ref (g_K g ix), .int p0, .int p1]) (Qc := fun A => va_Qi (fun (r : Int32) (u : Unit) => -1 ≤ r.toInt ∧ (r.toInt = -1 ∨ r.toInt < ((txL.getD ix 0 : Nat) : Int))) (fun u t => Bw D T A (cW T ad S) t) A) (by decide +kernel) (Nat.le_of_ble_eq_true rfl) (fun p e s m args below meth c A ls F hr hlocks hnm hK hP hD hS hA hN hE hl => ?_)
  obtain ⟨hx, hb, hml, hown, hts⟩ := id F
  have hl : lv_has ls 3 [(0, .ref (g_K g ix)), (1, .int p0), (2, .int p1)] := hl
  have hAB : ∀ q, A q → Bq q := EC.ab hE hN
  have hEV := hE.1.narrow hAB
  have rp0 := zt_rng p0
  have rp1 := zt_rng p1
  refine lv_aload_n hx hb d_java_lang_String_indexOf_0 rfl (lv_at hl 0 rfl) ?_
  refine jc_ci (w := (fun _ => S)) hK hP hD hS hA (va_runV (As := []) (rest := []) F (c_String_isLatin1 l D T ad g Bq S ix  s.heap.size hix) (j_cV (k := 0) (C := "java/lang/String") hts k_2_164 k_1_17 k_2_161 k_2_162 k_2_163 (by decide +kernel) ⟨Nat.le_of_ble_eq_true rfl, Nat.le_of_ble_eq_true rfl⟩) (jc_preO (j_preS hK hP hD csc csc_all csc_nd (fun _ _ _ _ h => EC.calling h) (fun U hU hW => EC.at hS hAB hU hW hE)) (hEV.2.2.2.2.1.1 _ hix).1 hS) rfl rfl hl.1 rfl (lv_room (Nat.le_of_ble_eq_true rfl)) d_java_lang_String_indexOf_1 ⟨Nat.le_of_ble_eq_true rfl, Nat.le_of_ble_eq_true rfl⟩) (fun rv1 u1 H locs hw1 hP hD hS => ?_)
  have hP : va_P D classes (cW T ad S) H := hP
  have hD : va_D A (cW T ad S) := hD
  have qhw1 : rv1.toInt = 1 := hw1
  have rrv1 := zt_rng rv1
  refine lv_if_eq (tgt := 23) hx hb d_java_lang_String_indexOf_4 (by decide) (fun c4_1 => ?_) (fun c4_1 => ?_)
  · have fc4_1 : rv1.toInt = 0 := zt_eq (show rv1.toInt = _ from rfl) tI_0 c4_1
    exfalso; omega
  · first | have fc4_1 : rv1.toInt < 0 := (by have := zt_ne (show rv1.toInt = _ from rfl) tI_0 c4_1; omega) | have fc4_1 : 0 < rv1.toInt := (by have := zt_ne (show rv1.toInt = _ from rfl) tI_0 c4_1; omega) | skip
    refine lv_aload_n hx hb d_java_lang_String_indexOf_7 rfl (lv_at hl 0 rfl) ?_
    refine vk_getf hx hb (hEV.2.2.2.2.1.1 ix hix).2.2.1 hS hown (hts _ k_8_185) (fun _ h9 => h9) d_java_lang_String_indexOf_8 ?_
    refine lv_iload_n hx hb d_java_lang_String_indexOf_11 rfl (lv_at hl 1 rfl) ?_
    refine lv_iload_n hx hb d_java_lang_String_indexOf_12 rfl (lv_at hl 2 rfl) ?_
    refine lv_aload_n hx hb d_java_lang_String_indexOf_13 rfl (lv_at hl 0 rfl) ?_
    refine jc_ci (w := (fun _ => S)) hK hP hD hS hA (va_runV (As := []) (rest := [.int p1, .int p0, .ref (g_V g ix)]) F (c_String_length l D T ad g Bq S ix  H.size hix) (j_cV (k := 0) (C := "java/lang/String") hts k_2_150 k_1_17 k_3_209 k_2_148 k_2_149 (by decide +kernel) ⟨Nat.le_of_ble_eq_true rfl, Nat.le_of_ble_eq_true rfl⟩) (jc_preO (j_preS hK hP hD csc csc_all csc_nd (fun _ _ _ _ h => EC.calling h) (fun U hU hW => EC.at hS hAB hU hW hE)) (hEV.2.2.2.2.1.1 _ hix).1 hS) rfl rfl hl.1 rfl (lv_room (Nat.le_of_ble_eq_true rfl)) d_java_lang_String_indexOf_14 ⟨Nat.le_of_ble_eq_true rfl, Nat.le_of_ble_eq_true rfl⟩) (fun rv2 u2 H locs hw2 hP hD hS => ?_)
    have hP : va_P D classes (cW T ad S) H := hP
    have hD : va_D A (cW T ad S) := hD
    have qhw2 : rv2.toInt = ((txL.getD ix 0 : Nat) : Int) := hw2
    have rrv2 := zt_rng rv2
    refine jc_ci (w := (fun _ => S)) hK hP hD hS hA (va_runS (As := [.ref (g_V g ix), .int p0, .int p1, .int rv2]) (rest := []) F (c_StringLatin1_indexOf l D T ad g Bq S ix p0 p1 rv2  H.size hix) (j_cS (k := 4) hts k_3_212 k_1_18 k_3_210 k_3_211 (by decide +kernel) ⟨Nat.le_of_ble_eq_true rfl, Nat.le_of_ble_eq_true rfl⟩) (j_preS hK hP hD csc csc_all csc_nd (fun _ _ _ _ h => EC.calling h) (fun U hU hW => EC.at hS hAB hU hW hE)) rfl rfl hl.1 rfl (lv_room (Nat.le_of_ble_eq_true rfl)) d_java_lang_String_indexOf_17 ⟨Nat.le_of_ble_eq_true rfl, Nat.le_of_ble_eq_true rfl⟩) (fun rv3 u3 H locs hw3 hP hD hS => ?_)
    have hP : va_P D classes (cW T ad S) H := hP
    have hD : va_D A (cW T ad S) := hD
    have qhw3 : -1 ≤ rv3.toInt ∧ (rv3.toInt = -1 ∨ rv3.toInt < ((txL.getD ix 0 : Nat) : Int)) := hw3
    have rrv3 := zt_rng rv3
    refine lv_goto (tgt := 36) hx hb d_java_lang_String_indexOf_20 (by decide) ?_
    exact j_iret F hr hlocks hK hS () (show -1 ≤ rv3.toInt ∧ (rv3.toInt = -1 ∨ rv3.toInt < ((txL.getD ix 0 : Nat) : Int)) by omega) hP hD d_java_lang_String_indexOf_36
theorem d_java_lang_String_indexOf_79_0 : decode prog_24_method_79_code 0 = .ok (.aload_n 0, 1) := by decide +kernel
theorem d_java_lang_String_indexOf_79_1 : decode prog_24_method_79_code 1 = .ok (.iload_n 1, 1) := by decide +kernel
theorem d_java_lang_String_indexOf_79_2 : decode prog_24_method_79_code 2 = .ok (.iconst 0, 1) := by decide +kernel
theorem d_java_lang_String_indexOf_79_3 : decode prog_24_method_79_code 3 = .ok (.invokevirtual 633, 3) := by decide +kernel
theorem k_3_208 : Cond.code ⟨"java/lang/String", "indexOf", "(II)I"⟩ prog_24_method_80_code 3 (some .int) ∈ gw := gw_of (tb_3 (List.mem_of_getElem? (i := 208) (by decide +kernel))) (by decide +kernel)
theorem k_3_205 : Cond.methodLink "java/lang/String" 633 ⟨"java/lang/String", "indexOf", "(II)I"⟩ ∈ gw := gw_of (tb_3 (List.mem_of_getElem? (i := 205) (by decide +kernel))) (by decide +kernel)
theorem k_3_206 : Cond.instanceMethod ⟨"java/lang/String", "indexOf", "(II)I"⟩ ∈ gw := gw_of (tb_3 (List.mem_of_getElem? (i := 206) (by decide +kernel))) (by decide +kernel)
theorem k_3_207 : Cond.selects "java/lang/String" ⟨"java/lang/String", "indexOf", "(II)I"⟩ ⟨"java/lang/String", "indexOf", "(II)I"⟩ ∈ gw := gw_of (tb_3 (List.mem_of_getElem? (i := 207) (by decide +kernel))) (by decide +kernel)
theorem d_java_lang_String_indexOf_79_6 : decode prog_24_method_79_code 6 = .ok (.ireturn, 1) := by decide +kernel
set_option maxHeartbeats 4000000 in
set_option maxRecDepth 100000 in
theorem c_String_indexOf (l : Launch) (D : va_G) (T : Nat → ClassId) (ad : Nat → Nat) (g : GE) (Bq : Nat → Prop) (S : CS) (ix : Nat) (p0 : Int32) (sz : Nat) (hix : ix < 97) : Met l ⟨"java/lang/String", "indexOf", "(I)I"⟩ (wy ⟨"java/lang/String", "indexOf", "(I)I"⟩ prog_24_method_79_code 2 (some .int)) ({ frames := 3, cells := 0, slots := 0, locals := 210 }) (va_Pc [.ref (g_K g ix), .int p0] (Pw D T (cW T ad S) sz (EC g Bq ad))) (va_Qi (fun (r : Int32) (u : Unit) => -1 ≤ r.toInt ∧ (r.toInt = -1 ∨ r.toInt < ((txL.getD ix 0 : Nat) : Int))) (fun u t => Bw D T (va_A (cW T ad S) sz) (cW T ad S) t) (va_A (cW T ad S) sz)) 0 0 (va_A (cW T ad S) sz) := by
  refine j_met (y := ⟨"java/lang/String", "indexOf", "(I)I"⟩) (b := prog_24_method_79_code) (n := 2) (ret := (some .int)) (av := [.ref (g_K g ix), .int p0]) (Qc := fun A => va_Qi (fun (r : Int32) (u : Unit) => -1 ≤ r.toInt ∧ (r.toInt = -1 ∨ r.toInt < ((txL.getD ix 0 : Nat) : Int))) (fun u t => Bw D T A (cW T ad S) t) A) (by decide +kernel) (Nat.le_of_ble_eq_true rfl) (fun p e s m args below meth c A ls F hr hlocks hnm hK hP hD hS hA hN hE hl => ?_)
  obtain ⟨hx, hb, hml, hown, hts⟩ := id F
  have hl : lv_has ls 2 [(0, .ref (g_K g ix)), (1, .int p0)] := hl
  have hAB : ∀ q, A q → Bq q := EC.ab hE hN
  have hEV := hE.1.narrow hAB
  have rp0 := zt_rng p0
  refine lv_aload_n hx hb d_java_lang_String_indexOf_79_0 rfl (lv_at hl 0 rfl) ?_
  refine lv_iload_n hx hb d_java_lang_String_indexOf_79_1 rfl (lv_at hl 1 rfl) ?_
  refine lv_iconst (v := 0) hx hb d_java_lang_String_indexOf_79_2 (by decide) ?_
  refine jc_ci (w := (fun _ => S)) hK hP hD hS hA (va_runV (As := [.int p0, .int 0]) (rest := []) F (c_String_indexOf2 l D T ad g Bq S ix p0 (0 : Int32)  s.heap.size hix) (j_cV (k := 2) (C := "java/lang/String") hts k_3_208 k_1_17 k_3_205 k_3_206 k_3_207 (by decide +kernel) ⟨Nat.le_of_ble_eq_true rfl, Nat.le_of_ble_eq_true rfl⟩) (jc_preO (j_preS hK hP hD csc csc_all csc_nd (fun _ _ _ _ h => EC.calling h) (fun U hU hW => EC.at hS hAB hU hW hE)) (hEV.2.2.2.2.1.1 _ hix).1 hS) rfl rfl hl.1 rfl (lv_room (Nat.le_of_ble_eq_true rfl)) d_java_lang_String_indexOf_79_3 ⟨Nat.le_of_ble_eq_true rfl, Nat.le_of_ble_eq_true rfl⟩) (fun rv1 u1 H locs hw1 hP hD hS => ?_)
  have hP : va_P D classes (cW T ad S) H := hP
  have hD : va_D A (cW T ad S) := hD
  have qhw1 : -1 ≤ rv1.toInt ∧ (rv1.toInt = -1 ∨ rv1.toInt < ((txL.getD ix 0 : Nat) : Int)) := by simpa only [tI_0] using hw1
  have rrv1 := zt_rng rv1
  exact j_iret F hr hlocks hK hS () (show -1 ≤ rv1.toInt ∧ (rv1.toInt = -1 ∨ rv1.toInt < ((txL.getD ix 0 : Nat) : Int)) by omega) hP hD d_java_lang_String_indexOf_79_6
