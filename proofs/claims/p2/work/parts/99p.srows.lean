theorem k_1_30 : Cond.instantiable "PageScribe" 6 ∈ gw := gw_of (tb_1 (List.mem_of_getElem? (i := 30) (by decide +kernel))) (by decide +kernel)
theorem k_6_85 : Cond.instantiable "PageScribeModel" 45 ∈ gw := gw_of (tb_6 (List.mem_of_getElem? (i := 85) (by decide +kernel))) (by decide +kernel)
theorem d_Lw_law_0 : decode code 0 = .ok (.new 8, 3) := by decide +kernel
theorem k_1_29 : Cond.classLink "PageScribeLaw" 8 "PageScribe" ∈ gw := gw_of (tb_1 (List.mem_of_getElem? (i := 29) (by decide +kernel))) (by decide +kernel)
theorem d_Lw_law_3 : decode code 3 = .ok (.dup, 1) := by decide +kernel
theorem d_Lw_law_4 : decode code 4 = .ok (.aload_n 0, 1) := by decide +kernel
theorem d_Lw_law_5 : decode code 5 = .ok (.iconst 0, 1) := by decide +kernel
theorem d_Lw_law_6 : decode code 6 = .ok (.invokestatic 29, 3) := by decide +kernel
theorem k_2_221 : Cond.code ⟨"PageScribeLaw", "cell", "([II)I"⟩ method_2_code 2 (some .int) ∈ gw := gw_of (tb_2 (List.mem_of_getElem? (i := 221) (by decide +kernel))) (by decide +kernel)
theorem k_2_219 : Cond.methodLink "PageScribeLaw" 29 ⟨"PageScribeLaw", "cell", "([II)I"⟩ ∈ gw := gw_of (tb_2 (List.mem_of_getElem? (i := 219) (by decide +kernel))) (by decide +kernel)
theorem k_2_220 : Cond.static ⟨"PageScribeLaw", "cell", "([II)I"⟩ ∈ gw := gw_of (tb_2 (List.mem_of_getElem? (i := 220) (by decide +kernel))) (by decide +kernel)
theorem d_Lw_law_9 : decode code 9 = .ok (.aload_n 0, 1) := by decide +kernel
theorem d_Lw_law_10 : decode code 10 = .ok (.iconst 1, 1) := by decide +kernel
theorem d_Lw_law_11 : decode code 11 = .ok (.invokestatic 29, 3) := by decide +kernel
theorem d_Lw_law_14 : decode code 14 = .ok (.invokespecial 35, 3) := by decide +kernel
theorem k_1_33 : Cond.code ⟨"PageScribe", "<init>", "(II)V"⟩ prog_1_method_1_code 3 none ∈ gw := gw_of (tb_1 (List.mem_of_getElem? (i := 33) (by decide +kernel))) (by decide +kernel)
theorem k_1_31 : Cond.methodLink "PageScribeLaw" 35 ⟨"PageScribe", "<init>", "(II)V"⟩ ∈ gw := gw_of (tb_1 (List.mem_of_getElem? (i := 31) (by decide +kernel))) (by decide +kernel)
theorem k_1_32 : Cond.instanceMethod ⟨"PageScribe", "<init>", "(II)V"⟩ ∈ gw := gw_of (tb_1 (List.mem_of_getElem? (i := 32) (by decide +kernel))) (by decide +kernel)
theorem d_Lw_law_17 : decode code 17 = .ok (.astore_n 1, 1) := by decide +kernel
theorem d_Lw_law_18 : decode code 18 = .ok (.new 38, 3) := by decide +kernel
theorem k_6_84 : Cond.classLink "PageScribeLaw" 38 "PageScribeModel" ∈ gw := gw_of (tb_6 (List.mem_of_getElem? (i := 84) (by decide +kernel))) (by decide +kernel)
theorem d_Lw_law_21 : decode code 21 = .ok (.dup, 1) := by decide +kernel
theorem d_Lw_law_22 : decode code 22 = .ok (.aload_n 0, 1) := by decide +kernel
theorem d_Lw_law_23 : decode code 23 = .ok (.iconst 0, 1) := by decide +kernel
theorem d_Lw_law_24 : decode code 24 = .ok (.invokestatic 29, 3) := by decide +kernel
theorem d_Lw_law_27 : decode code 27 = .ok (.aload_n 0, 1) := by decide +kernel
theorem d_Lw_law_28 : decode code 28 = .ok (.iconst 1, 1) := by decide +kernel
theorem d_Lw_law_29 : decode code 29 = .ok (.invokestatic 29, 3) := by decide +kernel
theorem d_Lw_law_32 : decode code 32 = .ok (.invokespecial 40, 3) := by decide +kernel
theorem k_6_88 : Cond.code ⟨"PageScribeModel", "<init>", "(II)V"⟩ prog_15_method_1_code 3 none ∈ gw := gw_of (tb_6 (List.mem_of_getElem? (i := 88) rfl)) rfl
theorem k_6_86 : Cond.methodLink "PageScribeLaw" 40 ⟨"PageScribeModel", "<init>", "(II)V"⟩ ∈ gw := gw_of (tb_6 (List.mem_of_getElem? (i := 86) (by decide +kernel))) (by decide +kernel)
theorem k_6_87 : Cond.instanceMethod ⟨"PageScribeModel", "<init>", "(II)V"⟩ ∈ gw := gw_of (tb_6 (List.mem_of_getElem? (i := 87) (by decide +kernel))) (by decide +kernel)
theorem d_Lw_law_35 : decode code 35 = .ok (.astore_n 2, 1) := by decide +kernel
theorem d_Lw_law_36 : decode code 36 = .ok (.iconst 1, 1) := by decide +kernel
theorem d_Lw_law_37 : decode code 37 = .ok (.newarray .long, 2) := by decide +kernel
theorem d_Lw_law_39 : decode code 39 = .ok (.astore_n 3, 1) := by decide +kernel
theorem d_Lw_law_40 : decode code 40 = .ok (.iconst 1, 1) := by decide +kernel
theorem d_Lw_law_41 : decode code 41 = .ok (.newarray .double, 2) := by decide +kernel
theorem d_Lw_law_43 : decode code 43 = .ok (.astore 4, 2) := by decide +kernel
theorem d_Lw_law_45 : decode code 45 = .ok (.iconst 2, 1) := by decide +kernel
theorem d_Lw_law_46 : decode code 46 = .ok (.istore 5, 2) := by decide +kernel
theorem arr_of {s : State} {args : Array Value} {ty : FieldType} (h : (Cond.arrayClass ty).before args s = true) (ht : ∀ C, ty ≠ .object C) : ∃ cA : ClassId, ArrOfT s cA ty ∧ va_RA s cA ty := by
  obtain ⟨c, k, comp, h1, h2, h3⟩ := Cond.arrayClass_spec h
  refine ⟨c, fun n z => ⟨fun k h => (by cases h), k, h2, comp, h3⟩, ?_⟩
  cases ty with
  | object C => exact absurd rfl (ht C)
  | _ => exact h1
theorem arr_ofQ {s : State} {args : Array Value} {C : String} (h : (Cond.arrayOver (.object C)).before args s = true) : ∃ cA : ClassId, ArrOfT s cA (.object C) ∧ va_RA s cA (.object C) := by
  obtain ⟨comp, c, k, h1, h2, h3, h4, h5⟩ := Cond.arrayOver_spec h
  exact ⟨c, fun n z => ⟨fun k h => (by cases h), k, h3, comp, h4⟩, k, comp, h3, h4, h1, h5⟩

def sxL : List Nat := [101, 102, 0, 1, 2, 3, 4, 5, 6, 7, 8, 9, 10, 11, 12, 13, 14, 15, 16, 17, 18, 19, 20, 21, 22, 23, 24, 25, 26, 27, 28, 29, 30, 31, 32, 33, 34, 35, 36, 37, 38, 39, 40, 41, 42, 43, 44, 45, 46, 47, 48, 49, 50, 51, 52, 53, 54, 55, 56, 57, 58, 59, 60, 61, 62, 63, 64, 65, 66, 67, 68, 69, 70, 71, 72, 73, 74, 75, 76, 77, 78, 79, 80, 81, 82, 83, 84, 85, 86, 87, 88, 89, 90, 91, 92, 93, 94, 95, 96, 97, 98, 99, 100]
theorem sx_nd : va_nd sxL = true := by decide +kernel
def scL : List Nat := [0, 1, 2, 3, 4, 5, 6, 7, 8, 9, 10, 11, 12, 13, 14, 15, 16, 17, 18, 19, 20, 21, 22, 23, 24, 25, 26, 27, 28, 29, 30, 31, 32, 33, 34, 35, 36, 37, 38, 39, 40, 41, 42, 43, 44, 45, 46, 47, 48, 49, 50, 51, 52, 53, 54, 55, 56, 57, 58, 59, 60, 61, 62, 63, 64, 65, 66, 67, 68, 69, 70, 71, 72, 73, 74]
theorem sc_nd : va_nd scL = true := by decide +kernel
section SX
variable {T : Nat → ClassId} {ad : Nat → Nat} {Sc : CS} {h0 : Nat} {ar : Nat → Nat} {Sm : MS} {oj od x : Nat × va_E}
set_option maxRecDepth 100000 in
theorem sx_f : sxL.filterMap (fun i => ((((cW T ad Sc ++ mW T h0 ar Sm) ++ [oj]) ++ [od]) : va_W)[i]?) = lW T ad Sc h0 ar Sm oj od := rfl
set_option maxRecDepth 100000 in
theorem sx_m : sxL.map (fun i => ((((cW T ad Sc ++ mW T h0 ar Sm) ++ [oj]) ++ [od]) : va_W)[i]?) = (lW T ad Sc h0 ar Sm oj od).map some := rfl
set_option maxRecDepth 100000 in
theorem sc_m : scL.map (fun i => ((cW T ad Sc ++ [x]) : va_W)[i]?) = (cW T ad Sc).map some := rfl
theorem sc_x : [75].map (fun i => ((cW T ad Sc ++ [x]) : va_W)[i]?) = ([x] : va_W).map some := rfl
theorem sc_d : ∀ i ∈ scL, i ∉ [75] := by decide +kernel
end SX
theorem cw_fst {T : Nat → ClassId} {pa : Nat → Nat} {Sc : CS} : (cW T pa Sc).map (fun x => x.1) = [pa 0, pa 1, pa 2, pa 3, pa 4, pa 5, pa 6, pa 7, pa 8, pa 9, pa 10, pa 11, pa 12, pa 13, pa 14, pa 15, pa 16, pa 17, pa 18, pa 19, pa 20, pa 21, pa 22, pa 23, pa 24, pa 25, pa 26, pa 27, pa 28, pa 29, pa 30, pa 31, pa 32, pa 33, pa 34, pa 35, pa 36, pa 37, pa 38, pa 39, pa 40, pa 41, pa 42, pa 43, pa 44, pa 45, pa 46, pa 47, pa 48, pa 49, pa 50, pa 51, pa 52, pa 53, pa 54, pa 55, pa 56, pa 57, pa 58, pa 59, pa 60, pa 61, pa 62, pa 63, pa 64, pa 65, pa 66, pa 67, pa 68, pa 69, pa 70, pa 71, pa 72, pa 73, pa 74] := rfl
theorem cw_75 {pa : Nat → Nat} : (List.range 75).map pa = [pa 0, pa 1, pa 2, pa 3, pa 4, pa 5, pa 6, pa 7, pa 8, pa 9, pa 10, pa 11, pa 12, pa 13, pa 14, pa 15, pa 16, pa 17, pa 18, pa 19, pa 20, pa 21, pa 22, pa 23, pa 24, pa 25, pa 26, pa 27, pa 28, pa 29, pa 30, pa 31, pa 32, pa 33, pa 34, pa 35, pa 36, pa 37, pa 38, pa 39, pa 40, pa 41, pa 42, pa 43, pa 44, pa 45, pa 46, pa 47, pa 48, pa 49, pa 50, pa 51, pa 52, pa 53, pa 54, pa 55, pa 56, pa 57, pa 58, pa 59, pa 60, pa 61, pa 62, pa 63, pa 64, pa 65, pa 66, pa 67, pa 68, pa 69, pa 70, pa 71, pa 72, pa 73, pa 74] := rfl
theorem cw_in {T : Nat → ClassId} {pa : Nat → Nat} {Sc : CS} {A : Nat → Prop} (hD : va_D A (cW T pa Sc)) : ∀ k : Nat, k < 75 → A (pa k) := by
  intro k hk
  have e1 : (cW T pa Sc).map (fun x => x.1) = (List.range 75).map pa := cw_fst.trans cw_75.symm
  have h4 : ((cW T pa Sc).map (fun x => x.1))[k]? = ((List.range 75).map pa)[k]? := by rw [e1]
  rw [List.getElem?_map, List.getElem?_map, List.getElem?_range hk] at h4
  cases h2 : (cW T pa Sc)[k]? with
  | none => rw [h2] at h4; simp at h4
  | some y =>
    rw [h2] at h4
    have h5 : y.1 = pa k := Option.some.inj h4
    rw [← h5]
    exact hD.2 k y h2
