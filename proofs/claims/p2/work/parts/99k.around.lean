/-- the surroundings at the law's start -/
theorem EV_of {s : State} {args : Array Value} (htl : ∀ w ∈ lw_tbl, w.before args s = true) (hgv : (Jvm.Cond.and given_1 narrow_1).before args s = true) : ∃ g : GE, EV g (Rn s.heap.size) s s.heap := by
  have hs := hs_of hgv
  have hA : ∀ a : Nat, a < s.heap.size → ¬ Rn s.heap.size a := fun a h => Nat.not_le.mpr h
  have hop : ∀ (i : Nat), i < 72 → ∀ w ∈ opRec i, w.before args s = true := fun i h w hw => hs w (al_e h hw)
  have hst : ∀ (i : Nat), i < 97 → ∀ w ∈ stRec ("PageScribe$Op", seL.getD i 0, txL.getD i 0, txB.getD i []), w.before args s = true := fun i h w hw => hs w (al_t h hw)
  obtain ⟨adK, adV, hSt, hK⟩ := vk_S2 (args := args) (s := s) (N := 97) (tm := fun i => .string "PageScribe$Op" (seL.getD i 0)) (len := txL) (byt := txB) (A := Rn s.heap.size) tx_31
    (fun i h => hst i h _ (List.mem_append_left _ List.mem_cons_self)) (fun i h => hst i h _ (List.mem_append_left _ (List.mem_cons_of_mem _ List.mem_cons_self))) (fun i h => hst i h _ (List.mem_append_left _ (List.mem_cons_of_mem _ (List.mem_cons_of_mem _ List.mem_cons_self)))) (fun i h => hst i h _ (List.mem_append_left _ (List.mem_cons_of_mem _ (List.mem_cons_of_mem _ (List.mem_cons_of_mem _ List.mem_cons_self)))))
    (fun i h j hj => hst i h _ (List.mem_append_right _ (List.mem_map.mpr ⟨j, List.mem_range.mpr hj, rfl⟩))) (fun i j hi hj h1 h2 => congrArg Fin.val (tx_ap0 ⟨i, hi⟩ ⟨j, hj⟩ h1 h2)) hA
  have hini : (Cond.initialized "PageScribe$Op").before args s = true := (htl _ (tb_1 (List.mem_of_getElem? (i := 25) (by decide +kernel))))
  have h0 : ∀ i : Nat, ∃ t : Nat, i < 72 → (tE i).eval args s none [] s = some (.ref t) := by
    intro i
    by_cases hi : i < 72
    · obtain ⟨a, c, cell, k, q1, -⟩ := Cond.exactly_spec (hop i hi _ List.mem_cons_self)
      exact ⟨a, fun _ => q1⟩
    · exact ⟨0, fun h => absurd h hi⟩
  obtain ⟨en, hen⟩ := Classical.axiomOfChoice h0
  obtain ⟨tO, hO1, hO2⟩ := va_Tof (args := args) (s := s) (tm := tOp) (ty := .object "PageScribe$Op") (N := 72) (f := fun k => .ref (en k)) (A := Rn s.heap.size) (by decide) (hs _ (al_h (List.mem_of_getElem? (i := 6) rfl))) (va_eqt (z := 72) (hs _ (al_h (List.mem_of_getElem? (i := 7) rfl)))) (fun j hj => va_eqv (hs _ (al_o hj)) (hen j hj)) hA
  obtain ⟨tS, hS1, hS2⟩ := va_Tof (args := args) (s := s) (tm := tSw) (ty := .int) (N := 72) (f := fun k => .int (swL.getD k 0)) (A := Rn s.heap.size) (by decide) (hs _ (al_m (List.mem_of_getElem? (i := 8) rfl))) (va_eqt (z := 72) (hs _ (al_m (List.mem_of_getElem? (i := 9) rfl)))) (fun j hj => va_eqt (hs _ (al_s hj))) hA
  refine ⟨(en, adK, adV, (fun i => tkI.getD i 0), (fun i => swL.getD i 0), (fun i => grL.getD i 0), tO, tS), fun i hi => ?_, ⟨?_, hO2⟩, ⟨?_, hS2⟩, ⟨?_, ?_⟩, hSt, fun i hi => (tx_ok0 ⟨i, hi⟩).2.1⟩
  · have hr := hop i hi
    have w1 := hr _ (List.mem_of_getElem? (i := 1) rfl)
    have w2 := hr _ (List.mem_of_getElem? (i := 2) rfl)
    have w3 := hr _ (List.mem_of_getElem? (i := 3) rfl)
    have w4 := hr _ (List.mem_of_getElem? (i := 4) rfl)
    obtain ⟨t1, t2, t3⟩ := tx_ok0 ⟨i, hi⟩
    have k1 := hK i (Nat.lt_trans hi (by decide))
    have k2 := hK _ t2
    dsimp only at t1 t3 k1 k2
    rw [t3] at k1
    rw [t1] at k2
    exact ⟨⟨va_Oof (hr _ List.mem_cons_self) (hen i hi) hA, va_Zref (htl _ (ls_ok hi)) hini (hen i hi) hA⟩, vk_OFof (hen i hi) (va_eqt w1) hA, vk_OFof (hen i hi) (va_eqt w4) hA, vk_OFof (hen i hi) (va_eqv w2 k1) hA, vk_OFof (hen i hi) (va_eqv w3 k2) hA⟩
  · exact va_Zref (htl _ (tb_2 (List.mem_of_getElem? (i := 146) (by decide +kernel)))) (htl _ (tb_1 (List.mem_of_getElem? (i := 1) (by decide +kernel)))) hO1 hA
  · exact va_Zref (htl _ (tb_4 (List.mem_of_getElem? (i := 35) (by decide +kernel)))) (htl _ (tb_1 (List.mem_of_getElem? (i := 23) (by decide +kernel)))) hS1 hA
  · exact va_Zof (htl _ (tb_2 (List.mem_of_getElem? (i := 156) (by decide +kernel)))) (htl _ (tb_1 (List.mem_of_getElem? (i := 17) (by decide +kernel)))) (va_eqi (z := 1) (hs _ (al_m (List.mem_of_getElem? (i := 0) rfl)))) hA
  · exact va_Zqof (htl _ (tb_2 (List.mem_of_getElem? (i := 172) (by decide +kernel)))) (htl _ (tb_1 (List.mem_of_getElem? (i := 19) (by decide +kernel)))) (hs _ (al_m (List.mem_of_getElem? (i := 1) rfl))) hA
theorem nest_of {s : State} {args : Array Value} (htl : ∀ w ∈ lw_tbl, w.before args s = true) : ∀ w ∈ nestL, va_Nw w s := by
  intro w hw
  simp only [nestL, List.mem_cons, List.not_mem_nil, or_false] at hw
  rcases hw with rfl | rfl | rfl | rfl | rfl | rfl | rfl | rfl | rfl | rfl | rfl | rfl | rfl
  · exact va_Nw.of rfl (htl _ (tb_1 (List.mem_of_getElem? (i := 71) (by decide +kernel))))
  · exact va_Nw.of rfl (htl _ (tb_2 (List.mem_of_getElem? (i := 145) (by decide +kernel))))
  · exact va_Nw.of rfl (htl _ (tb_3 (List.mem_of_getElem? (i := 106) (by decide +kernel))))
  · exact va_Nw.of rfl (htl _ (tb_3 (List.mem_of_getElem? (i := 164) (by decide +kernel))))
  · exact va_Nw.of rfl (htl _ (tb_3 (List.mem_of_getElem? (i := 196) (by decide +kernel))))
  · exact va_Nw.of rfl (htl _ (tb_4 (List.mem_of_getElem? (i := 187) (by decide +kernel))))
  · exact va_Nw.of rfl (htl _ (tb_5 (List.mem_of_getElem? (i := 0) (by decide +kernel))))
  · exact va_Nw.of rfl (htl _ (tb_5 (List.mem_of_getElem? (i := 10) (by decide +kernel))))
  · exact va_Nw.of rfl (htl _ (tb_5 (List.mem_of_getElem? (i := 21) (by decide +kernel))))
  · exact va_Nw.of rfl (htl _ (tb_5 (List.mem_of_getElem? (i := 123) (by decide +kernel))))
  · exact va_Nw.of rfl (htl _ (tb_5 (List.mem_of_getElem? (i := 204) (by decide +kernel))))
  · exact va_Nw.of rfl (htl _ (tb_5 (List.mem_of_getElem? (i := 206) (by decide +kernel))))
  · exact va_Nw.of rfl (htl _ (tb_5 (List.mem_of_getElem? (i := 207) (by decide +kernel))))
theorem EY_of {s : State} {args : Array Value} (htl : ∀ w ∈ lw_tbl, w.before args s = true) (hgv : (Jvm.Cond.and given_1 narrow_1).before args s = true) : ZZ s ∧ ZC s ∧ ZI s ∧ NCi s := by
  have hs := hs_of hgv
  have hrf : ∀ u : State, u.vm.Alike u.vm := fun u => Vm.Alike.refl _
  have hss : Sts s s := fun _ _ h _ => h
  have hl1 : (Cond.laysStatic "java/lang/Throwable" "UNASSIGNED_STACK" "[Ljava/lang/StackTraceElement;").before args s = true := (htl _ (tb_3 (List.mem_of_getElem? (i := 17) (by decide +kernel))))
  have hl2 : (Cond.laysStatic "java/lang/Throwable" "SUPPRESSED_SENTINEL" "Ljava/util/List;").before args s = true := (htl _ (tb_3 (List.mem_of_getElem? (i := 19) (by decide +kernel))))
  exact ⟨⟨⟨lays_to (hrf s) hss hl1, lays_to (hrf s) hss hl2⟩, ref_to (hrf s) hss hl1 (hs _ (al_m (List.mem_of_getElem? (i := 5) rfl))), ref_to (hrf s) hss hl2 (hs _ (al_m (List.mem_of_getElem? (i := 6) rfl)))⟩, ⟨⟨cast_to (hrf s) (x := "java/lang/IllegalArgumentException") (y := "java/lang/IllegalArgumentException") (htl _ (tb_2 (List.mem_of_getElem? (i := 232) (by decide +kernel)))), cast_to (hrf s) (x := "java/lang/IndexOutOfBoundsException") (y := "java/lang/IndexOutOfBoundsException") (htl _ (tb_6 (List.mem_of_getElem? (i := 35) (by decide +kernel))))⟩, decl_to (hrf s) (y := ⟨"java/lang/RuntimeException", "<init>", "(Ljava/lang/String;)V"⟩) (htl _ (tb_2 (List.mem_of_getElem? (i := 234) (by decide +kernel)))), decl_to (hrf s) (y := ⟨"java/lang/Exception", "<init>", "(Ljava/lang/String;)V"⟩) (htl _ (tb_2 (List.mem_of_getElem? (i := 236) (by decide +kernel)))), decl_to (hrf s) (y := ⟨"java/lang/Throwable", "<init>", "(Ljava/lang/String;)V"⟩) (htl _ (tb_2 (List.mem_of_getElem? (i := 238) (by decide +kernel))))⟩, cast_to (hrf s) (x := "java/lang/IllegalStateException") (y := "java/lang/IllegalStateException") (htl _ (tb_6 (List.mem_of_getElem? (i := 59) (by decide +kernel)))), NCi.of (hs _ (al_n (List.mem_of_getElem? (i := 29) rfl)))⟩
theorem EY_69 {s : State} {args : Array Value} (htl : ∀ w ∈ lw_tbl, w.before args s = true) (hgv : (Jvm.Cond.and given_1 narrow_1).before args s = true) : ∃ q : Nat, EY 69 "the fuel is not 1 to 500" q s := by
  have h := hs_of hgv (.exactly (.string "PageScribe" 69) "java/lang/String") (List.mem_append_right _ (List.mem_append_right _ (List.mem_append_right _ (List.mem_append_right _ (List.mem_append_right _ (List.mem_append_right _ (List.mem_flatMap.mpr ⟨_, List.mem_of_getElem? (i := 0) rfl, List.mem_append_left _ List.mem_cons_self⟩)))))))
  obtain ⟨q, -, -, -, hq, -⟩ := Cond.exactly_spec h
  have hz := EY_of htl hgv
  exact ⟨q, hz.1, hz.2.1, hz.2.2.1, vk_R.of (htl _ (tb_3 (List.mem_of_getElem? (i := 31) (by decide +kernel)))) hq⟩
theorem EY_129 {s : State} {args : Array Value} (htl : ∀ w ∈ lw_tbl, w.before args s = true) (hgv : (Jvm.Cond.and given_1 narrow_1).before args s = true) : ∃ q : Nat, EY 129 "there is no such VALUE" q s := by
  have h := hs_of hgv (.exactly (.string "PageScribe" 129) "java/lang/String") (List.mem_append_right _ (List.mem_append_right _ (List.mem_append_right _ (List.mem_append_right _ (List.mem_append_right _ (List.mem_append_right _ (List.mem_flatMap.mpr ⟨_, List.mem_of_getElem? (i := 1) rfl, List.mem_append_left _ List.mem_cons_self⟩)))))))
  obtain ⟨q, -, -, -, hq, -⟩ := Cond.exactly_spec h
  have hz := EY_of htl hgv
  exact ⟨q, hz.1, hz.2.1, hz.2.2.1, vk_R.of (htl _ (tb_6 (List.mem_of_getElem? (i := 42) (by decide +kernel)))) hq⟩
theorem EY_141 {s : State} {args : Array Value} (htl : ∀ w ∈ lw_tbl, w.before args s = true) (hgv : (Jvm.Cond.and given_1 narrow_1).before args s = true) : ∃ q : Nat, EY 141 "a REAL has no number" q s := by
  have h := hs_of hgv (.exactly (.string "PageScribe" 141) "java/lang/String") (List.mem_append_right _ (List.mem_append_right _ (List.mem_append_right _ (List.mem_append_right _ (List.mem_append_right _ (List.mem_append_right _ (List.mem_flatMap.mpr ⟨_, List.mem_of_getElem? (i := 2) rfl, List.mem_append_left _ List.mem_cons_self⟩)))))))
  obtain ⟨q, -, -, -, hq, -⟩ := Cond.exactly_spec h
  have hz := EY_of htl hgv
  exact ⟨q, hz.1, hz.2.1, hz.2.2.1, vk_R.of (htl _ (tb_6 (List.mem_of_getElem? (i := 66) (by decide +kernel)))) hq⟩
theorem EY_148 {s : State} {args : Array Value} (htl : ∀ w ∈ lw_tbl, w.before args s = true) (hgv : (Jvm.Cond.and given_1 narrow_1).before args s = true) : ∃ q : Nat, EY 148 "no number" q s := by
  have h := hs_of hgv (.exactly (.string "PageScribe" 148) "java/lang/String") (List.mem_append_right _ (List.mem_append_right _ (List.mem_append_right _ (List.mem_append_right _ (List.mem_append_right _ (List.mem_append_right _ (List.mem_flatMap.mpr ⟨_, List.mem_of_getElem? (i := 3) rfl, List.mem_append_left _ List.mem_cons_self⟩)))))))
  obtain ⟨q, -, -, -, hq, -⟩ := Cond.exactly_spec h
  have hz := EY_of htl hgv
  exact ⟨q, hz.1, hz.2.1, hz.2.2.1, vk_R.of (htl _ (tb_6 (List.mem_of_getElem? (i := 82) (by decide +kernel)))) hq⟩
