section JQ2
variable {p : Program} {l : Launch} {e : Env} {R : Room} {s : State} {m : MethodId} {args : Array Value} {below : List Frame} {meth : Method} {c : Code} {H : Heap} {locs : List Loc} {cells slots nL : Nat} {Q : State → Prop}
variable {cc : ByteArray} {pc : Nat} {ls : Array Slot} {rest st0 : List Value} {A : Nat → Prop} {D : va_G} {T : Nat → ClassId} {own : String} {ws wc wr : va_W} {a : Array Value} {mc ms : Nat}
variable {ad : Nat → Nat} {S0 : CS}
theorem j_qret {S : Type} {post : Option Nat → S → Prop} {w1 : S → va_W} {v : Option Nat} {n : String} (F : CallFix p m c cc nL s args gw own) (hr : meth.sig.returnType = some (.object n)) (hlocks : meth.locks = false) (hK : va_K D classes (TY T) s) (hS : va_S A s.heap H locs) (u : S) (hp : post v u) (hP : va_P D classes (w1 u) H) (hD : va_D A (w1 u)) (hdg : decode cc pc = .ok (.areturn, 1)) :
    W p l e R s m args below meth c H locs cells slots (MQ below (va_Qq post (fun u t => Bw D T A (w1 u) t) A) args s cells slots A) (F0 m pc ls [va_rf v]) :=
  W.aret F.1 F.2.1 hr (Or.inl ⟨n, rfl⟩) (va_rf_or v) (fun t ht hW => ⟨⟨v, u, rfl, hp, by rw [ht]; exact hP, va_K.moved hW.alike hK, hD⟩, hS.F ht⟩) hS.2.2 hdg
theorem jc_cq {S : Type} {post : Option Nat → S → Prop} {w : S → CS} (hK : va_K D classes (TY T) s) (hP : va_P D classes (cW T ad S0) H) (hD : va_D A (cW T ad S0)) (hS : va_S A s.heap H locs) (hA : ∀ q : Nat, s.heap.size ≤ q → A q)
    (hr : va_Run p l e R s m args below meth c H locs cells slots mc ms (F0 m pc ls st0) rest (va_Qq post (fun u t => Bw D T (va_A (cW T ad S0) H.size) (cW T ad (w u)) t) (va_A (cW T ad S0) H.size) a) (va_A (cW T ad S0) H.size))
    (kk : ∀ (r : Option Nat) (u : S) (H1 : Heap) (locs1 : List Loc), post r u → va_P D classes (cW T ad (w u)) H1 → va_D A (cW T ad (w u)) → va_S A s.heap H1 locs1 → W p l e R s m args below meth c H1 locs1 (cells + mc) (slots + ms) Q (F0 m (pc + 3) ls (va_rf r :: rest))) : W p l e R s m args below meth c H locs cells slots Q (F0 m pc ls st0) := by
  have hF := va_free hD hS hA csc csc_all
  refine va_callq hr hS (fun q _ h => hF q h) hF (fun r u t H1 locs1 ht hvm hp hB hz hk hS1 => ?_)
  obtain ⟨b1, b2, b3⟩ := hB
  rw [ht] at b1
  obtain ⟨hP1, hD1⟩ := va_join (wr := []) hP hD csc [] csc_all rfl rfl (fun _ h => absurd h List.not_mem_nil) hk hF b1 b3
  exact kk r u H1 locs1 hp hP1 hD1 hS1
end JQ2
def keptP (ad : Nat → Nat) (k : Int) (r : Option Nat) : Prop := r = none ∨ (k = 0 ∧ r = some (ad 24)) ∨ (k = 1 ∧ r = some (ad 36)) ∨ (k = 2 ∧ r = some (ad 48))
theorem kept_is {ad : Nat → Nat} {k : Int} (h : 0 ≤ k ∧ k < 3) : keptP ad k (keptF ad k.toNat) := by
  have h2 : k = 0 ∨ k = 1 ∨ k = 2 := by omega
  rcases h2 with e | e | e <;> subst e
  · exact Or.inr (Or.inl ⟨rfl, rfl⟩)
  · exact Or.inr (Or.inr (Or.inl ⟨rfl, rfl⟩))
  · exact Or.inr (Or.inr (Or.inr ⟨rfl, rfl⟩))
theorem d_Memory_keptAt_0 : decode prog_5_method_22_code 0 = .ok (.iload_n 1, 1) := by decide +kernel
theorem d_Memory_keptAt_1 : decode prog_5_method_22_code 1 = .ok (.ifCond .lt 17, 3) := by decide +kernel
theorem d_Memory_keptAt_18 : decode prog_5_method_22_code 18 = .ok (.aconst_null, 1) := by decide +kernel
theorem d_Memory_keptAt_19 : decode prog_5_method_22_code 19 = .ok (.areturn, 1) := by decide +kernel
theorem d_Memory_keptAt_4 : decode prog_5_method_22_code 4 = .ok (.iload_n 1, 1) := by decide +kernel
theorem d_Memory_keptAt_5 : decode prog_5_method_22_code 5 = .ok (.iconst 3, 1) := by decide +kernel
theorem d_Memory_keptAt_6 : decode prog_5_method_22_code 6 = .ok (.if_icmp .ge 12, 3) := by decide +kernel
theorem d_Memory_keptAt_9 : decode prog_5_method_22_code 9 = .ok (.aload_n 0, 1) := by decide +kernel
theorem d_Memory_keptAt_10 : decode prog_5_method_22_code 10 = .ok (.getfield 26, 3) := by decide +kernel
theorem k_1_136 : Cond.fieldLink "PageScribe$Memory" 26 "PageScribe$Memory" "kept" "[LPageScribe$Store;" ∈ gw := gw_of (tb_1 (List.mem_of_getElem? (i := 136) (by decide +kernel))) (by decide +kernel)
theorem d_Memory_keptAt_13 : decode prog_5_method_22_code 13 = .ok (.iload_n 1, 1) := by decide +kernel
theorem d_Memory_keptAt_14 : decode prog_5_method_22_code 14 = .ok (.aaload, 1) := by decide +kernel
theorem d_Memory_keptAt_15 : decode prog_5_method_22_code 15 = .ok (.goto 4, 3) := by decide +kernel
set_option maxHeartbeats 4000000 in
set_option maxRecDepth 100000 in
theorem c_Memory_keptAt (l : Launch) (D : va_G) (T : Nat → ClassId) (ad : Nat → Nat) (S : CS) (p0 : Int32) (sz : Nat)  : Met l ⟨"PageScribe$Memory", "keptAt", "(I)LPageScribe$Store;"⟩ (wy ⟨"PageScribe$Memory", "keptAt", "(I)LPageScribe$Store;"⟩ prog_5_method_22_code 2 (some (.object "PageScribe$Store"))) ({ frames := 0, cells := 0, slots := 0, locals := 0 }) (va_Pc [.ref (ad 8), .int p0] (Pw D T (cW T ad S) sz E0)) (va_Qq (fun (r : Option Nat) (u : Unit) => keptP ad p0.toInt r) (fun u t => Bw D T (va_A (cW T ad S) sz) (cW T ad S) t) (va_A (cW T ad S) sz)) 0 0 (va_A (cW T ad S) sz) := by
  refine j_met (y := ⟨"PageScribe$Memory", "keptAt", "(I)LPageScribe$Store;"⟩) (b := prog_5_method_22_code) (n := 2) (ret := (some (.object "PageScribe$Store"))) (av := [.ref (ad 8), .int p0]) (Qc := fun A => va_Qq (fun (r : Option Nat) (u : Unit) => keptP ad p0.toInt r) (fun u t => Bw D T A (cW T ad S) t) A) (by decide +kernel) (Nat.le_of_ble_eq_true rfl) (fun p e s m args below meth c A ls F hr hlocks hnm hK hP hD hS hA hN hE hl => ?_)
  obtain ⟨hx, hb, hml, hown, hts⟩ := id F
  have hl : lv_has ls 2 [(0, .ref (ad 8)), (1, .int p0)] := hl
  have rp0 := zt_rng p0
  refine lv_iload_n hx hb d_Memory_keptAt_0 rfl (lv_at hl 1 rfl) ?_
  refine lv_if_lt (tgt := 18) hx hb d_Memory_keptAt_1 (by decide) (fun c1_1 => ?_) (fun c1_1 => ?_)
  · have fc1_1 : p0.toInt < 0 := zt_lt (show p0.toInt = _ from rfl) tI_0 c1_1
    refine lv_null hx hb d_Memory_keptAt_18 ?_
    exact j_qret (v := none) F hr hlocks hK hS () (show keptP ad p0.toInt (none) from Or.inl rfl) hP hD d_Memory_keptAt_19
  · have fc1_1 : 0 ≤ p0.toInt := Int.not_lt.mp (zt_nlt (show p0.toInt = _ from rfl) tI_0 c1_1)
    refine lv_iload_n hx hb d_Memory_keptAt_4 rfl (lv_at hl 1 rfl) ?_
    refine lv_iconst (v := 3) hx hb d_Memory_keptAt_5 (by decide) ?_
    refine lv_icmp_ge (tgt := 18) hx hb d_Memory_keptAt_6 (by decide) (fun c6_1 => ?_) (fun c6_1 => ?_)
    · have fc6_1 : 3 ≤ p0.toInt := zt_le tI_3 (show p0.toInt = _ from rfl) c6_1
      refine lv_null hx hb d_Memory_keptAt_18 ?_
      exact j_qret (v := none) F hr hlocks hK hS () (show keptP ad p0.toInt (none) from Or.inl rfl) hP hD d_Memory_keptAt_19
    · have fc6_1 : p0.toInt < 3 := Int.not_le.mp (zt_nle tI_3 (show p0.toInt = _ from rfl) c6_1)
      refine lv_aload_n hx hb d_Memory_keptAt_9 rfl (lv_at hl 0 rfl) ?_
      refine va_get (D := D) (ci := 2) (v := .ref (ad 10)) (C := "PageScribe$Memory") (T := F_Memory) (N := 8) hx hb hts i_Memory hown hK hP 8 (ce_8 _ _ _) cl_2 4 (by decide) (hts _ k_1_136) (fun _ h9 => h9) rfl d_Memory_keptAt_10 ?_
      refine lv_iload_n hx hb d_Memory_keptAt_13 rfl (lv_at hl 1 rfl) ?_
      refine va_aldq hx hb hK hP 10 4 (ce_10 _ _ _) rfl (zt_in (show p0.toInt = _ from rfl) (by omega) (by omega)) d_Memory_keptAt_14 ?_
      rw [zt_ix (show p0.toInt = _ from rfl)]
      refine lv_goto (tgt := 19) hx hb d_Memory_keptAt_15 (by decide) ?_
      exact j_qret (v := keptF ad p0.toInt.toNat) F hr hlocks hK hS () (show keptP ad p0.toInt (keptF ad p0.toInt.toNat) from kept_is (by omega)) hP hD d_Memory_keptAt_19
theorem d_Memory_slotOf_0 : decode prog_5_method_23_code 0 = .ok (.iconst 0, 1) := by decide +kernel
theorem d_Memory_slotOf_1 : decode prog_5_method_23_code 1 = .ok (.istore_n 2, 1) := by decide +kernel
theorem d_Memory_slotOf_2 : decode prog_5_method_23_code 2 = .ok (.iload_n 2, 1) := by decide +kernel
theorem d_Memory_slotOf_3 : decode prog_5_method_23_code 3 = .ok (.aload_n 0, 1) := by decide +kernel
theorem d_Memory_slotOf_4 : decode prog_5_method_23_code 4 = .ok (.getfield 33, 3) := by decide +kernel
theorem k_1_138 : Cond.fieldLink "PageScribe$Memory" 33 "PageScribe$Memory" "openSaves" "I" ∈ gw := gw_of (tb_1 (List.mem_of_getElem? (i := 138) (by decide +kernel))) (by decide +kernel)
theorem d_Memory_slotOf_7 : decode prog_5_method_23_code 7 = .ok (.if_icmp .ge 26, 3) := by decide +kernel
theorem d_Memory_slotOf_33 : decode prog_5_method_23_code 33 = .ok (.iconst (-1), 1) := by decide +kernel
theorem d_Memory_slotOf_34 : decode prog_5_method_23_code 34 = .ok (.ireturn, 1) := by decide +kernel
theorem d_Memory_slotOf_10 : decode prog_5_method_23_code 10 = .ok (.iload_n 2, 1) := by decide +kernel
theorem d_Memory_slotOf_11 : decode prog_5_method_23_code 11 = .ok (.iconst 3, 1) := by decide +kernel
theorem d_Memory_slotOf_12 : decode prog_5_method_23_code 12 = .ok (.if_icmp .ge 21, 3) := by decide +kernel
theorem d_Memory_slotOf_15 : decode prog_5_method_23_code 15 = .ok (.aload_n 0, 1) := by decide +kernel
theorem d_Memory_slotOf_16 : decode prog_5_method_23_code 16 = .ok (.getfield 30, 3) := by decide +kernel
theorem k_1_137 : Cond.fieldLink "PageScribe$Memory" 30 "PageScribe$Memory" "keptNumbers" "[I" ∈ gw := gw_of (tb_1 (List.mem_of_getElem? (i := 137) (by decide +kernel))) (by decide +kernel)
theorem d_Memory_slotOf_19 : decode prog_5_method_23_code 19 = .ok (.iload_n 2, 1) := by decide +kernel
theorem d_Memory_slotOf_20 : decode prog_5_method_23_code 20 = .ok (.iaload, 1) := by decide +kernel
theorem d_Memory_slotOf_21 : decode prog_5_method_23_code 21 = .ok (.iload_n 1, 1) := by decide +kernel
theorem d_Memory_slotOf_22 : decode prog_5_method_23_code 22 = .ok (.if_icmp .ne 5, 3) := by decide +kernel
theorem d_Memory_slotOf_27 : decode prog_5_method_23_code 27 = .ok (.iinc 2 1, 3) := by decide +kernel
theorem d_Memory_slotOf_30 : decode prog_5_method_23_code 30 = .ok (.goto (-28), 3) := by decide +kernel
theorem d_Memory_slotOf_25 : decode prog_5_method_23_code 25 = .ok (.iload_n 2, 1) := by decide +kernel
theorem d_Memory_slotOf_26 : decode prog_5_method_23_code 26 = .ok (.ireturn, 1) := by decide +kernel
set_option maxHeartbeats 4000000 in
set_option maxRecDepth 100000 in
theorem c_Memory_slotOf (l : Launch) (D : va_G) (T : Nat → ClassId) (ad : Nat → Nat) (S : CS) (p0 : Int32) (sz : Nat)  : Met l ⟨"PageScribe$Memory", "slotOf", "(I)I"⟩ (wy ⟨"PageScribe$Memory", "slotOf", "(I)I"⟩ prog_5_method_23_code 3 (some .int)) ({ frames := 0, cells := 0, slots := 0, locals := 0 }) (va_Pc [.ref (ad 8), .int p0] (Pw D T (cW T ad S) sz E0)) (va_Qi (fun (r : Int32) (u : Unit) => True) (fun u t => Bw D T (va_A (cW T ad S) sz) (cW T ad S) t) (va_A (cW T ad S) sz)) 0 0 (va_A (cW T ad S) sz) := by
  refine j_met (y := ⟨"PageScribe$Memory", "slotOf", "(I)I"⟩) (b := prog_5_method_23_code) (n := 3) (ret := (some .int)) (av := [.ref (ad 8), .int p0]) (Qc := fun A => va_Qi (fun (r : Int32) (u : Unit) => True) (fun u t => Bw D T A (cW T ad S) t) A) (by decide +kernel) (Nat.le_of_ble_eq_true rfl) (fun p e s m args below meth c A ls F hr hlocks hnm hK hP hD hS hA hN hE hl => ?_)
  obtain ⟨hx, hb, hml, hown, hts⟩ := id F
  have hl : lv_has ls 3 [(0, .ref (ad 8)), (1, .int p0)] := hl
  have rp0 := zt_rng p0
  refine lv_iconst (v := 0) hx hb d_Memory_slotOf_0 (by decide) ?_
  refine lv_istore_n (lv' := [(2, .int 0), (0, .ref (ad 8)), (1, .int p0)]) hx hb d_Memory_slotOf_1 rfl hl (by decide) rfl (fun ls hl => ?_)
  refine j_loop (α := Int32) (fun k x H locs ls => (0 ≤ x.toInt ∧ x.toInt ≤ 3 ∧ 3 ≤ x.toInt + ((k : Nat) : Int)) ∧ va_P D classes (cW T ad S) H ∧ va_D A (cW T ad S) ∧ va_S A s.heap H locs ∧ lv_has ls 3 [(2, .int x), (0, .ref (ad 8)), (1, .int p0)]) (fun _ _ ls => F0 m 2 ls []) (fun k x H locs ls hI9 ih => ?_) 3 (0 : Int32) _ _ _ ⟨(show 0 ≤ (0 : Int32).toInt ∧ (0 : Int32).toInt ≤ 3 ∧ 3 ≤ (0 : Int32).toInt + ((3 : Nat) : Int) by have := tI_0; omega), hP, hD, hS, lv_sub hl [0, 1, 2] rfl⟩
  obtain ⟨i, rfl⟩ : ∃ z, z = x := ⟨_, rfl⟩
  obtain ⟨hf1, hP, hD, hS, hl⟩ := hI9
  have hf1 : 0 ≤ i.toInt ∧ i.toInt ≤ 3 ∧ 3 ≤ i.toInt + ((k : Nat) : Int) := hf1
  have hP : va_P D classes (cW T ad S) H := hP
  have hD : va_D A (cW T ad S) := hD
  have hl : lv_has ls 3 [(2, .int i), (0, .ref (ad 8)), (1, .int p0)] := hl
  refine lv_iload_n hx hb d_Memory_slotOf_2 rfl (lv_at hl 0 rfl) ?_
  refine lv_aload_n hx hb d_Memory_slotOf_3 rfl (lv_at hl 1 rfl) ?_
  refine va_get (D := D) (ci := 2) (v := .int (f_xm_openSaves S)) (C := "PageScribe$Memory") (T := F_Memory) (N := 8) hx hb hts i_Memory hown hK hP 8 (ce_8 _ _ _) cl_2 6 (by decide) (hts _ k_1_138) (fun _ h9 => h9) rfl d_Memory_slotOf_4 ?_
  refine lv_icmp_ge (tgt := 33) hx hb d_Memory_slotOf_7 (by decide) (fun c7_1 => ?_) (fun c7_1 => ?_)
  · have fc7_1 : (f_xm_openSaves S).toInt ≤ i.toInt := zt_le (show (f_xm_openSaves S).toInt = _ from rfl) (show i.toInt = _ from rfl) c7_1
    refine lv_iconst (v := (-1)) hx hb d_Memory_slotOf_33 (by decide) ?_
    exact j_iret F hr hlocks hK hS () trivial hP hD d_Memory_slotOf_34
  · have fc7_1 : i.toInt < (f_xm_openSaves S).toInt := Int.not_le.mp (zt_nle (show (f_xm_openSaves S).toInt = _ from rfl) (show i.toInt = _ from rfl) c7_1)
    refine lv_iload_n hx hb d_Memory_slotOf_10 rfl (lv_at hl 0 rfl) ?_
    refine lv_iconst (v := 3) hx hb d_Memory_slotOf_11 (by decide) ?_
    refine lv_icmp_ge (tgt := 33) hx hb d_Memory_slotOf_12 (by decide) (fun c12_1 => ?_) (fun c12_1 => ?_)
    · have fc12_1 : 3 ≤ i.toInt := zt_le tI_3 (show i.toInt = _ from rfl) c12_1
      refine lv_iconst (v := (-1)) hx hb d_Memory_slotOf_33 (by decide) ?_
      exact j_iret F hr hlocks hK hS () trivial hP hD d_Memory_slotOf_34
    · have fc12_1 : i.toInt < 3 := Int.not_le.mp (zt_nle tI_3 (show i.toInt = _ from rfl) c12_1)
      refine lv_aload_n hx hb d_Memory_slotOf_15 rfl (lv_at hl 1 rfl) ?_
      refine va_get (D := D) (ci := 2) (v := .ref (ad 11)) (C := "PageScribe$Memory") (T := F_Memory) (N := 8) hx hb hts i_Memory hown hK hP 8 (ce_8 _ _ _) cl_2 5 (by decide) (hts _ k_1_137) (fun _ h9 => h9) rfl d_Memory_slotOf_16 ?_
      refine lv_iload_n hx hb d_Memory_slotOf_19 rfl (lv_at hl 0 rfl) ?_
      refine va_iald hx hb hK hP 11 0 (ce_11 _ _ _) rfl (zt_in (show i.toInt = _ from rfl) (by omega) (by omega)) d_Memory_slotOf_20 ?_
      refine lv_topi (fun x1 ex1 => ?_)
      have gx1 : x1 = (a_xm_keptNumbers S) i.toInt.toNat := ex1.trans (congrArg _ (zt_ix (show i.toInt = _ from rfl)))
      have fx1 : x1.toInt = ((a_xm_keptNumbers S) i.toInt.toNat).toInt := by rw [gx1]
      have rx1 := zt_rng x1
      refine lv_iload_n hx hb d_Memory_slotOf_21 rfl (lv_at hl 2 rfl) ?_
      refine lv_icmp_ne (tgt := 27) hx hb d_Memory_slotOf_22 (by decide) (fun c22_1 => ?_) (fun c22_1 => ?_)
      · first | have fc22_1 : x1.toInt < p0.toInt := (by have := zt_ne (show x1.toInt = _ from rfl) (show p0.toInt = _ from rfl) c22_1; omega) | have fc22_1 : p0.toInt < x1.toInt := (by have := zt_ne (show x1.toInt = _ from rfl) (show p0.toInt = _ from rfl) c22_1; omega) | skip
        refine lv_iinc (v := (i + 1)) (lv' := [(2, .int (i + 1)), (0, .ref (ad 8)), (1, .int p0)]) hx hb d_Memory_slotOf_27 hl (k := 0) rfl (by first | rfl | decide) (by decide) rfl (fun ls hl => ?_)
        obtain ⟨x2, ex2⟩ : ∃ z, z = (i + 1) := ⟨_, rfl⟩
        rw [← ex2] at hl
        have fx2 : x2.toInt = (i.toInt + 1) := by rw [ex2]; exact (zt_add (show i.toInt = _ from rfl) tI_1 (by omega) (by omega)).trans (by omega)
        have hl : lv_has ls 3 [(2, .int x2), (0, .ref (ad 8)), (1, .int p0)] := hl
        refine lv_goto (tgt := 2) hx hb d_Memory_slotOf_30 (by decide) ?_
        exact ih (k - 1) x2 _ _ _ (by omega) ⟨(show 0 ≤ x2.toInt ∧ x2.toInt ≤ 3 ∧ 3 ≤ x2.toInt + (((k - 1) : Nat) : Int) by omega), hP, hD, hS, lv_sub hl [0, 1, 2] rfl⟩
      · have fc22_1 : x1.toInt = p0.toInt := zt_eq (show x1.toInt = _ from rfl) (show p0.toInt = _ from rfl) c22_1
        refine lv_iload_n hx hb d_Memory_slotOf_25 rfl (lv_at hl 0 rfl) ?_
        exact j_iret F hr hlocks hK hS () trivial hP hD d_Memory_slotOf_26
theorem d_Memory_scopeAt_0 : decode prog_5_method_16_code 0 = .ok (.iload_n 1, 1) := by decide +kernel
theorem d_Memory_scopeAt_1 : decode prog_5_method_16_code 1 = .ok (.ifCond .lt 18, 3) := by decide +kernel
theorem d_Memory_scopeAt_19 : decode prog_5_method_16_code 19 = .ok (.iconst 0, 1) := by decide +kernel
theorem d_Memory_scopeAt_20 : decode prog_5_method_16_code 20 = .ok (.ireturn, 1) := by decide +kernel
theorem d_Memory_scopeAt_4 : decode prog_5_method_16_code 4 = .ok (.iload_n 1, 1) := by decide +kernel
theorem d_Memory_scopeAt_5 : decode prog_5_method_16_code 5 = .ok (.bipush 6, 2) := by decide +kernel
theorem d_Memory_scopeAt_7 : decode prog_5_method_16_code 7 = .ok (.if_icmp .ge 12, 3) := by decide +kernel
theorem d_Memory_scopeAt_10 : decode prog_5_method_16_code 10 = .ok (.aload_n 0, 1) := by decide +kernel
theorem d_Memory_scopeAt_11 : decode prog_5_method_16_code 11 = .ok (.getfield 18, 3) := by decide +kernel
theorem k_1_133 : Cond.fieldLink "PageScribe$Memory" 18 "PageScribe$Memory" "scopes" "[I" ∈ gw := gw_of (tb_1 (List.mem_of_getElem? (i := 133) (by decide +kernel))) (by decide +kernel)
theorem d_Memory_scopeAt_14 : decode prog_5_method_16_code 14 = .ok (.iload_n 1, 1) := by decide +kernel
theorem d_Memory_scopeAt_15 : decode prog_5_method_16_code 15 = .ok (.iaload, 1) := by decide +kernel
theorem d_Memory_scopeAt_16 : decode prog_5_method_16_code 16 = .ok (.goto 4, 3) := by decide +kernel
set_option maxHeartbeats 4000000 in
set_option maxRecDepth 100000 in
theorem c_Memory_scopeAt (l : Launch) (D : va_G) (T : Nat → ClassId) (ad : Nat → Nat) (S : CS) (p0 : Int32) (sz : Nat)  : Met l ⟨"PageScribe$Memory", "scopeAt", "(I)I"⟩ (wy ⟨"PageScribe$Memory", "scopeAt", "(I)I"⟩ prog_5_method_16_code 2 (some .int)) ({ frames := 0, cells := 0, slots := 0, locals := 0 }) (va_Pc [.ref (ad 8), .int p0] (Pw D T (cW T ad S) sz E0)) (va_Qi (fun (r : Int32) (u : Unit) => True) (fun u t => Bw D T (va_A (cW T ad S) sz) (cW T ad S) t) (va_A (cW T ad S) sz)) 0 0 (va_A (cW T ad S) sz) := by
  refine j_met (y := ⟨"PageScribe$Memory", "scopeAt", "(I)I"⟩) (b := prog_5_method_16_code) (n := 2) (ret := (some .int)) (av := [.ref (ad 8), .int p0]) (Qc := fun A => va_Qi (fun (r : Int32) (u : Unit) => True) (fun u t => Bw D T A (cW T ad S) t) A) (by decide +kernel) (Nat.le_of_ble_eq_true rfl) (fun p e s m args below meth c A ls F hr hlocks hnm hK hP hD hS hA hN hE hl => ?_)
  obtain ⟨hx, hb, hml, hown, hts⟩ := id F
  have hl : lv_has ls 2 [(0, .ref (ad 8)), (1, .int p0)] := hl
  have rp0 := zt_rng p0
  refine lv_iload_n hx hb d_Memory_scopeAt_0 rfl (lv_at hl 1 rfl) ?_
  refine lv_if_lt (tgt := 19) hx hb d_Memory_scopeAt_1 (by decide) (fun c1_1 => ?_) (fun c1_1 => ?_)
  · have fc1_1 : p0.toInt < 0 := zt_lt (show p0.toInt = _ from rfl) tI_0 c1_1
    refine lv_iconst (v := 0) hx hb d_Memory_scopeAt_19 (by decide) ?_
    exact j_iret F hr hlocks hK hS () trivial hP hD d_Memory_scopeAt_20
  · have fc1_1 : 0 ≤ p0.toInt := Int.not_lt.mp (zt_nlt (show p0.toInt = _ from rfl) tI_0 c1_1)
    refine lv_iload_n hx hb d_Memory_scopeAt_4 rfl (lv_at hl 1 rfl) ?_
    refine lv_bipush (v := 6) hx hb d_Memory_scopeAt_5 (by decide) ?_
    refine lv_icmp_ge (tgt := 19) hx hb d_Memory_scopeAt_7 (by decide) (fun c7_1 => ?_) (fun c7_1 => ?_)
    · have fc7_1 : 6 ≤ p0.toInt := zt_le tI_6 (show p0.toInt = _ from rfl) c7_1
      refine lv_iconst (v := 0) hx hb d_Memory_scopeAt_19 (by decide) ?_
      exact j_iret F hr hlocks hK hS () trivial hP hD d_Memory_scopeAt_20
    · have fc7_1 : p0.toInt < 6 := Int.not_le.mp (zt_nle tI_6 (show p0.toInt = _ from rfl) c7_1)
      refine lv_aload_n hx hb d_Memory_scopeAt_10 rfl (lv_at hl 0 rfl) ?_
      refine va_get (D := D) (ci := 2) (v := .ref (ad 9)) (C := "PageScribe$Memory") (T := F_Memory) (N := 8) hx hb hts i_Memory hown hK hP 8 (ce_8 _ _ _) cl_2 2 (by decide) (hts _ k_1_133) (fun _ h9 => h9) rfl d_Memory_scopeAt_11 ?_
      refine lv_iload_n hx hb d_Memory_scopeAt_14 rfl (lv_at hl 1 rfl) ?_
      refine va_iald hx hb hK hP 9 0 (ce_9 _ _ _) rfl (zt_in (show p0.toInt = _ from rfl) (by omega) (by omega)) d_Memory_scopeAt_15 ?_
      refine lv_topi (fun x1 ex1 => ?_)
      have gx1 : x1 = (a_xm_scopes S) p0.toInt.toNat := ex1.trans (congrArg _ (zt_ix (show p0.toInt = _ from rfl)))
      have fx1 : x1.toInt = ((a_xm_scopes S) p0.toInt.toNat).toInt := by rw [gx1]
      have rx1 := zt_rng x1
      refine lv_goto (tgt := 20) hx hb d_Memory_scopeAt_16 (by decide) ?_
      exact j_iret F hr hlocks hK hS () trivial hP hD d_Memory_scopeAt_20
theorem d_Memory_scopesMadeSince_0 : decode prog_5_method_24_code 0 = .ok (.iconst 0, 1) := by decide +kernel
theorem d_Memory_scopesMadeSince_1 : decode prog_5_method_24_code 1 = .ok (.istore_n 2, 1) := by decide +kernel
theorem d_Memory_scopesMadeSince_2 : decode prog_5_method_24_code 2 = .ok (.iload_n 2, 1) := by decide +kernel
theorem d_Memory_scopesMadeSince_3 : decode prog_5_method_24_code 3 = .ok (.aload_n 0, 1) := by decide +kernel
theorem d_Memory_scopesMadeSince_4 : decode prog_5_method_24_code 4 = .ok (.getfield 22, 3) := by decide +kernel
theorem k_1_134 : Cond.fieldLink "PageScribe$Memory" 22 "PageScribe$Memory" "scopeCount" "I" ∈ gw := gw_of (tb_1 (List.mem_of_getElem? (i := 134) (by decide +kernel))) (by decide +kernel)
theorem d_Memory_scopesMadeSince_7 : decode prog_5_method_24_code 7 = .ok (.if_icmp .ge 23, 3) := by decide +kernel
theorem d_Memory_scopesMadeSince_30 : decode prog_5_method_24_code 30 = .ok (.iconst 0, 1) := by decide +kernel
theorem d_Memory_scopesMadeSince_31 : decode prog_5_method_24_code 31 = .ok (.ireturn, 1) := by decide +kernel
theorem d_Memory_scopesMadeSince_10 : decode prog_5_method_24_code 10 = .ok (.aload_n 1, 1) := by decide +kernel
theorem d_Memory_scopesMadeSince_11 : decode prog_5_method_24_code 11 = .ok (.aload_n 0, 1) := by decide +kernel
theorem d_Memory_scopesMadeSince_12 : decode prog_5_method_24_code 12 = .ok (.iload_n 2, 1) := by decide +kernel
theorem d_Memory_scopesMadeSince_13 : decode prog_5_method_24_code 13 = .ok (.invokevirtual 176, 3) := by decide +kernel
theorem k_3_180 : Cond.code ⟨"PageScribe$Memory", "scopeAt", "(I)I"⟩ prog_5_method_16_code 2 (some .int) ∈ gw := gw_of (tb_3 (List.mem_of_getElem? (i := 180) (by decide +kernel))) (by decide +kernel)
theorem k_1_5 : Cond.initialized "PageScribe$Memory" ∈ gw := gw_of (tb_1 (List.mem_of_getElem? (i := 5) (by decide +kernel))) (by decide +kernel)
theorem k_3_177 : Cond.methodLink "PageScribe$Memory" 176 ⟨"PageScribe$Memory", "scopeAt", "(I)I"⟩ ∈ gw := gw_of (tb_3 (List.mem_of_getElem? (i := 177) (by decide +kernel))) (by decide +kernel)
theorem k_3_179 : Cond.instanceMethod ⟨"PageScribe$Memory", "scopeAt", "(I)I"⟩ ∈ gw := gw_of (tb_3 (List.mem_of_getElem? (i := 179) (by decide +kernel))) (by decide +kernel)
theorem k_0_15 : Cond.selects "PageScribe$Memory" ⟨"PageScribe$Memory", "scopeAt", "(I)I"⟩ ⟨"PageScribe$Memory", "scopeAt", "(I)I"⟩ ∈ gw := gw_of (tb_0 (List.mem_of_getElem? (i := 15) (by decide +kernel))) (by decide +kernel)
theorem d_Memory_scopesMadeSince_16 : decode prog_5_method_24_code 16 = .ok (.invokevirtual 204, 3) := by decide +kernel
theorem k_5_118 : Cond.methodLink "PageScribe$Memory" 204 ⟨"PageScribe$Store", "hasDict", "(I)Z"⟩ ∈ gw := gw_of (tb_5 (List.mem_of_getElem? (i := 118) (by decide +kernel))) (by decide +kernel)
theorem d_Memory_scopesMadeSince_19 : decode prog_5_method_24_code 19 = .ok (.ifCond .ne 5, 3) := by decide +kernel
theorem d_Memory_scopesMadeSince_24 : decode prog_5_method_24_code 24 = .ok (.iinc 2 1, 3) := by decide +kernel
theorem d_Memory_scopesMadeSince_27 : decode prog_5_method_24_code 27 = .ok (.goto (-25), 3) := by decide +kernel
theorem d_Memory_scopesMadeSince_22 : decode prog_5_method_24_code 22 = .ok (.iconst 1, 1) := by decide +kernel
theorem d_Memory_scopesMadeSince_23 : decode prog_5_method_24_code 23 = .ok (.ireturn, 1) := by decide +kernel
set_option maxHeartbeats 4000000 in
set_option maxRecDepth 100000 in
theorem c_Memory_scopesMadeSince_24 (l : Launch) (D : va_G) (T : Nat → ClassId) (ad : Nat → Nat) (S : CS)  (sz : Nat)  : Met l ⟨"PageScribe$Memory", "scopesMadeSince", "(LPageScribe$Store;)Z"⟩ (wy ⟨"PageScribe$Memory", "scopesMadeSince", "(LPageScribe$Store;)Z"⟩ prog_5_method_24_code 3 (some .boolean)) ({ frames := 1, cells := 0, slots := 0, locals := 70 }) (va_Pc [.ref (ad 8), .ref (ad 24)] (Pw D T (cW T ad S) sz E0)) (va_Qi (fun (r : Int32) (u : Unit) => r.toInt = 0 ∨ r.toInt = 1) (fun u t => Bw D T (va_A (cW T ad S) sz) (cW T ad S) t) (va_A (cW T ad S) sz)) 0 0 (va_A (cW T ad S) sz) := by
  refine j_met (y := ⟨"PageScribe$Memory", "scopesMadeSince", "(LPageScribe$Store;)Z"⟩) (b := prog_5_method_24_code) (n := 3) (ret := (some .boolean)) (av := [.ref (ad 8), .ref (ad 24)]) (Qc := fun A => va_Qi (fun (r : Int32) (u : Unit) => r.toInt = 0 ∨ r.toInt = 1) (fun u t => Bw D T A (cW T ad S) t) A) (by decide +kernel) (Nat.le_of_ble_eq_true rfl) (fun p e s m args below meth c A ls F hr hlocks hnm hK hP hD hS hA hN hE hl => ?_)
  obtain ⟨hx, hb, hml, hown, hts⟩ := id F
  have hl : lv_has ls 3 [(0, .ref (ad 8)), (1, .ref (ad 24))] := hl
  refine lv_iconst (v := 0) hx hb d_Memory_scopesMadeSince_0 (by decide) ?_
  refine lv_istore_n (lv' := [(2, .int 0), (0, .ref (ad 8)), (1, .ref (ad 24))]) hx hb d_Memory_scopesMadeSince_1 rfl hl (by decide) rfl (fun ls hl => ?_)
  refine j_loop (α := Int32) (fun k x H locs ls => (0 ≤ x.toInt ∧ (f_xm_scopeCount S).toInt ≤ x.toInt + ((k : Nat) : Int)) ∧ va_P D classes (cW T ad S) H ∧ va_D A (cW T ad S) ∧ va_S A s.heap H locs ∧ lv_has ls 3 [(2, .int x), (0, .ref (ad 8)), (1, .ref (ad 24))]) (fun _ _ ls => F0 m 2 ls []) (fun k x H locs ls hI9 ih => ?_) ((f_xm_scopeCount S).toInt).toNat (0 : Int32) _ _ _ ⟨(show 0 ≤ (0 : Int32).toInt ∧ (f_xm_scopeCount S).toInt ≤ (0 : Int32).toInt + ((((f_xm_scopeCount S).toInt).toNat : Nat) : Int) by have := tI_0; omega), hP, hD, hS, lv_sub hl [0, 1, 2] rfl⟩
  obtain ⟨i, rfl⟩ : ∃ z, z = x := ⟨_, rfl⟩
  obtain ⟨hf1, hP, hD, hS, hl⟩ := hI9
  have hf1 : 0 ≤ i.toInt ∧ (f_xm_scopeCount S).toInt ≤ i.toInt + ((k : Nat) : Int) := hf1
  have hP : va_P D classes (cW T ad S) H := hP
  have hD : va_D A (cW T ad S) := hD
  have hl : lv_has ls 3 [(2, .int i), (0, .ref (ad 8)), (1, .ref (ad 24))] := hl
  refine lv_iload_n hx hb d_Memory_scopesMadeSince_2 rfl (lv_at hl 0 rfl) ?_
  refine lv_aload_n hx hb d_Memory_scopesMadeSince_3 rfl (lv_at hl 1 rfl) ?_
  refine va_get (D := D) (ci := 2) (v := .int (f_xm_scopeCount S)) (C := "PageScribe$Memory") (T := F_Memory) (N := 8) hx hb hts i_Memory hown hK hP 8 (ce_8 _ _ _) cl_2 3 (by decide) (hts _ k_1_134) (fun _ h9 => h9) rfl d_Memory_scopesMadeSince_4 ?_
  have qr_14 := zt_rng (f_xm_scopeCount S)
  refine lv_icmp_ge (tgt := 30) hx hb d_Memory_scopesMadeSince_7 (by decide) (fun c7_1 => ?_) (fun c7_1 => ?_)
  · have fc7_1 : (f_xm_scopeCount S).toInt ≤ i.toInt := zt_le (show (f_xm_scopeCount S).toInt = _ from rfl) (show i.toInt = _ from rfl) c7_1
    refine lv_iconst (v := 0) hx hb d_Memory_scopesMadeSince_30 (by decide) ?_
    exact j_zret F hr (by decide +kernel) hlocks hK hS () (show (0 : Int32).toInt = 0 ∨ (0 : Int32).toInt = 1 by have := tI_0; omega) hP hD d_Memory_scopesMadeSince_31
  · have fc7_1 : i.toInt < (f_xm_scopeCount S).toInt := Int.not_le.mp (zt_nle (show (f_xm_scopeCount S).toInt = _ from rfl) (show i.toInt = _ from rfl) c7_1)
    refine lv_aload_n hx hb d_Memory_scopesMadeSince_10 rfl (lv_at hl 2 rfl) ?_
    refine lv_aload_n hx hb d_Memory_scopesMadeSince_11 rfl (lv_at hl 1 rfl) ?_
    refine lv_iload_n hx hb d_Memory_scopesMadeSince_12 rfl (lv_at hl 0 rfl) ?_
    refine jc_ci (w := (fun _ => S)) hK hP hD hS hA (va_runV (As := [.int i]) (rest := [.ref (ad 24)]) F (c_Memory_scopeAt l D T ad S i  H.size) (j_cV (k := 1) (C := "PageScribe$Memory") hts k_3_180 k_1_5 k_3_177 k_3_179 k_0_15 (by decide +kernel) ⟨Nat.le_of_ble_eq_true rfl, Nat.le_of_ble_eq_true rfl⟩) (j_preV (q0 := 8) (ci := 2) hK hP hD csc csc_all csc_nd cl_2 (ce_8 _ _ _) (fun _ _ _ _ h => h) (fun _ _ _ => trivial)) rfl rfl hl.1 rfl (lv_room (Nat.le_of_ble_eq_true rfl)) d_Memory_scopesMadeSince_13 ⟨Nat.le_of_ble_eq_true rfl, Nat.le_of_ble_eq_true rfl⟩) (fun rv1 u1 H locs hw1 hP hD hS => ?_)
    have hP : va_P D classes (cW T ad S) H := hP
    have hD : va_D A (cW T ad S) := hD
    have rrv1 := zt_rng rv1
    refine jc_ci (w := (fun _ => S)) hK hP hD hS hA (va_runV (As := [.int rv1]) (rest := []) F (c_Store_hasDict_24 l D T ad S rv1  H.size) (j_cV (k := 1) (C := "PageScribe$Store") hts k_3_188 k_1_6 k_5_118 k_3_186 k_3_187 (by decide +kernel) ⟨Nat.le_of_ble_eq_true rfl, Nat.le_of_ble_eq_true rfl⟩) (j_preV (q0 := 24) (ci := 3) hK hP hD csc csc_all csc_nd cl_3 (ce_24 _ _ _) (fun _ _ _ _ h => h) (fun _ _ _ => trivial)) rfl rfl hl.1 rfl (lv_room (Nat.le_of_ble_eq_true rfl)) d_Memory_scopesMadeSince_16 ⟨Nat.le_of_ble_eq_true rfl, Nat.le_of_ble_eq_true rfl⟩) (fun rv2 u2 H locs hw2 hP hD hS => ?_)
    have hP : va_P D classes (cW T ad S) H := hP
    have hD : va_D A (cW T ad S) := hD
    have qhw2 : rv2.toInt = 0 ∨ (rv2.toInt = 1 ∧ 0 ≤ rv1.toInt ∧ rv1.toInt < 7) := hw2
    have rrv2 := zt_rng rv2
    refine lv_if_ne (tgt := 24) hx hb d_Memory_scopesMadeSince_19 (by decide) (fun c19_1 => ?_) (fun c19_1 => ?_)
    · first | have fc19_1 : rv2.toInt < 0 := (by have := zt_ne (show rv2.toInt = _ from rfl) tI_0 c19_1; omega) | have fc19_1 : 0 < rv2.toInt := (by have := zt_ne (show rv2.toInt = _ from rfl) tI_0 c19_1; omega) | skip
      refine lv_iinc (v := (i + 1)) (lv' := [(2, .int (i + 1)), (0, .ref (ad 8)), (1, .ref (ad 24))]) hx hb d_Memory_scopesMadeSince_24 hl (k := 0) rfl (by first | rfl | decide) (by decide) rfl (fun ls hl => ?_)
      obtain ⟨x1, ex1⟩ : ∃ z, z = (i + 1) := ⟨_, rfl⟩
      rw [← ex1] at hl
      have fx1 : x1.toInt = (i.toInt + 1) := by rw [ex1]; exact (zt_add (show i.toInt = _ from rfl) tI_1 (by omega) (by omega)).trans (by omega)
      have hl : lv_has ls 3 [(2, .int x1), (0, .ref (ad 8)), (1, .ref (ad 24))] := hl
      refine lv_goto (tgt := 2) hx hb d_Memory_scopesMadeSince_27 (by decide) ?_
      exact ih (k - 1) x1 _ _ _ (by omega) ⟨(show 0 ≤ x1.toInt ∧ (f_xm_scopeCount S).toInt ≤ x1.toInt + (((k - 1) : Nat) : Int) by omega), hP, hD, hS, lv_sub hl [0, 1, 2] rfl⟩
    · have fc19_1 : rv2.toInt = 0 := zt_eq (show rv2.toInt = _ from rfl) tI_0 c19_1
      refine lv_iconst (v := 1) hx hb d_Memory_scopesMadeSince_22 (by decide) ?_
      exact j_zret F hr (by decide +kernel) hlocks hK hS () (show (1 : Int32).toInt = 0 ∨ (1 : Int32).toInt = 1 by have := tI_1; omega) hP hD d_Memory_scopesMadeSince_23
theorem d_Memory_stackMadeSince_0 : decode prog_5_method_25_code 0 = .ok (.iconst 1, 1) := by decide +kernel
theorem d_Memory_stackMadeSince_1 : decode prog_5_method_25_code 1 = .ok (.istore_n 3, 1) := by decide +kernel
theorem d_Memory_stackMadeSince_2 : decode prog_5_method_25_code 2 = .ok (.iload_n 3, 1) := by decide +kernel
theorem d_Memory_stackMadeSince_3 : decode prog_5_method_25_code 3 = .ok (.aload_n 0, 1) := by decide +kernel
theorem d_Memory_stackMadeSince_4 : decode prog_5_method_25_code 4 = .ok (.getfield 39, 3) := by decide +kernel
theorem k_1_129 : Cond.fieldLink "PageScribe$Memory" 39 "PageScribe$Memory" "stack" "LPageScribe$Stack;" ∈ gw := gw_of (tb_1 (List.mem_of_getElem? (i := 129) (by decide +kernel))) (by decide +kernel)
theorem d_Memory_stackMadeSince_7 : decode prog_5_method_25_code 7 = .ok (.getfield 90, 3) := by decide +kernel
theorem k_1_53 : Cond.fieldLink "PageScribe$Memory" 90 "PageScribe$Stack" "size" "I" ∈ gw := gw_of (tb_1 (List.mem_of_getElem? (i := 53) (by decide +kernel))) (by decide +kernel)
theorem d_Memory_stackMadeSince_10 : decode prog_5_method_25_code 10 = .ok (.if_icmp .ge 92, 3) := by decide +kernel
theorem d_Memory_stackMadeSince_102 : decode prog_5_method_25_code 102 = .ok (.iconst 0, 1) := by decide +kernel
theorem d_Memory_stackMadeSince_103 : decode prog_5_method_25_code 103 = .ok (.ireturn, 1) := by decide +kernel
theorem d_Memory_stackMadeSince_13 : decode prog_5_method_25_code 13 = .ok (.aload_n 0, 1) := by decide +kernel
theorem d_Memory_stackMadeSince_14 : decode prog_5_method_25_code 14 = .ok (.getfield 39, 3) := by decide +kernel
theorem d_Memory_stackMadeSince_17 : decode prog_5_method_25_code 17 = .ok (.iload_n 3, 1) := by decide +kernel
theorem d_Memory_stackMadeSince_18 : decode prog_5_method_25_code 18 = .ok (.invokevirtual 105, 3) := by decide +kernel
theorem k_4_237 : Cond.methodLink "PageScribe$Memory" 105 ⟨"PageScribe$Stack", "numberDown", "(I)I"⟩ ∈ gw := gw_of (tb_4 (List.mem_of_getElem? (i := 237) (by decide +kernel))) (by decide +kernel)
theorem d_Memory_stackMadeSince_21 : decode prog_5_method_25_code 21 = .ok (.istore 4, 2) := by decide +kernel
theorem d_Memory_stackMadeSince_23 : decode prog_5_method_25_code 23 = .ok (.aload_n 0, 1) := by decide +kernel
theorem d_Memory_stackMadeSince_24 : decode prog_5_method_25_code 24 = .ok (.getfield 39, 3) := by decide +kernel
theorem d_Memory_stackMadeSince_27 : decode prog_5_method_25_code 27 = .ok (.iload_n 3, 1) := by decide +kernel
theorem d_Memory_stackMadeSince_28 : decode prog_5_method_25_code 28 = .ok (.invokevirtual 63, 3) := by decide +kernel
theorem k_5_5 : Cond.methodLink "PageScribe$Memory" 63 ⟨"PageScribe$Stack", "kindDown", "(I)I"⟩ ∈ gw := gw_of (tb_5 (List.mem_of_getElem? (i := 5) (by decide +kernel))) (by decide +kernel)
theorem d_Memory_stackMadeSince_31 : decode prog_5_method_25_code 31 = .ok (.bipush 7, 2) := by decide +kernel
theorem d_Memory_stackMadeSince_33 : decode prog_5_method_25_code 33 = .ok (.iand, 1) := by decide +kernel
theorem d_Memory_stackMadeSince_34 : decode prog_5_method_25_code 34 = .ok (.tableswitch 62 5 7 #[26, 43, 54], 26) := by decide +kernel
theorem d_Memory_stackMadeSince_60 : decode prog_5_method_25_code 60 = .ok (.iload 4, 2) := by decide +kernel
theorem d_Memory_stackMadeSince_62 : decode prog_5_method_25_code 62 = .ok (.invokestatic 207, 3) := by decide +kernel
theorem k_5_125 : Cond.code ⟨"PageScribe", "endOf", "(I)I"⟩ prog_1_method_18_code 2 (some .int) ∈ gw := gw_of (tb_5 (List.mem_of_getElem? (i := 125) (by decide +kernel))) (by decide +kernel)
theorem k_5_124 : Cond.static ⟨"PageScribe", "endOf", "(I)I"⟩ ∈ gw := gw_of (tb_5 (List.mem_of_getElem? (i := 124) (by decide +kernel))) (by decide +kernel)
theorem d_Memory_stackMadeSince_65 : decode prog_5_method_25_code 65 = .ok (.aload_n 1, 1) := by decide +kernel
theorem d_Memory_stackMadeSince_66 : decode prog_5_method_25_code 66 = .ok (.getfield 112, 3) := by decide +kernel
theorem k_1_108 : Cond.fieldLink "PageScribe$Memory" 112 "PageScribe$Store" "cells" "LPageScribe$Row;" ∈ gw := gw_of (tb_1 (List.mem_of_getElem? (i := 108) (by decide +kernel))) (by decide +kernel)
theorem d_Memory_stackMadeSince_69 : decode prog_5_method_25_code 69 = .ok (.getfield 116, 3) := by decide +kernel
theorem k_1_54 : Cond.fieldLink "PageScribe$Memory" 116 "PageScribe$Row" "size" "I" ∈ gw := gw_of (tb_1 (List.mem_of_getElem? (i := 54) (by decide +kernel))) (by decide +kernel)
theorem d_Memory_stackMadeSince_72 : decode prog_5_method_25_code 72 = .ok (.if_icmp .le 24, 3) := by decide +kernel
theorem d_Memory_stackMadeSince_96 : decode prog_5_method_25_code 96 = .ok (.iinc 3 1, 3) := by decide +kernel
theorem d_Memory_stackMadeSince_99 : decode prog_5_method_25_code 99 = .ok (.goto (-97), 3) := by decide +kernel
theorem d_Memory_stackMadeSince_75 : decode prog_5_method_25_code 75 = .ok (.iconst 1, 1) := by decide +kernel
theorem d_Memory_stackMadeSince_76 : decode prog_5_method_25_code 76 = .ok (.ireturn, 1) := by decide +kernel
theorem d_Memory_stackMadeSince_77 : decode prog_5_method_25_code 77 = .ok (.aload_n 1, 1) := by decide +kernel
theorem d_Memory_stackMadeSince_78 : decode prog_5_method_25_code 78 = .ok (.iload 4, 2) := by decide +kernel
theorem d_Memory_stackMadeSince_80 : decode prog_5_method_25_code 80 = .ok (.invokevirtual 204, 3) := by decide +kernel
theorem d_Memory_stackMadeSince_83 : decode prog_5_method_25_code 83 = .ok (.ifCond .ne 13, 3) := by decide +kernel
theorem d_Memory_stackMadeSince_86 : decode prog_5_method_25_code 86 = .ok (.iconst 1, 1) := by decide +kernel
theorem d_Memory_stackMadeSince_87 : decode prog_5_method_25_code 87 = .ok (.ireturn, 1) := by decide +kernel
theorem d_Memory_stackMadeSince_88 : decode prog_5_method_25_code 88 = .ok (.iload 4, 2) := by decide +kernel
theorem d_Memory_stackMadeSince_90 : decode prog_5_method_25_code 90 = .ok (.iload_n 2, 1) := by decide +kernel
theorem d_Memory_stackMadeSince_91 : decode prog_5_method_25_code 91 = .ok (.if_icmp .le 5, 3) := by decide +kernel
theorem d_Memory_stackMadeSince_94 : decode prog_5_method_25_code 94 = .ok (.iconst 1, 1) := by decide +kernel
theorem d_Memory_stackMadeSince_95 : decode prog_5_method_25_code 95 = .ok (.ireturn, 1) := by decide +kernel
set_option maxHeartbeats 4000000 in
set_option maxRecDepth 100000 in
theorem c_Memory_stackMadeSince_24 (l : Launch) (D : va_G) (T : Nat → ClassId) (ad : Nat → Nat) (g : GE) (Bq : Nat → Prop) (S : CS) (p0 : Int32) (sz : Nat)  : Met l ⟨"PageScribe$Memory", "stackMadeSince", "(LPageScribe$Store;I)Z"⟩ (wy ⟨"PageScribe$Memory", "stackMadeSince", "(LPageScribe$Store;I)Z"⟩ prog_5_method_25_code 5 (some .boolean)) ({ frames := 2, cells := 0, slots := 0, locals := 140 }) (va_Pc [.ref (ad 8), .ref (ad 24), .int p0] (Pw D T (cW T ad S) sz (EC g Bq ad))) (va_Qi (fun (r : Int32) (u : Unit) => r.toInt = 0 ∨ r.toInt = 1) (fun u t => Bw D T (va_A (cW T ad S) sz) (cW T ad S) t) (va_A (cW T ad S) sz)) 0 0 (va_A (cW T ad S) sz) := by
  refine j_met (y := ⟨"PageScribe$Memory", "stackMadeSince", "(LPageScribe$Store;I)Z"⟩) (b := prog_5_method_25_code) (n := 5) (ret := (some .boolean)) (av := [.ref (ad 8), .ref (ad 24), .int p0]) (Qc := fun A => va_Qi (fun (r : Int32) (u : Unit) => r.toInt = 0 ∨ r.toInt = 1) (fun u t => Bw D T A (cW T ad S) t) A) (by decide +kernel) (Nat.le_of_ble_eq_true rfl) (fun p e s m args below meth c A ls F hr hlocks hnm hK hP hD hS hA hN hE hl => ?_)
  obtain ⟨hx, hb, hml, hown, hts⟩ := id F
  have hl : lv_has ls 5 [(0, .ref (ad 8)), (1, .ref (ad 24)), (2, .int p0)] := hl
  have hAB : ∀ q, A q → Bq q := EC.ab hE hN
  have hEV := hE.1.narrow hAB
  have rp0 := zt_rng p0
  refine lv_iconst (v := 1) hx hb d_Memory_stackMadeSince_0 (by decide) ?_
  refine lv_istore_n (lv' := [(3, .int 1), (0, .ref (ad 8)), (1, .ref (ad 24)), (2, .int p0)]) hx hb d_Memory_stackMadeSince_1 rfl hl (by decide) rfl (fun ls hl => ?_)
  refine j_loop (α := Int32) (fun k x H locs ls => (1 ≤ x.toInt ∧ (f_xst_z S).toInt ≤ x.toInt + ((k : Nat) : Int)) ∧ va_P D classes (cW T ad S) H ∧ va_D A (cW T ad S) ∧ va_S A s.heap H locs ∧ lv_has ls 5 [(3, .int x), (0, .ref (ad 8)), (1, .ref (ad 24)), (2, .int p0)]) (fun _ _ ls => F0 m 2 ls []) (fun k x H locs ls hI9 ih => ?_) ((f_xst_z S).toInt).toNat (1 : Int32) _ _ _ ⟨(show 1 ≤ (1 : Int32).toInt ∧ (f_xst_z S).toInt ≤ (1 : Int32).toInt + ((((f_xst_z S).toInt).toNat : Nat) : Int) by have := tI_1; omega), hP, hD, hS, lv_sub hl [0, 1, 2, 3] rfl⟩
  obtain ⟨i, rfl⟩ : ∃ z, z = x := ⟨_, rfl⟩
  obtain ⟨hf1, hP, hD, hS, hl⟩ := hI9
  have hf1 : 1 ≤ i.toInt ∧ (f_xst_z S).toInt ≤ i.toInt + ((k : Nat) : Int) := hf1
  have hP : va_P D classes (cW T ad S) H := hP
  have hD : va_D A (cW T ad S) := hD
  have hl : lv_has ls 5 [(3, .int i), (0, .ref (ad 8)), (1, .ref (ad 24)), (2, .int p0)] := hl
  refine lv_iload_n hx hb d_Memory_stackMadeSince_2 rfl (lv_at hl 0 rfl) ?_
  refine lv_aload_n hx hb d_Memory_stackMadeSince_3 rfl (lv_at hl 1 rfl) ?_
  refine va_get (D := D) (ci := 2) (v := .ref (ad 1)) (C := "PageScribe$Memory") (T := F_Memory) (N := 8) hx hb hts i_Memory hown hK hP 8 (ce_8 _ _ _) cl_2 0 (by decide) (hts _ k_1_129) (fun _ h9 => h9) rfl d_Memory_stackMadeSince_4 ?_
  refine va_get (D := D) (ci := 0) (v := .int (f_xst_z S)) (C := "PageScribe$Stack") (T := F_Stack) (N := 4) hx hb hts i_Stack hown hK hP 1 (ce_1 _ _ _) cl_0 3 (by decide) (hts _ k_1_53) (fun x9 h9 => u_same (hts _ k_1_51) x9 h9) rfl d_Memory_stackMadeSince_7 ?_
  have qr_18 := zt_rng (f_xst_z S)
  refine lv_icmp_ge (tgt := 102) hx hb d_Memory_stackMadeSince_10 (by decide) (fun c10_1 => ?_) (fun c10_1 => ?_)
  · have fc10_1 : (f_xst_z S).toInt ≤ i.toInt := zt_le (show (f_xst_z S).toInt = _ from rfl) (show i.toInt = _ from rfl) c10_1
    refine lv_iconst (v := 0) hx hb d_Memory_stackMadeSince_102 (by decide) ?_
    exact j_zret F hr (by decide +kernel) hlocks hK hS () (show (0 : Int32).toInt = 0 ∨ (0 : Int32).toInt = 1 by have := tI_0; omega) hP hD d_Memory_stackMadeSince_103
  · have fc10_1 : i.toInt < (f_xst_z S).toInt := Int.not_le.mp (zt_nle (show (f_xst_z S).toInt = _ from rfl) (show i.toInt = _ from rfl) c10_1)
    refine lv_aload_n hx hb d_Memory_stackMadeSince_13 rfl (lv_at hl 1 rfl) ?_
    refine va_get (D := D) (ci := 2) (v := .ref (ad 1)) (C := "PageScribe$Memory") (T := F_Memory) (N := 8) hx hb hts i_Memory hown hK hP 8 (ce_8 _ _ _) cl_2 0 (by decide) (hts _ k_1_129) (fun _ h9 => h9) rfl d_Memory_stackMadeSince_14 ?_
    refine lv_iload_n hx hb d_Memory_stackMadeSince_17 rfl (lv_at hl 0 rfl) ?_
    refine jc_ci (w := (fun _ => S)) hK hP hD hS hA (va_runV (As := [.int i]) (rest := []) F (c_Stack_numberDown l D T ad S i  H.size) (j_cV (k := 1) (C := "PageScribe$Stack") hts k_2_130 k_1_3 k_4_237 k_2_128 k_2_129 (by decide +kernel) ⟨Nat.le_of_ble_eq_true rfl, Nat.le_of_ble_eq_true rfl⟩) (j_preV (q0 := 1) (ci := 0) hK hP hD csc csc_all csc_nd cl_0 (ce_1 _ _ _) (fun _ _ _ _ h => h) (fun _ _ _ => trivial)) rfl rfl hl.1 rfl (lv_room (Nat.le_of_ble_eq_true rfl)) d_Memory_stackMadeSince_18 ⟨Nat.le_of_ble_eq_true rfl, Nat.le_of_ble_eq_true rfl⟩) (fun rv1 u1 H locs hw1 hP hD hS => ?_)
    have hP : va_P D classes (cW T ad S) H := hP
    have hD : va_D A (cW T ad S) := hD
    have rrv1 := zt_rng rv1
    refine lv_istore (lv' := [(4, .int rv1), (3, .int i), (0, .ref (ad 8)), (1, .ref (ad 24)), (2, .int p0)]) hx hb d_Memory_stackMadeSince_21 hl (by decide) rfl (fun ls hl => ?_)
    refine lv_aload_n hx hb d_Memory_stackMadeSince_23 rfl (lv_at hl 2 rfl) ?_
    refine va_get (D := D) (ci := 2) (v := .ref (ad 1)) (C := "PageScribe$Memory") (T := F_Memory) (N := 8) hx hb hts i_Memory hown hK hP 8 (ce_8 _ _ _) cl_2 0 (by decide) (hts _ k_1_129) (fun _ h9 => h9) rfl d_Memory_stackMadeSince_24 ?_
    refine lv_iload_n hx hb d_Memory_stackMadeSince_27 rfl (lv_at hl 1 rfl) ?_
    refine jc_ci (w := (fun _ => S)) hK hP hD hS hA (va_runV (As := [.int i]) (rest := []) F (c_Stack_kindDown l D T ad S i  H.size) (j_cV (k := 1) (C := "PageScribe$Stack") hts k_2_120 k_1_3 k_5_5 k_2_118 k_2_119 (by decide +kernel) ⟨Nat.le_of_ble_eq_true rfl, Nat.le_of_ble_eq_true rfl⟩) (j_preV (q0 := 1) (ci := 0) hK hP hD csc csc_all csc_nd cl_0 (ce_1 _ _ _) (fun _ _ _ _ h => h) (fun _ _ _ => trivial)) rfl rfl hl.1 rfl (lv_room (Nat.le_of_ble_eq_true rfl)) d_Memory_stackMadeSince_28 ⟨Nat.le_of_ble_eq_true rfl, Nat.le_of_ble_eq_true rfl⟩) (fun rv2 u2 H locs hw2 hP hD hS => ?_)
    have hP : va_P D classes (cW T ad S) H := hP
    have hD : va_D A (cW T ad S) := hD
    have rrv2 := zt_rng rv2
    refine lv_bipush (v := 7) hx hb d_Memory_stackMadeSince_31 (by decide) ?_
    refine lv_iand hx hb d_Memory_stackMadeSince_33 ?_
    refine lv_topi (fun x1 ex1 => ?_)
    have rx1 := zt_rng x1
    by_cases h_5_1 : x1.toInt = 5
    · refine lv_tableIn (off := 26) (tgt := 60) hx hb d_Memory_stackMadeSince_34 (by omega) (by omega) (by rw [show x1.toInt = 5 from h_5_1]; decide +kernel) (by decide) ?_
      refine lv_iload hx hb d_Memory_stackMadeSince_60 (lv_at hl 0 rfl) ?_
      refine j_ci (wc := []) (wr := (cW T ad S)) hK hP hD hS hA [] csc rfl csc_all csc_nd (fun _ _ => List.not_mem_nil) (va_runSN (As := [.int rv1]) (rest := []) F (c_Ps_endOf l D T rv1  H.size) (j_cSN (k := 1) hts k_5_125 k_1_1 (hE.2.2.2 (Cond.methodLinkNest "PageScribe$Memory" 207 ⟨"PageScribe", "endOf", "(I)I"⟩ "PageScribe") (List.mem_of_getElem? (i := 9) rfl)) k_5_124 (by decide +kernel) ⟨Nat.le_of_ble_eq_true rfl, Nat.le_of_ble_eq_true rfl⟩) (j_preS hK hP hD [] rfl (by decide) (fun _ _ _ _ h => h) (fun _ _ _ => trivial)) rfl rfl hl.1 rfl (lv_room (Nat.le_of_ble_eq_true rfl)) d_Memory_stackMadeSince_62 ⟨Nat.le_of_ble_eq_true rfl, Nat.le_of_ble_eq_true rfl⟩) (fun rv3 u3 H locs hw3 hP hD hS => ?_)
      have hP : va_P D classes (cW T ad S) H := hP
      have hD : va_D A (cW T ad S) := hD
      have rrv3 := zt_rng rv3
      refine lv_aload_n hx hb d_Memory_stackMadeSince_65 rfl (lv_at hl 3 rfl) ?_
      refine va_get (D := D) (ci := 3) (v := .ref (ad 25)) (C := "PageScribe$Store") (T := F_Store) (N := 5) hx hb hts i_Store hown hK hP 24 (ce_24 _ _ _) cl_3 0 (by decide) (hts _ k_1_108) (fun _ h9 => h9) rfl d_Memory_stackMadeSince_66 ?_
      refine va_get (D := D) (ci := 4) (v := .int (f_xc1_z S)) (C := "PageScribe$Row") (T := F_Row) (N := 4) hx hb hts i_Row hown hK hP 25 (ce_25 _ _ _) cl_4 3 (by decide) (hts _ k_1_54) (fun _ h9 => h9) rfl d_Memory_stackMadeSince_69 ?_
      refine lv_icmp_le (tgt := 96) hx hb d_Memory_stackMadeSince_72 (by decide) (fun c72_1 => ?_) (fun c72_1 => ?_)
      · have fc72_1 : rv3.toInt ≤ (f_xc1_z S).toInt := zt_le (show rv3.toInt = _ from rfl) (show (f_xc1_z S).toInt = _ from rfl) c72_1
        refine lv_iinc (v := (i + 1)) (lv' := [(3, .int (i + 1)), (4, .int rv1), (0, .ref (ad 8)), (1, .ref (ad 24)), (2, .int p0)]) hx hb d_Memory_stackMadeSince_96 hl (k := 1) rfl (by first | rfl | decide) (by decide) rfl (fun ls hl => ?_)
        obtain ⟨x2, ex2⟩ : ∃ z, z = (i + 1) := ⟨_, rfl⟩
        rw [← ex2] at hl
        have fx2 : x2.toInt = (i.toInt + 1) := by rw [ex2]; exact (zt_add (show i.toInt = _ from rfl) tI_1 (by omega) (by omega)).trans (by omega)
        have hl : lv_has ls 5 [(3, .int x2), (4, .int rv1), (0, .ref (ad 8)), (1, .ref (ad 24)), (2, .int p0)] := hl
        refine lv_goto (tgt := 2) hx hb d_Memory_stackMadeSince_99 (by decide) ?_
        exact ih (k - 1) x2 _ _ _ (by omega) ⟨(show 1 ≤ x2.toInt ∧ (f_xst_z S).toInt ≤ x2.toInt + (((k - 1) : Nat) : Int) by omega), hP, hD, hS, lv_sub hl [0, 2, 3, 4] rfl⟩
      · have fc72_1 : (f_xc1_z S).toInt < rv3.toInt := Int.not_le.mp (zt_nle (show rv3.toInt = _ from rfl) (show (f_xc1_z S).toInt = _ from rfl) c72_1)
        refine lv_iconst (v := 1) hx hb d_Memory_stackMadeSince_75 (by decide) ?_
        exact j_zret F hr (by decide +kernel) hlocks hK hS () (show (1 : Int32).toInt = 0 ∨ (1 : Int32).toInt = 1 by have := tI_1; omega) hP hD d_Memory_stackMadeSince_76
    by_cases h_6_1 : x1.toInt = 6
    · refine lv_tableIn (off := 43) (tgt := 77) hx hb d_Memory_stackMadeSince_34 (by omega) (by omega) (by rw [show x1.toInt = 6 from h_6_1]; decide +kernel) (by decide) ?_
      refine lv_aload_n hx hb d_Memory_stackMadeSince_77 rfl (lv_at hl 3 rfl) ?_
      refine lv_iload hx hb d_Memory_stackMadeSince_78 (lv_at hl 0 rfl) ?_
      refine jc_ci (w := (fun _ => S)) hK hP hD hS hA (va_runV (As := [.int rv1]) (rest := []) F (c_Store_hasDict_24 l D T ad S rv1  H.size) (j_cV (k := 1) (C := "PageScribe$Store") hts k_3_188 k_1_6 k_5_118 k_3_186 k_3_187 (by decide +kernel) ⟨Nat.le_of_ble_eq_true rfl, Nat.le_of_ble_eq_true rfl⟩) (j_preV (q0 := 24) (ci := 3) hK hP hD csc csc_all csc_nd cl_3 (ce_24 _ _ _) (fun _ _ _ _ h => h) (fun _ _ _ => trivial)) rfl rfl hl.1 rfl (lv_room (Nat.le_of_ble_eq_true rfl)) d_Memory_stackMadeSince_80 ⟨Nat.le_of_ble_eq_true rfl, Nat.le_of_ble_eq_true rfl⟩) (fun rv4 u4 H locs hw4 hP hD hS => ?_)
      have hP : va_P D classes (cW T ad S) H := hP
      have hD : va_D A (cW T ad S) := hD
      have qhw4 : rv4.toInt = 0 ∨ (rv4.toInt = 1 ∧ 0 ≤ rv1.toInt ∧ rv1.toInt < 7) := hw4
      have rrv4 := zt_rng rv4
      refine lv_if_ne (tgt := 96) hx hb d_Memory_stackMadeSince_83 (by decide) (fun c83_1 => ?_) (fun c83_1 => ?_)
      · first | have fc83_1 : rv4.toInt < 0 := (by have := zt_ne (show rv4.toInt = _ from rfl) tI_0 c83_1; omega) | have fc83_1 : 0 < rv4.toInt := (by have := zt_ne (show rv4.toInt = _ from rfl) tI_0 c83_1; omega) | skip
        refine lv_iinc (v := (i + 1)) (lv' := [(3, .int (i + 1)), (4, .int rv1), (0, .ref (ad 8)), (1, .ref (ad 24)), (2, .int p0)]) hx hb d_Memory_stackMadeSince_96 hl (k := 1) rfl (by first | rfl | decide) (by decide) rfl (fun ls hl => ?_)
        obtain ⟨x3, ex3⟩ : ∃ z, z = (i + 1) := ⟨_, rfl⟩
        rw [← ex3] at hl
        have fx3 : x3.toInt = (i.toInt + 1) := by rw [ex3]; exact (zt_add (show i.toInt = _ from rfl) tI_1 (by omega) (by omega)).trans (by omega)
        have hl : lv_has ls 5 [(3, .int x3), (4, .int rv1), (0, .ref (ad 8)), (1, .ref (ad 24)), (2, .int p0)] := hl
        refine lv_goto (tgt := 2) hx hb d_Memory_stackMadeSince_99 (by decide) ?_
        exact ih (k - 1) x3 _ _ _ (by omega) ⟨(show 1 ≤ x3.toInt ∧ (f_xst_z S).toInt ≤ x3.toInt + (((k - 1) : Nat) : Int) by omega), hP, hD, hS, lv_sub hl [0, 2, 3, 4] rfl⟩
      · have fc83_1 : rv4.toInt = 0 := zt_eq (show rv4.toInt = _ from rfl) tI_0 c83_1
        refine lv_iconst (v := 1) hx hb d_Memory_stackMadeSince_86 (by decide) ?_
        exact j_zret F hr (by decide +kernel) hlocks hK hS () (show (1 : Int32).toInt = 0 ∨ (1 : Int32).toInt = 1 by have := tI_1; omega) hP hD d_Memory_stackMadeSince_87
    by_cases h_7_1 : x1.toInt = 7
    · refine lv_tableIn (off := 54) (tgt := 88) hx hb d_Memory_stackMadeSince_34 (by omega) (by omega) (by rw [show x1.toInt = 7 from h_7_1]; decide +kernel) (by decide) ?_
      refine lv_iload hx hb d_Memory_stackMadeSince_88 (lv_at hl 0 rfl) ?_
      refine lv_iload_n hx hb d_Memory_stackMadeSince_90 rfl (lv_at hl 4 rfl) ?_
      refine lv_icmp_le (tgt := 96) hx hb d_Memory_stackMadeSince_91 (by decide) (fun c91_1 => ?_) (fun c91_1 => ?_)
      · have fc91_1 : rv1.toInt ≤ p0.toInt := zt_le (show rv1.toInt = _ from rfl) (show p0.toInt = _ from rfl) c91_1
        refine lv_iinc (v := (i + 1)) (lv' := [(3, .int (i + 1)), (4, .int rv1), (0, .ref (ad 8)), (1, .ref (ad 24)), (2, .int p0)]) hx hb d_Memory_stackMadeSince_96 hl (k := 1) rfl (by first | rfl | decide) (by decide) rfl (fun ls hl => ?_)
        obtain ⟨x4, ex4⟩ : ∃ z, z = (i + 1) := ⟨_, rfl⟩
        rw [← ex4] at hl
        have fx4 : x4.toInt = (i.toInt + 1) := by rw [ex4]; exact (zt_add (show i.toInt = _ from rfl) tI_1 (by omega) (by omega)).trans (by omega)
        have hl : lv_has ls 5 [(3, .int x4), (4, .int rv1), (0, .ref (ad 8)), (1, .ref (ad 24)), (2, .int p0)] := hl
        refine lv_goto (tgt := 2) hx hb d_Memory_stackMadeSince_99 (by decide) ?_
        exact ih (k - 1) x4 _ _ _ (by omega) ⟨(show 1 ≤ x4.toInt ∧ (f_xst_z S).toInt ≤ x4.toInt + (((k - 1) : Nat) : Int) by omega), hP, hD, hS, lv_sub hl [0, 2, 3, 4] rfl⟩
      · have fc91_1 : p0.toInt < rv1.toInt := Int.not_le.mp (zt_nle (show rv1.toInt = _ from rfl) (show p0.toInt = _ from rfl) c91_1)
        refine lv_iconst (v := 1) hx hb d_Memory_stackMadeSince_94 (by decide) ?_
        exact j_zret F hr (by decide +kernel) hlocks hK hS () (show (1 : Int32).toInt = 0 ∨ (1 : Int32).toInt = 1 by have := tI_1; omega) hP hD d_Memory_stackMadeSince_95
    refine lv_tableOut (tgt := 96) hx hb d_Memory_stackMadeSince_34 (by omega) (by decide) ?_
    refine lv_iinc (v := (i + 1)) (lv' := [(3, .int (i + 1)), (4, .int rv1), (0, .ref (ad 8)), (1, .ref (ad 24)), (2, .int p0)]) hx hb d_Memory_stackMadeSince_96 hl (k := 1) rfl (by first | rfl | decide) (by decide) rfl (fun ls hl => ?_)
    obtain ⟨x5, ex5⟩ : ∃ z, z = (i + 1) := ⟨_, rfl⟩
    rw [← ex5] at hl
    have fx5 : x5.toInt = (i.toInt + 1) := by rw [ex5]; exact (zt_add (show i.toInt = _ from rfl) tI_1 (by omega) (by omega)).trans (by omega)
    have hl : lv_has ls 5 [(3, .int x5), (4, .int rv1), (0, .ref (ad 8)), (1, .ref (ad 24)), (2, .int p0)] := hl
    refine lv_goto (tgt := 2) hx hb d_Memory_stackMadeSince_99 (by decide) ?_
    exact ih (k - 1) x5 _ _ _ (by omega) ⟨(show 1 ≤ x5.toInt ∧ (f_xst_z S).toInt ≤ x5.toInt + (((k - 1) : Nat) : Int) by omega), hP, hD, hS, lv_sub hl [0, 2, 3, 4] rfl⟩
set_option maxHeartbeats 4000000 in
set_option maxRecDepth 100000 in
theorem c_Memory_scopesMadeSince_36 (l : Launch) (D : va_G) (T : Nat → ClassId) (ad : Nat → Nat) (S : CS)  (sz : Nat)  : Met l ⟨"PageScribe$Memory", "scopesMadeSince", "(LPageScribe$Store;)Z"⟩ (wy ⟨"PageScribe$Memory", "scopesMadeSince", "(LPageScribe$Store;)Z"⟩ prog_5_method_24_code 3 (some .boolean)) ({ frames := 1, cells := 0, slots := 0, locals := 70 }) (va_Pc [.ref (ad 8), .ref (ad 36)] (Pw D T (cW T ad S) sz E0)) (va_Qi (fun (r : Int32) (u : Unit) => r.toInt = 0 ∨ r.toInt = 1) (fun u t => Bw D T (va_A (cW T ad S) sz) (cW T ad S) t) (va_A (cW T ad S) sz)) 0 0 (va_A (cW T ad S) sz) := by
  refine j_met (y := ⟨"PageScribe$Memory", "scopesMadeSince", "(LPageScribe$Store;)Z"⟩) (b := prog_5_method_24_code) (n := 3) (ret := (some .boolean)) (av := [.ref (ad 8), .ref (ad 36)]) (Qc := fun A => va_Qi (fun (r : Int32) (u : Unit) => r.toInt = 0 ∨ r.toInt = 1) (fun u t => Bw D T A (cW T ad S) t) A) (by decide +kernel) (Nat.le_of_ble_eq_true rfl) (fun p e s m args below meth c A ls F hr hlocks hnm hK hP hD hS hA hN hE hl => ?_)
  obtain ⟨hx, hb, hml, hown, hts⟩ := id F
  have hl : lv_has ls 3 [(0, .ref (ad 8)), (1, .ref (ad 36))] := hl
  refine lv_iconst (v := 0) hx hb d_Memory_scopesMadeSince_0 (by decide) ?_
  refine lv_istore_n (lv' := [(2, .int 0), (0, .ref (ad 8)), (1, .ref (ad 36))]) hx hb d_Memory_scopesMadeSince_1 rfl hl (by decide) rfl (fun ls hl => ?_)
  refine j_loop (α := Int32) (fun k x H locs ls => (0 ≤ x.toInt ∧ (f_xm_scopeCount S).toInt ≤ x.toInt + ((k : Nat) : Int)) ∧ va_P D classes (cW T ad S) H ∧ va_D A (cW T ad S) ∧ va_S A s.heap H locs ∧ lv_has ls 3 [(2, .int x), (0, .ref (ad 8)), (1, .ref (ad 36))]) (fun _ _ ls => F0 m 2 ls []) (fun k x H locs ls hI9 ih => ?_) ((f_xm_scopeCount S).toInt).toNat (0 : Int32) _ _ _ ⟨(show 0 ≤ (0 : Int32).toInt ∧ (f_xm_scopeCount S).toInt ≤ (0 : Int32).toInt + ((((f_xm_scopeCount S).toInt).toNat : Nat) : Int) by have := tI_0; omega), hP, hD, hS, lv_sub hl [0, 1, 2] rfl⟩
  obtain ⟨i, rfl⟩ : ∃ z, z = x := ⟨_, rfl⟩
  obtain ⟨hf1, hP, hD, hS, hl⟩ := hI9
  have hf1 : 0 ≤ i.toInt ∧ (f_xm_scopeCount S).toInt ≤ i.toInt + ((k : Nat) : Int) := hf1
  have hP : va_P D classes (cW T ad S) H := hP
  have hD : va_D A (cW T ad S) := hD
  have hl : lv_has ls 3 [(2, .int i), (0, .ref (ad 8)), (1, .ref (ad 36))] := hl
  refine lv_iload_n hx hb d_Memory_scopesMadeSince_2 rfl (lv_at hl 0 rfl) ?_
  refine lv_aload_n hx hb d_Memory_scopesMadeSince_3 rfl (lv_at hl 1 rfl) ?_
  refine va_get (D := D) (ci := 2) (v := .int (f_xm_scopeCount S)) (C := "PageScribe$Memory") (T := F_Memory) (N := 8) hx hb hts i_Memory hown hK hP 8 (ce_8 _ _ _) cl_2 3 (by decide) (hts _ k_1_134) (fun _ h9 => h9) rfl d_Memory_scopesMadeSince_4 ?_
  have qr_14 := zt_rng (f_xm_scopeCount S)
  refine lv_icmp_ge (tgt := 30) hx hb d_Memory_scopesMadeSince_7 (by decide) (fun c7_1 => ?_) (fun c7_1 => ?_)
  · have fc7_1 : (f_xm_scopeCount S).toInt ≤ i.toInt := zt_le (show (f_xm_scopeCount S).toInt = _ from rfl) (show i.toInt = _ from rfl) c7_1
    refine lv_iconst (v := 0) hx hb d_Memory_scopesMadeSince_30 (by decide) ?_
    exact j_zret F hr (by decide +kernel) hlocks hK hS () (show (0 : Int32).toInt = 0 ∨ (0 : Int32).toInt = 1 by have := tI_0; omega) hP hD d_Memory_scopesMadeSince_31
  · have fc7_1 : i.toInt < (f_xm_scopeCount S).toInt := Int.not_le.mp (zt_nle (show (f_xm_scopeCount S).toInt = _ from rfl) (show i.toInt = _ from rfl) c7_1)
    refine lv_aload_n hx hb d_Memory_scopesMadeSince_10 rfl (lv_at hl 2 rfl) ?_
    refine lv_aload_n hx hb d_Memory_scopesMadeSince_11 rfl (lv_at hl 1 rfl) ?_
    refine lv_iload_n hx hb d_Memory_scopesMadeSince_12 rfl (lv_at hl 0 rfl) ?_
    refine jc_ci (w := (fun _ => S)) hK hP hD hS hA (va_runV (As := [.int i]) (rest := [.ref (ad 36)]) F (c_Memory_scopeAt l D T ad S i  H.size) (j_cV (k := 1) (C := "PageScribe$Memory") hts k_3_180 k_1_5 k_3_177 k_3_179 k_0_15 (by decide +kernel) ⟨Nat.le_of_ble_eq_true rfl, Nat.le_of_ble_eq_true rfl⟩) (j_preV (q0 := 8) (ci := 2) hK hP hD csc csc_all csc_nd cl_2 (ce_8 _ _ _) (fun _ _ _ _ h => h) (fun _ _ _ => trivial)) rfl rfl hl.1 rfl (lv_room (Nat.le_of_ble_eq_true rfl)) d_Memory_scopesMadeSince_13 ⟨Nat.le_of_ble_eq_true rfl, Nat.le_of_ble_eq_true rfl⟩) (fun rv1 u1 H locs hw1 hP hD hS => ?_)
    have hP : va_P D classes (cW T ad S) H := hP
    have hD : va_D A (cW T ad S) := hD
    have rrv1 := zt_rng rv1
    refine jc_ci (w := (fun _ => S)) hK hP hD hS hA (va_runV (As := [.int rv1]) (rest := []) F (c_Store_hasDict_36 l D T ad S rv1  H.size) (j_cV (k := 1) (C := "PageScribe$Store") hts k_3_188 k_1_6 k_5_118 k_3_186 k_3_187 (by decide +kernel) ⟨Nat.le_of_ble_eq_true rfl, Nat.le_of_ble_eq_true rfl⟩) (j_preV (q0 := 36) (ci := 3) hK hP hD csc csc_all csc_nd cl_3 (ce_36 _ _ _) (fun _ _ _ _ h => h) (fun _ _ _ => trivial)) rfl rfl hl.1 rfl (lv_room (Nat.le_of_ble_eq_true rfl)) d_Memory_scopesMadeSince_16 ⟨Nat.le_of_ble_eq_true rfl, Nat.le_of_ble_eq_true rfl⟩) (fun rv2 u2 H locs hw2 hP hD hS => ?_)
    have hP : va_P D classes (cW T ad S) H := hP
    have hD : va_D A (cW T ad S) := hD
    have qhw2 : rv2.toInt = 0 ∨ (rv2.toInt = 1 ∧ 0 ≤ rv1.toInt ∧ rv1.toInt < 7) := hw2
    have rrv2 := zt_rng rv2
    refine lv_if_ne (tgt := 24) hx hb d_Memory_scopesMadeSince_19 (by decide) (fun c19_1 => ?_) (fun c19_1 => ?_)
    · first | have fc19_1 : rv2.toInt < 0 := (by have := zt_ne (show rv2.toInt = _ from rfl) tI_0 c19_1; omega) | have fc19_1 : 0 < rv2.toInt := (by have := zt_ne (show rv2.toInt = _ from rfl) tI_0 c19_1; omega) | skip
      refine lv_iinc (v := (i + 1)) (lv' := [(2, .int (i + 1)), (0, .ref (ad 8)), (1, .ref (ad 36))]) hx hb d_Memory_scopesMadeSince_24 hl (k := 0) rfl (by first | rfl | decide) (by decide) rfl (fun ls hl => ?_)
      obtain ⟨x1, ex1⟩ : ∃ z, z = (i + 1) := ⟨_, rfl⟩
      rw [← ex1] at hl
      have fx1 : x1.toInt = (i.toInt + 1) := by rw [ex1]; exact (zt_add (show i.toInt = _ from rfl) tI_1 (by omega) (by omega)).trans (by omega)
      have hl : lv_has ls 3 [(2, .int x1), (0, .ref (ad 8)), (1, .ref (ad 36))] := hl
      refine lv_goto (tgt := 2) hx hb d_Memory_scopesMadeSince_27 (by decide) ?_
      exact ih (k - 1) x1 _ _ _ (by omega) ⟨(show 0 ≤ x1.toInt ∧ (f_xm_scopeCount S).toInt ≤ x1.toInt + (((k - 1) : Nat) : Int) by omega), hP, hD, hS, lv_sub hl [0, 1, 2] rfl⟩
    · have fc19_1 : rv2.toInt = 0 := zt_eq (show rv2.toInt = _ from rfl) tI_0 c19_1
      refine lv_iconst (v := 1) hx hb d_Memory_scopesMadeSince_22 (by decide) ?_
      exact j_zret F hr (by decide +kernel) hlocks hK hS () (show (1 : Int32).toInt = 0 ∨ (1 : Int32).toInt = 1 by have := tI_1; omega) hP hD d_Memory_scopesMadeSince_23
set_option maxHeartbeats 4000000 in
set_option maxRecDepth 100000 in
theorem c_Memory_stackMadeSince_36 (l : Launch) (D : va_G) (T : Nat → ClassId) (ad : Nat → Nat) (g : GE) (Bq : Nat → Prop) (S : CS) (p0 : Int32) (sz : Nat)  : Met l ⟨"PageScribe$Memory", "stackMadeSince", "(LPageScribe$Store;I)Z"⟩ (wy ⟨"PageScribe$Memory", "stackMadeSince", "(LPageScribe$Store;I)Z"⟩ prog_5_method_25_code 5 (some .boolean)) ({ frames := 2, cells := 0, slots := 0, locals := 140 }) (va_Pc [.ref (ad 8), .ref (ad 36), .int p0] (Pw D T (cW T ad S) sz (EC g Bq ad))) (va_Qi (fun (r : Int32) (u : Unit) => r.toInt = 0 ∨ r.toInt = 1) (fun u t => Bw D T (va_A (cW T ad S) sz) (cW T ad S) t) (va_A (cW T ad S) sz)) 0 0 (va_A (cW T ad S) sz) := by
  refine j_met (y := ⟨"PageScribe$Memory", "stackMadeSince", "(LPageScribe$Store;I)Z"⟩) (b := prog_5_method_25_code) (n := 5) (ret := (some .boolean)) (av := [.ref (ad 8), .ref (ad 36), .int p0]) (Qc := fun A => va_Qi (fun (r : Int32) (u : Unit) => r.toInt = 0 ∨ r.toInt = 1) (fun u t => Bw D T A (cW T ad S) t) A) (by decide +kernel) (Nat.le_of_ble_eq_true rfl) (fun p e s m args below meth c A ls F hr hlocks hnm hK hP hD hS hA hN hE hl => ?_)
  obtain ⟨hx, hb, hml, hown, hts⟩ := id F
  have hl : lv_has ls 5 [(0, .ref (ad 8)), (1, .ref (ad 36)), (2, .int p0)] := hl
  have hAB : ∀ q, A q → Bq q := EC.ab hE hN
  have hEV := hE.1.narrow hAB
  have rp0 := zt_rng p0
  refine lv_iconst (v := 1) hx hb d_Memory_stackMadeSince_0 (by decide) ?_
  refine lv_istore_n (lv' := [(3, .int 1), (0, .ref (ad 8)), (1, .ref (ad 36)), (2, .int p0)]) hx hb d_Memory_stackMadeSince_1 rfl hl (by decide) rfl (fun ls hl => ?_)
  refine j_loop (α := Int32) (fun k x H locs ls => (1 ≤ x.toInt ∧ (f_xst_z S).toInt ≤ x.toInt + ((k : Nat) : Int)) ∧ va_P D classes (cW T ad S) H ∧ va_D A (cW T ad S) ∧ va_S A s.heap H locs ∧ lv_has ls 5 [(3, .int x), (0, .ref (ad 8)), (1, .ref (ad 36)), (2, .int p0)]) (fun _ _ ls => F0 m 2 ls []) (fun k x H locs ls hI9 ih => ?_) ((f_xst_z S).toInt).toNat (1 : Int32) _ _ _ ⟨(show 1 ≤ (1 : Int32).toInt ∧ (f_xst_z S).toInt ≤ (1 : Int32).toInt + ((((f_xst_z S).toInt).toNat : Nat) : Int) by have := tI_1; omega), hP, hD, hS, lv_sub hl [0, 1, 2, 3] rfl⟩
  obtain ⟨i, rfl⟩ : ∃ z, z = x := ⟨_, rfl⟩
  obtain ⟨hf1, hP, hD, hS, hl⟩ := hI9
  have hf1 : 1 ≤ i.toInt ∧ (f_xst_z S).toInt ≤ i.toInt + ((k : Nat) : Int) := hf1
  have hP : va_P D classes (cW T ad S) H := hP
  have hD : va_D A (cW T ad S) := hD
  have hl : lv_has ls 5 [(3, .int i), (0, .ref (ad 8)), (1, .ref (ad 36)), (2, .int p0)] := hl
  refine lv_iload_n hx hb d_Memory_stackMadeSince_2 rfl (lv_at hl 0 rfl) ?_
  refine lv_aload_n hx hb d_Memory_stackMadeSince_3 rfl (lv_at hl 1 rfl) ?_
  refine va_get (D := D) (ci := 2) (v := .ref (ad 1)) (C := "PageScribe$Memory") (T := F_Memory) (N := 8) hx hb hts i_Memory hown hK hP 8 (ce_8 _ _ _) cl_2 0 (by decide) (hts _ k_1_129) (fun _ h9 => h9) rfl d_Memory_stackMadeSince_4 ?_
  refine va_get (D := D) (ci := 0) (v := .int (f_xst_z S)) (C := "PageScribe$Stack") (T := F_Stack) (N := 4) hx hb hts i_Stack hown hK hP 1 (ce_1 _ _ _) cl_0 3 (by decide) (hts _ k_1_53) (fun x9 h9 => u_same (hts _ k_1_51) x9 h9) rfl d_Memory_stackMadeSince_7 ?_
  have qr_18 := zt_rng (f_xst_z S)
  refine lv_icmp_ge (tgt := 102) hx hb d_Memory_stackMadeSince_10 (by decide) (fun c10_1 => ?_) (fun c10_1 => ?_)
  · have fc10_1 : (f_xst_z S).toInt ≤ i.toInt := zt_le (show (f_xst_z S).toInt = _ from rfl) (show i.toInt = _ from rfl) c10_1
    refine lv_iconst (v := 0) hx hb d_Memory_stackMadeSince_102 (by decide) ?_
    exact j_zret F hr (by decide +kernel) hlocks hK hS () (show (0 : Int32).toInt = 0 ∨ (0 : Int32).toInt = 1 by have := tI_0; omega) hP hD d_Memory_stackMadeSince_103
  · have fc10_1 : i.toInt < (f_xst_z S).toInt := Int.not_le.mp (zt_nle (show (f_xst_z S).toInt = _ from rfl) (show i.toInt = _ from rfl) c10_1)
    refine lv_aload_n hx hb d_Memory_stackMadeSince_13 rfl (lv_at hl 1 rfl) ?_
    refine va_get (D := D) (ci := 2) (v := .ref (ad 1)) (C := "PageScribe$Memory") (T := F_Memory) (N := 8) hx hb hts i_Memory hown hK hP 8 (ce_8 _ _ _) cl_2 0 (by decide) (hts _ k_1_129) (fun _ h9 => h9) rfl d_Memory_stackMadeSince_14 ?_
    refine lv_iload_n hx hb d_Memory_stackMadeSince_17 rfl (lv_at hl 0 rfl) ?_
    refine jc_ci (w := (fun _ => S)) hK hP hD hS hA (va_runV (As := [.int i]) (rest := []) F (c_Stack_numberDown l D T ad S i  H.size) (j_cV (k := 1) (C := "PageScribe$Stack") hts k_2_130 k_1_3 k_4_237 k_2_128 k_2_129 (by decide +kernel) ⟨Nat.le_of_ble_eq_true rfl, Nat.le_of_ble_eq_true rfl⟩) (j_preV (q0 := 1) (ci := 0) hK hP hD csc csc_all csc_nd cl_0 (ce_1 _ _ _) (fun _ _ _ _ h => h) (fun _ _ _ => trivial)) rfl rfl hl.1 rfl (lv_room (Nat.le_of_ble_eq_true rfl)) d_Memory_stackMadeSince_18 ⟨Nat.le_of_ble_eq_true rfl, Nat.le_of_ble_eq_true rfl⟩) (fun rv1 u1 H locs hw1 hP hD hS => ?_)
    have hP : va_P D classes (cW T ad S) H := hP
    have hD : va_D A (cW T ad S) := hD
    have rrv1 := zt_rng rv1
    refine lv_istore (lv' := [(4, .int rv1), (3, .int i), (0, .ref (ad 8)), (1, .ref (ad 36)), (2, .int p0)]) hx hb d_Memory_stackMadeSince_21 hl (by decide) rfl (fun ls hl => ?_)
    refine lv_aload_n hx hb d_Memory_stackMadeSince_23 rfl (lv_at hl 2 rfl) ?_
    refine va_get (D := D) (ci := 2) (v := .ref (ad 1)) (C := "PageScribe$Memory") (T := F_Memory) (N := 8) hx hb hts i_Memory hown hK hP 8 (ce_8 _ _ _) cl_2 0 (by decide) (hts _ k_1_129) (fun _ h9 => h9) rfl d_Memory_stackMadeSince_24 ?_
    refine lv_iload_n hx hb d_Memory_stackMadeSince_27 rfl (lv_at hl 1 rfl) ?_
    refine jc_ci (w := (fun _ => S)) hK hP hD hS hA (va_runV (As := [.int i]) (rest := []) F (c_Stack_kindDown l D T ad S i  H.size) (j_cV (k := 1) (C := "PageScribe$Stack") hts k_2_120 k_1_3 k_5_5 k_2_118 k_2_119 (by decide +kernel) ⟨Nat.le_of_ble_eq_true rfl, Nat.le_of_ble_eq_true rfl⟩) (j_preV (q0 := 1) (ci := 0) hK hP hD csc csc_all csc_nd cl_0 (ce_1 _ _ _) (fun _ _ _ _ h => h) (fun _ _ _ => trivial)) rfl rfl hl.1 rfl (lv_room (Nat.le_of_ble_eq_true rfl)) d_Memory_stackMadeSince_28 ⟨Nat.le_of_ble_eq_true rfl, Nat.le_of_ble_eq_true rfl⟩) (fun rv2 u2 H locs hw2 hP hD hS => ?_)
    have hP : va_P D classes (cW T ad S) H := hP
    have hD : va_D A (cW T ad S) := hD
    have rrv2 := zt_rng rv2
    refine lv_bipush (v := 7) hx hb d_Memory_stackMadeSince_31 (by decide) ?_
    refine lv_iand hx hb d_Memory_stackMadeSince_33 ?_
    refine lv_topi (fun x1 ex1 => ?_)
    have rx1 := zt_rng x1
    by_cases h_5_1 : x1.toInt = 5
    · refine lv_tableIn (off := 26) (tgt := 60) hx hb d_Memory_stackMadeSince_34 (by omega) (by omega) (by rw [show x1.toInt = 5 from h_5_1]; decide +kernel) (by decide) ?_
      refine lv_iload hx hb d_Memory_stackMadeSince_60 (lv_at hl 0 rfl) ?_
      refine j_ci (wc := []) (wr := (cW T ad S)) hK hP hD hS hA [] csc rfl csc_all csc_nd (fun _ _ => List.not_mem_nil) (va_runSN (As := [.int rv1]) (rest := []) F (c_Ps_endOf l D T rv1  H.size) (j_cSN (k := 1) hts k_5_125 k_1_1 (hE.2.2.2 (Cond.methodLinkNest "PageScribe$Memory" 207 ⟨"PageScribe", "endOf", "(I)I"⟩ "PageScribe") (List.mem_of_getElem? (i := 9) rfl)) k_5_124 (by decide +kernel) ⟨Nat.le_of_ble_eq_true rfl, Nat.le_of_ble_eq_true rfl⟩) (j_preS hK hP hD [] rfl (by decide) (fun _ _ _ _ h => h) (fun _ _ _ => trivial)) rfl rfl hl.1 rfl (lv_room (Nat.le_of_ble_eq_true rfl)) d_Memory_stackMadeSince_62 ⟨Nat.le_of_ble_eq_true rfl, Nat.le_of_ble_eq_true rfl⟩) (fun rv3 u3 H locs hw3 hP hD hS => ?_)
      have hP : va_P D classes (cW T ad S) H := hP
      have hD : va_D A (cW T ad S) := hD
      have rrv3 := zt_rng rv3
      refine lv_aload_n hx hb d_Memory_stackMadeSince_65 rfl (lv_at hl 3 rfl) ?_
      refine va_get (D := D) (ci := 3) (v := .ref (ad 37)) (C := "PageScribe$Store") (T := F_Store) (N := 5) hx hb hts i_Store hown hK hP 36 (ce_36 _ _ _) cl_3 0 (by decide) (hts _ k_1_108) (fun _ h9 => h9) rfl d_Memory_stackMadeSince_66 ?_
      refine va_get (D := D) (ci := 4) (v := .int (f_xc2_z S)) (C := "PageScribe$Row") (T := F_Row) (N := 4) hx hb hts i_Row hown hK hP 37 (ce_37 _ _ _) cl_4 3 (by decide) (hts _ k_1_54) (fun _ h9 => h9) rfl d_Memory_stackMadeSince_69 ?_
      refine lv_icmp_le (tgt := 96) hx hb d_Memory_stackMadeSince_72 (by decide) (fun c72_1 => ?_) (fun c72_1 => ?_)
      · have fc72_1 : rv3.toInt ≤ (f_xc2_z S).toInt := zt_le (show rv3.toInt = _ from rfl) (show (f_xc2_z S).toInt = _ from rfl) c72_1
        refine lv_iinc (v := (i + 1)) (lv' := [(3, .int (i + 1)), (4, .int rv1), (0, .ref (ad 8)), (1, .ref (ad 36)), (2, .int p0)]) hx hb d_Memory_stackMadeSince_96 hl (k := 1) rfl (by first | rfl | decide) (by decide) rfl (fun ls hl => ?_)
        obtain ⟨x2, ex2⟩ : ∃ z, z = (i + 1) := ⟨_, rfl⟩
        rw [← ex2] at hl
        have fx2 : x2.toInt = (i.toInt + 1) := by rw [ex2]; exact (zt_add (show i.toInt = _ from rfl) tI_1 (by omega) (by omega)).trans (by omega)
        have hl : lv_has ls 5 [(3, .int x2), (4, .int rv1), (0, .ref (ad 8)), (1, .ref (ad 36)), (2, .int p0)] := hl
        refine lv_goto (tgt := 2) hx hb d_Memory_stackMadeSince_99 (by decide) ?_
        exact ih (k - 1) x2 _ _ _ (by omega) ⟨(show 1 ≤ x2.toInt ∧ (f_xst_z S).toInt ≤ x2.toInt + (((k - 1) : Nat) : Int) by omega), hP, hD, hS, lv_sub hl [0, 2, 3, 4] rfl⟩
      · have fc72_1 : (f_xc2_z S).toInt < rv3.toInt := Int.not_le.mp (zt_nle (show rv3.toInt = _ from rfl) (show (f_xc2_z S).toInt = _ from rfl) c72_1)
        refine lv_iconst (v := 1) hx hb d_Memory_stackMadeSince_75 (by decide) ?_
        exact j_zret F hr (by decide +kernel) hlocks hK hS () (show (1 : Int32).toInt = 0 ∨ (1 : Int32).toInt = 1 by have := tI_1; omega) hP hD d_Memory_stackMadeSince_76
    by_cases h_6_1 : x1.toInt = 6
    · refine lv_tableIn (off := 43) (tgt := 77) hx hb d_Memory_stackMadeSince_34 (by omega) (by omega) (by rw [show x1.toInt = 6 from h_6_1]; decide +kernel) (by decide) ?_
      refine lv_aload_n hx hb d_Memory_stackMadeSince_77 rfl (lv_at hl 3 rfl) ?_
      refine lv_iload hx hb d_Memory_stackMadeSince_78 (lv_at hl 0 rfl) ?_
      refine jc_ci (w := (fun _ => S)) hK hP hD hS hA (va_runV (As := [.int rv1]) (rest := []) F (c_Store_hasDict_36 l D T ad S rv1  H.size) (j_cV (k := 1) (C := "PageScribe$Store") hts k_3_188 k_1_6 k_5_118 k_3_186 k_3_187 (by decide +kernel) ⟨Nat.le_of_ble_eq_true rfl, Nat.le_of_ble_eq_true rfl⟩) (j_preV (q0 := 36) (ci := 3) hK hP hD csc csc_all csc_nd cl_3 (ce_36 _ _ _) (fun _ _ _ _ h => h) (fun _ _ _ => trivial)) rfl rfl hl.1 rfl (lv_room (Nat.le_of_ble_eq_true rfl)) d_Memory_stackMadeSince_80 ⟨Nat.le_of_ble_eq_true rfl, Nat.le_of_ble_eq_true rfl⟩) (fun rv4 u4 H locs hw4 hP hD hS => ?_)
      have hP : va_P D classes (cW T ad S) H := hP
      have hD : va_D A (cW T ad S) := hD
      have qhw4 : rv4.toInt = 0 ∨ (rv4.toInt = 1 ∧ 0 ≤ rv1.toInt ∧ rv1.toInt < 7) := hw4
      have rrv4 := zt_rng rv4
      refine lv_if_ne (tgt := 96) hx hb d_Memory_stackMadeSince_83 (by decide) (fun c83_1 => ?_) (fun c83_1 => ?_)
      · first | have fc83_1 : rv4.toInt < 0 := (by have := zt_ne (show rv4.toInt = _ from rfl) tI_0 c83_1; omega) | have fc83_1 : 0 < rv4.toInt := (by have := zt_ne (show rv4.toInt = _ from rfl) tI_0 c83_1; omega) | skip
        refine lv_iinc (v := (i + 1)) (lv' := [(3, .int (i + 1)), (4, .int rv1), (0, .ref (ad 8)), (1, .ref (ad 36)), (2, .int p0)]) hx hb d_Memory_stackMadeSince_96 hl (k := 1) rfl (by first | rfl | decide) (by decide) rfl (fun ls hl => ?_)
        obtain ⟨x3, ex3⟩ : ∃ z, z = (i + 1) := ⟨_, rfl⟩
        rw [← ex3] at hl
        have fx3 : x3.toInt = (i.toInt + 1) := by rw [ex3]; exact (zt_add (show i.toInt = _ from rfl) tI_1 (by omega) (by omega)).trans (by omega)
        have hl : lv_has ls 5 [(3, .int x3), (4, .int rv1), (0, .ref (ad 8)), (1, .ref (ad 36)), (2, .int p0)] := hl
        refine lv_goto (tgt := 2) hx hb d_Memory_stackMadeSince_99 (by decide) ?_
        exact ih (k - 1) x3 _ _ _ (by omega) ⟨(show 1 ≤ x3.toInt ∧ (f_xst_z S).toInt ≤ x3.toInt + (((k - 1) : Nat) : Int) by omega), hP, hD, hS, lv_sub hl [0, 2, 3, 4] rfl⟩
      · have fc83_1 : rv4.toInt = 0 := zt_eq (show rv4.toInt = _ from rfl) tI_0 c83_1
        refine lv_iconst (v := 1) hx hb d_Memory_stackMadeSince_86 (by decide) ?_
        exact j_zret F hr (by decide +kernel) hlocks hK hS () (show (1 : Int32).toInt = 0 ∨ (1 : Int32).toInt = 1 by have := tI_1; omega) hP hD d_Memory_stackMadeSince_87
    by_cases h_7_1 : x1.toInt = 7
    · refine lv_tableIn (off := 54) (tgt := 88) hx hb d_Memory_stackMadeSince_34 (by omega) (by omega) (by rw [show x1.toInt = 7 from h_7_1]; decide +kernel) (by decide) ?_
      refine lv_iload hx hb d_Memory_stackMadeSince_88 (lv_at hl 0 rfl) ?_
      refine lv_iload_n hx hb d_Memory_stackMadeSince_90 rfl (lv_at hl 4 rfl) ?_
      refine lv_icmp_le (tgt := 96) hx hb d_Memory_stackMadeSince_91 (by decide) (fun c91_1 => ?_) (fun c91_1 => ?_)
      · have fc91_1 : rv1.toInt ≤ p0.toInt := zt_le (show rv1.toInt = _ from rfl) (show p0.toInt = _ from rfl) c91_1
        refine lv_iinc (v := (i + 1)) (lv' := [(3, .int (i + 1)), (4, .int rv1), (0, .ref (ad 8)), (1, .ref (ad 36)), (2, .int p0)]) hx hb d_Memory_stackMadeSince_96 hl (k := 1) rfl (by first | rfl | decide) (by decide) rfl (fun ls hl => ?_)
        obtain ⟨x4, ex4⟩ : ∃ z, z = (i + 1) := ⟨_, rfl⟩
        rw [← ex4] at hl
        have fx4 : x4.toInt = (i.toInt + 1) := by rw [ex4]; exact (zt_add (show i.toInt = _ from rfl) tI_1 (by omega) (by omega)).trans (by omega)
        have hl : lv_has ls 5 [(3, .int x4), (4, .int rv1), (0, .ref (ad 8)), (1, .ref (ad 36)), (2, .int p0)] := hl
        refine lv_goto (tgt := 2) hx hb d_Memory_stackMadeSince_99 (by decide) ?_
        exact ih (k - 1) x4 _ _ _ (by omega) ⟨(show 1 ≤ x4.toInt ∧ (f_xst_z S).toInt ≤ x4.toInt + (((k - 1) : Nat) : Int) by omega), hP, hD, hS, lv_sub hl [0, 2, 3, 4] rfl⟩
      · have fc91_1 : p0.toInt < rv1.toInt := Int.not_le.mp (zt_nle (show rv1.toInt = _ from rfl) (show p0.toInt = _ from rfl) c91_1)
        refine lv_iconst (v := 1) hx hb d_Memory_stackMadeSince_94 (by decide) ?_
        exact j_zret F hr (by decide +kernel) hlocks hK hS () (show (1 : Int32).toInt = 0 ∨ (1 : Int32).toInt = 1 by have := tI_1; omega) hP hD d_Memory_stackMadeSince_95
    refine lv_tableOut (tgt := 96) hx hb d_Memory_stackMadeSince_34 (by omega) (by decide) ?_
    refine lv_iinc (v := (i + 1)) (lv' := [(3, .int (i + 1)), (4, .int rv1), (0, .ref (ad 8)), (1, .ref (ad 36)), (2, .int p0)]) hx hb d_Memory_stackMadeSince_96 hl (k := 1) rfl (by first | rfl | decide) (by decide) rfl (fun ls hl => ?_)
    obtain ⟨x5, ex5⟩ : ∃ z, z = (i + 1) := ⟨_, rfl⟩
    rw [← ex5] at hl
    have fx5 : x5.toInt = (i.toInt + 1) := by rw [ex5]; exact (zt_add (show i.toInt = _ from rfl) tI_1 (by omega) (by omega)).trans (by omega)
    have hl : lv_has ls 5 [(3, .int x5), (4, .int rv1), (0, .ref (ad 8)), (1, .ref (ad 36)), (2, .int p0)] := hl
    refine lv_goto (tgt := 2) hx hb d_Memory_stackMadeSince_99 (by decide) ?_
    exact ih (k - 1) x5 _ _ _ (by omega) ⟨(show 1 ≤ x5.toInt ∧ (f_xst_z S).toInt ≤ x5.toInt + (((k - 1) : Nat) : Int) by omega), hP, hD, hS, lv_sub hl [0, 2, 3, 4] rfl⟩
set_option maxHeartbeats 4000000 in
set_option maxRecDepth 100000 in
theorem c_Memory_scopesMadeSince_48 (l : Launch) (D : va_G) (T : Nat → ClassId) (ad : Nat → Nat) (S : CS)  (sz : Nat)  : Met l ⟨"PageScribe$Memory", "scopesMadeSince", "(LPageScribe$Store;)Z"⟩ (wy ⟨"PageScribe$Memory", "scopesMadeSince", "(LPageScribe$Store;)Z"⟩ prog_5_method_24_code 3 (some .boolean)) ({ frames := 1, cells := 0, slots := 0, locals := 70 }) (va_Pc [.ref (ad 8), .ref (ad 48)] (Pw D T (cW T ad S) sz E0)) (va_Qi (fun (r : Int32) (u : Unit) => r.toInt = 0 ∨ r.toInt = 1) (fun u t => Bw D T (va_A (cW T ad S) sz) (cW T ad S) t) (va_A (cW T ad S) sz)) 0 0 (va_A (cW T ad S) sz) := by
  refine j_met (y := ⟨"PageScribe$Memory", "scopesMadeSince", "(LPageScribe$Store;)Z"⟩) (b := prog_5_method_24_code) (n := 3) (ret := (some .boolean)) (av := [.ref (ad 8), .ref (ad 48)]) (Qc := fun A => va_Qi (fun (r : Int32) (u : Unit) => r.toInt = 0 ∨ r.toInt = 1) (fun u t => Bw D T A (cW T ad S) t) A) (by decide +kernel) (Nat.le_of_ble_eq_true rfl) (fun p e s m args below meth c A ls F hr hlocks hnm hK hP hD hS hA hN hE hl => ?_)
  obtain ⟨hx, hb, hml, hown, hts⟩ := id F
  have hl : lv_has ls 3 [(0, .ref (ad 8)), (1, .ref (ad 48))] := hl
  refine lv_iconst (v := 0) hx hb d_Memory_scopesMadeSince_0 (by decide) ?_
  refine lv_istore_n (lv' := [(2, .int 0), (0, .ref (ad 8)), (1, .ref (ad 48))]) hx hb d_Memory_scopesMadeSince_1 rfl hl (by decide) rfl (fun ls hl => ?_)
  refine j_loop (α := Int32) (fun k x H locs ls => (0 ≤ x.toInt ∧ (f_xm_scopeCount S).toInt ≤ x.toInt + ((k : Nat) : Int)) ∧ va_P D classes (cW T ad S) H ∧ va_D A (cW T ad S) ∧ va_S A s.heap H locs ∧ lv_has ls 3 [(2, .int x), (0, .ref (ad 8)), (1, .ref (ad 48))]) (fun _ _ ls => F0 m 2 ls []) (fun k x H locs ls hI9 ih => ?_) ((f_xm_scopeCount S).toInt).toNat (0 : Int32) _ _ _ ⟨(show 0 ≤ (0 : Int32).toInt ∧ (f_xm_scopeCount S).toInt ≤ (0 : Int32).toInt + ((((f_xm_scopeCount S).toInt).toNat : Nat) : Int) by have := tI_0; omega), hP, hD, hS, lv_sub hl [0, 1, 2] rfl⟩
  obtain ⟨i, rfl⟩ : ∃ z, z = x := ⟨_, rfl⟩
  obtain ⟨hf1, hP, hD, hS, hl⟩ := hI9
  have hf1 : 0 ≤ i.toInt ∧ (f_xm_scopeCount S).toInt ≤ i.toInt + ((k : Nat) : Int) := hf1
  have hP : va_P D classes (cW T ad S) H := hP
  have hD : va_D A (cW T ad S) := hD
  have hl : lv_has ls 3 [(2, .int i), (0, .ref (ad 8)), (1, .ref (ad 48))] := hl
  refine lv_iload_n hx hb d_Memory_scopesMadeSince_2 rfl (lv_at hl 0 rfl) ?_
  refine lv_aload_n hx hb d_Memory_scopesMadeSince_3 rfl (lv_at hl 1 rfl) ?_
  refine va_get (D := D) (ci := 2) (v := .int (f_xm_scopeCount S)) (C := "PageScribe$Memory") (T := F_Memory) (N := 8) hx hb hts i_Memory hown hK hP 8 (ce_8 _ _ _) cl_2 3 (by decide) (hts _ k_1_134) (fun _ h9 => h9) rfl d_Memory_scopesMadeSince_4 ?_
  have qr_14 := zt_rng (f_xm_scopeCount S)
  refine lv_icmp_ge (tgt := 30) hx hb d_Memory_scopesMadeSince_7 (by decide) (fun c7_1 => ?_) (fun c7_1 => ?_)
  · have fc7_1 : (f_xm_scopeCount S).toInt ≤ i.toInt := zt_le (show (f_xm_scopeCount S).toInt = _ from rfl) (show i.toInt = _ from rfl) c7_1
    refine lv_iconst (v := 0) hx hb d_Memory_scopesMadeSince_30 (by decide) ?_
    exact j_zret F hr (by decide +kernel) hlocks hK hS () (show (0 : Int32).toInt = 0 ∨ (0 : Int32).toInt = 1 by have := tI_0; omega) hP hD d_Memory_scopesMadeSince_31
  · have fc7_1 : i.toInt < (f_xm_scopeCount S).toInt := Int.not_le.mp (zt_nle (show (f_xm_scopeCount S).toInt = _ from rfl) (show i.toInt = _ from rfl) c7_1)
    refine lv_aload_n hx hb d_Memory_scopesMadeSince_10 rfl (lv_at hl 2 rfl) ?_
    refine lv_aload_n hx hb d_Memory_scopesMadeSince_11 rfl (lv_at hl 1 rfl) ?_
    refine lv_iload_n hx hb d_Memory_scopesMadeSince_12 rfl (lv_at hl 0 rfl) ?_
    refine jc_ci (w := (fun _ => S)) hK hP hD hS hA (va_runV (As := [.int i]) (rest := [.ref (ad 48)]) F (c_Memory_scopeAt l D T ad S i  H.size) (j_cV (k := 1) (C := "PageScribe$Memory") hts k_3_180 k_1_5 k_3_177 k_3_179 k_0_15 (by decide +kernel) ⟨Nat.le_of_ble_eq_true rfl, Nat.le_of_ble_eq_true rfl⟩) (j_preV (q0 := 8) (ci := 2) hK hP hD csc csc_all csc_nd cl_2 (ce_8 _ _ _) (fun _ _ _ _ h => h) (fun _ _ _ => trivial)) rfl rfl hl.1 rfl (lv_room (Nat.le_of_ble_eq_true rfl)) d_Memory_scopesMadeSince_13 ⟨Nat.le_of_ble_eq_true rfl, Nat.le_of_ble_eq_true rfl⟩) (fun rv1 u1 H locs hw1 hP hD hS => ?_)
    have hP : va_P D classes (cW T ad S) H := hP
    have hD : va_D A (cW T ad S) := hD
    have rrv1 := zt_rng rv1
    refine jc_ci (w := (fun _ => S)) hK hP hD hS hA (va_runV (As := [.int rv1]) (rest := []) F (c_Store_hasDict_48 l D T ad S rv1  H.size) (j_cV (k := 1) (C := "PageScribe$Store") hts k_3_188 k_1_6 k_5_118 k_3_186 k_3_187 (by decide +kernel) ⟨Nat.le_of_ble_eq_true rfl, Nat.le_of_ble_eq_true rfl⟩) (j_preV (q0 := 48) (ci := 3) hK hP hD csc csc_all csc_nd cl_3 (ce_48 _ _ _) (fun _ _ _ _ h => h) (fun _ _ _ => trivial)) rfl rfl hl.1 rfl (lv_room (Nat.le_of_ble_eq_true rfl)) d_Memory_scopesMadeSince_16 ⟨Nat.le_of_ble_eq_true rfl, Nat.le_of_ble_eq_true rfl⟩) (fun rv2 u2 H locs hw2 hP hD hS => ?_)
    have hP : va_P D classes (cW T ad S) H := hP
    have hD : va_D A (cW T ad S) := hD
    have qhw2 : rv2.toInt = 0 ∨ (rv2.toInt = 1 ∧ 0 ≤ rv1.toInt ∧ rv1.toInt < 7) := hw2
    have rrv2 := zt_rng rv2
    refine lv_if_ne (tgt := 24) hx hb d_Memory_scopesMadeSince_19 (by decide) (fun c19_1 => ?_) (fun c19_1 => ?_)
    · first | have fc19_1 : rv2.toInt < 0 := (by have := zt_ne (show rv2.toInt = _ from rfl) tI_0 c19_1; omega) | have fc19_1 : 0 < rv2.toInt := (by have := zt_ne (show rv2.toInt = _ from rfl) tI_0 c19_1; omega) | skip
      refine lv_iinc (v := (i + 1)) (lv' := [(2, .int (i + 1)), (0, .ref (ad 8)), (1, .ref (ad 48))]) hx hb d_Memory_scopesMadeSince_24 hl (k := 0) rfl (by first | rfl | decide) (by decide) rfl (fun ls hl => ?_)
      obtain ⟨x1, ex1⟩ : ∃ z, z = (i + 1) := ⟨_, rfl⟩
      rw [← ex1] at hl
      have fx1 : x1.toInt = (i.toInt + 1) := by rw [ex1]; exact (zt_add (show i.toInt = _ from rfl) tI_1 (by omega) (by omega)).trans (by omega)
      have hl : lv_has ls 3 [(2, .int x1), (0, .ref (ad 8)), (1, .ref (ad 48))] := hl
      refine lv_goto (tgt := 2) hx hb d_Memory_scopesMadeSince_27 (by decide) ?_
      exact ih (k - 1) x1 _ _ _ (by omega) ⟨(show 0 ≤ x1.toInt ∧ (f_xm_scopeCount S).toInt ≤ x1.toInt + (((k - 1) : Nat) : Int) by omega), hP, hD, hS, lv_sub hl [0, 1, 2] rfl⟩
    · have fc19_1 : rv2.toInt = 0 := zt_eq (show rv2.toInt = _ from rfl) tI_0 c19_1
      refine lv_iconst (v := 1) hx hb d_Memory_scopesMadeSince_22 (by decide) ?_
      exact j_zret F hr (by decide +kernel) hlocks hK hS () (show (1 : Int32).toInt = 0 ∨ (1 : Int32).toInt = 1 by have := tI_1; omega) hP hD d_Memory_scopesMadeSince_23
set_option maxHeartbeats 4000000 in
set_option maxRecDepth 100000 in
theorem c_Memory_stackMadeSince_48 (l : Launch) (D : va_G) (T : Nat → ClassId) (ad : Nat → Nat) (g : GE) (Bq : Nat → Prop) (S : CS) (p0 : Int32) (sz : Nat)  : Met l ⟨"PageScribe$Memory", "stackMadeSince", "(LPageScribe$Store;I)Z"⟩ (wy ⟨"PageScribe$Memory", "stackMadeSince", "(LPageScribe$Store;I)Z"⟩ prog_5_method_25_code 5 (some .boolean)) ({ frames := 2, cells := 0, slots := 0, locals := 140 }) (va_Pc [.ref (ad 8), .ref (ad 48), .int p0] (Pw D T (cW T ad S) sz (EC g Bq ad))) (va_Qi (fun (r : Int32) (u : Unit) => r.toInt = 0 ∨ r.toInt = 1) (fun u t => Bw D T (va_A (cW T ad S) sz) (cW T ad S) t) (va_A (cW T ad S) sz)) 0 0 (va_A (cW T ad S) sz) := by
  refine j_met (y := ⟨"PageScribe$Memory", "stackMadeSince", "(LPageScribe$Store;I)Z"⟩) (b := prog_5_method_25_code) (n := 5) (ret := (some .boolean)) (av := [.ref (ad 8), .ref (ad 48), .int p0]) (Qc := fun A => va_Qi (fun (r : Int32) (u : Unit) => r.toInt = 0 ∨ r.toInt = 1) (fun u t => Bw D T A (cW T ad S) t) A) (by decide +kernel) (Nat.le_of_ble_eq_true rfl) (fun p e s m args below meth c A ls F hr hlocks hnm hK hP hD hS hA hN hE hl => ?_)
  obtain ⟨hx, hb, hml, hown, hts⟩ := id F
  have hl : lv_has ls 5 [(0, .ref (ad 8)), (1, .ref (ad 48)), (2, .int p0)] := hl
  have hAB : ∀ q, A q → Bq q := EC.ab hE hN
  have hEV := hE.1.narrow hAB
  have rp0 := zt_rng p0
  refine lv_iconst (v := 1) hx hb d_Memory_stackMadeSince_0 (by decide) ?_
  refine lv_istore_n (lv' := [(3, .int 1), (0, .ref (ad 8)), (1, .ref (ad 48)), (2, .int p0)]) hx hb d_Memory_stackMadeSince_1 rfl hl (by decide) rfl (fun ls hl => ?_)
  refine j_loop (α := Int32) (fun k x H locs ls => (1 ≤ x.toInt ∧ (f_xst_z S).toInt ≤ x.toInt + ((k : Nat) : Int)) ∧ va_P D classes (cW T ad S) H ∧ va_D A (cW T ad S) ∧ va_S A s.heap H locs ∧ lv_has ls 5 [(3, .int x), (0, .ref (ad 8)), (1, .ref (ad 48)), (2, .int p0)]) (fun _ _ ls => F0 m 2 ls []) (fun k x H locs ls hI9 ih => ?_) ((f_xst_z S).toInt).toNat (1 : Int32) _ _ _ ⟨(show 1 ≤ (1 : Int32).toInt ∧ (f_xst_z S).toInt ≤ (1 : Int32).toInt + ((((f_xst_z S).toInt).toNat : Nat) : Int) by have := tI_1; omega), hP, hD, hS, lv_sub hl [0, 1, 2, 3] rfl⟩
  obtain ⟨i, rfl⟩ : ∃ z, z = x := ⟨_, rfl⟩
  obtain ⟨hf1, hP, hD, hS, hl⟩ := hI9
  have hf1 : 1 ≤ i.toInt ∧ (f_xst_z S).toInt ≤ i.toInt + ((k : Nat) : Int) := hf1
  have hP : va_P D classes (cW T ad S) H := hP
  have hD : va_D A (cW T ad S) := hD
  have hl : lv_has ls 5 [(3, .int i), (0, .ref (ad 8)), (1, .ref (ad 48)), (2, .int p0)] := hl
  refine lv_iload_n hx hb d_Memory_stackMadeSince_2 rfl (lv_at hl 0 rfl) ?_
  refine lv_aload_n hx hb d_Memory_stackMadeSince_3 rfl (lv_at hl 1 rfl) ?_
  refine va_get (D := D) (ci := 2) (v := .ref (ad 1)) (C := "PageScribe$Memory") (T := F_Memory) (N := 8) hx hb hts i_Memory hown hK hP 8 (ce_8 _ _ _) cl_2 0 (by decide) (hts _ k_1_129) (fun _ h9 => h9) rfl d_Memory_stackMadeSince_4 ?_
  refine va_get (D := D) (ci := 0) (v := .int (f_xst_z S)) (C := "PageScribe$Stack") (T := F_Stack) (N := 4) hx hb hts i_Stack hown hK hP 1 (ce_1 _ _ _) cl_0 3 (by decide) (hts _ k_1_53) (fun x9 h9 => u_same (hts _ k_1_51) x9 h9) rfl d_Memory_stackMadeSince_7 ?_
  have qr_18 := zt_rng (f_xst_z S)
  refine lv_icmp_ge (tgt := 102) hx hb d_Memory_stackMadeSince_10 (by decide) (fun c10_1 => ?_) (fun c10_1 => ?_)
  · have fc10_1 : (f_xst_z S).toInt ≤ i.toInt := zt_le (show (f_xst_z S).toInt = _ from rfl) (show i.toInt = _ from rfl) c10_1
    refine lv_iconst (v := 0) hx hb d_Memory_stackMadeSince_102 (by decide) ?_
    exact j_zret F hr (by decide +kernel) hlocks hK hS () (show (0 : Int32).toInt = 0 ∨ (0 : Int32).toInt = 1 by have := tI_0; omega) hP hD d_Memory_stackMadeSince_103
  · have fc10_1 : i.toInt < (f_xst_z S).toInt := Int.not_le.mp (zt_nle (show (f_xst_z S).toInt = _ from rfl) (show i.toInt = _ from rfl) c10_1)
    refine lv_aload_n hx hb d_Memory_stackMadeSince_13 rfl (lv_at hl 1 rfl) ?_
    refine va_get (D := D) (ci := 2) (v := .ref (ad 1)) (C := "PageScribe$Memory") (T := F_Memory) (N := 8) hx hb hts i_Memory hown hK hP 8 (ce_8 _ _ _) cl_2 0 (by decide) (hts _ k_1_129) (fun _ h9 => h9) rfl d_Memory_stackMadeSince_14 ?_
    refine lv_iload_n hx hb d_Memory_stackMadeSince_17 rfl (lv_at hl 0 rfl) ?_
    refine jc_ci (w := (fun _ => S)) hK hP hD hS hA (va_runV (As := [.int i]) (rest := []) F (c_Stack_numberDown l D T ad S i  H.size) (j_cV (k := 1) (C := "PageScribe$Stack") hts k_2_130 k_1_3 k_4_237 k_2_128 k_2_129 (by decide +kernel) ⟨Nat.le_of_ble_eq_true rfl, Nat.le_of_ble_eq_true rfl⟩) (j_preV (q0 := 1) (ci := 0) hK hP hD csc csc_all csc_nd cl_0 (ce_1 _ _ _) (fun _ _ _ _ h => h) (fun _ _ _ => trivial)) rfl rfl hl.1 rfl (lv_room (Nat.le_of_ble_eq_true rfl)) d_Memory_stackMadeSince_18 ⟨Nat.le_of_ble_eq_true rfl, Nat.le_of_ble_eq_true rfl⟩) (fun rv1 u1 H locs hw1 hP hD hS => ?_)
    have hP : va_P D classes (cW T ad S) H := hP
    have hD : va_D A (cW T ad S) := hD
    have rrv1 := zt_rng rv1
    refine lv_istore (lv' := [(4, .int rv1), (3, .int i), (0, .ref (ad 8)), (1, .ref (ad 48)), (2, .int p0)]) hx hb d_Memory_stackMadeSince_21 hl (by decide) rfl (fun ls hl => ?_)
    refine lv_aload_n hx hb d_Memory_stackMadeSince_23 rfl (lv_at hl 2 rfl) ?_
    refine va_get (D := D) (ci := 2) (v := .ref (ad 1)) (C := "PageScribe$Memory") (T := F_Memory) (N := 8) hx hb hts i_Memory hown hK hP 8 (ce_8 _ _ _) cl_2 0 (by decide) (hts _ k_1_129) (fun _ h9 => h9) rfl d_Memory_stackMadeSince_24 ?_
    refine lv_iload_n hx hb d_Memory_stackMadeSince_27 rfl (lv_at hl 1 rfl) ?_
    refine jc_ci (w := (fun _ => S)) hK hP hD hS hA (va_runV (As := [.int i]) (rest := []) F (c_Stack_kindDown l D T ad S i  H.size) (j_cV (k := 1) (C := "PageScribe$Stack") hts k_2_120 k_1_3 k_5_5 k_2_118 k_2_119 (by decide +kernel) ⟨Nat.le_of_ble_eq_true rfl, Nat.le_of_ble_eq_true rfl⟩) (j_preV (q0 := 1) (ci := 0) hK hP hD csc csc_all csc_nd cl_0 (ce_1 _ _ _) (fun _ _ _ _ h => h) (fun _ _ _ => trivial)) rfl rfl hl.1 rfl (lv_room (Nat.le_of_ble_eq_true rfl)) d_Memory_stackMadeSince_28 ⟨Nat.le_of_ble_eq_true rfl, Nat.le_of_ble_eq_true rfl⟩) (fun rv2 u2 H locs hw2 hP hD hS => ?_)
    have hP : va_P D classes (cW T ad S) H := hP
    have hD : va_D A (cW T ad S) := hD
    have rrv2 := zt_rng rv2
    refine lv_bipush (v := 7) hx hb d_Memory_stackMadeSince_31 (by decide) ?_
    refine lv_iand hx hb d_Memory_stackMadeSince_33 ?_
    refine lv_topi (fun x1 ex1 => ?_)
    have rx1 := zt_rng x1
    by_cases h_5_1 : x1.toInt = 5
    · refine lv_tableIn (off := 26) (tgt := 60) hx hb d_Memory_stackMadeSince_34 (by omega) (by omega) (by rw [show x1.toInt = 5 from h_5_1]; decide +kernel) (by decide) ?_
      refine lv_iload hx hb d_Memory_stackMadeSince_60 (lv_at hl 0 rfl) ?_
      refine j_ci (wc := []) (wr := (cW T ad S)) hK hP hD hS hA [] csc rfl csc_all csc_nd (fun _ _ => List.not_mem_nil) (va_runSN (As := [.int rv1]) (rest := []) F (c_Ps_endOf l D T rv1  H.size) (j_cSN (k := 1) hts k_5_125 k_1_1 (hE.2.2.2 (Cond.methodLinkNest "PageScribe$Memory" 207 ⟨"PageScribe", "endOf", "(I)I"⟩ "PageScribe") (List.mem_of_getElem? (i := 9) rfl)) k_5_124 (by decide +kernel) ⟨Nat.le_of_ble_eq_true rfl, Nat.le_of_ble_eq_true rfl⟩) (j_preS hK hP hD [] rfl (by decide) (fun _ _ _ _ h => h) (fun _ _ _ => trivial)) rfl rfl hl.1 rfl (lv_room (Nat.le_of_ble_eq_true rfl)) d_Memory_stackMadeSince_62 ⟨Nat.le_of_ble_eq_true rfl, Nat.le_of_ble_eq_true rfl⟩) (fun rv3 u3 H locs hw3 hP hD hS => ?_)
      have hP : va_P D classes (cW T ad S) H := hP
      have hD : va_D A (cW T ad S) := hD
      have rrv3 := zt_rng rv3
      refine lv_aload_n hx hb d_Memory_stackMadeSince_65 rfl (lv_at hl 3 rfl) ?_
      refine va_get (D := D) (ci := 3) (v := .ref (ad 49)) (C := "PageScribe$Store") (T := F_Store) (N := 5) hx hb hts i_Store hown hK hP 48 (ce_48 _ _ _) cl_3 0 (by decide) (hts _ k_1_108) (fun _ h9 => h9) rfl d_Memory_stackMadeSince_66 ?_
      refine va_get (D := D) (ci := 4) (v := .int (f_xc3_z S)) (C := "PageScribe$Row") (T := F_Row) (N := 4) hx hb hts i_Row hown hK hP 49 (ce_49 _ _ _) cl_4 3 (by decide) (hts _ k_1_54) (fun _ h9 => h9) rfl d_Memory_stackMadeSince_69 ?_
      refine lv_icmp_le (tgt := 96) hx hb d_Memory_stackMadeSince_72 (by decide) (fun c72_1 => ?_) (fun c72_1 => ?_)
      · have fc72_1 : rv3.toInt ≤ (f_xc3_z S).toInt := zt_le (show rv3.toInt = _ from rfl) (show (f_xc3_z S).toInt = _ from rfl) c72_1
        refine lv_iinc (v := (i + 1)) (lv' := [(3, .int (i + 1)), (4, .int rv1), (0, .ref (ad 8)), (1, .ref (ad 48)), (2, .int p0)]) hx hb d_Memory_stackMadeSince_96 hl (k := 1) rfl (by first | rfl | decide) (by decide) rfl (fun ls hl => ?_)
        obtain ⟨x2, ex2⟩ : ∃ z, z = (i + 1) := ⟨_, rfl⟩
        rw [← ex2] at hl
        have fx2 : x2.toInt = (i.toInt + 1) := by rw [ex2]; exact (zt_add (show i.toInt = _ from rfl) tI_1 (by omega) (by omega)).trans (by omega)
        have hl : lv_has ls 5 [(3, .int x2), (4, .int rv1), (0, .ref (ad 8)), (1, .ref (ad 48)), (2, .int p0)] := hl
        refine lv_goto (tgt := 2) hx hb d_Memory_stackMadeSince_99 (by decide) ?_
        exact ih (k - 1) x2 _ _ _ (by omega) ⟨(show 1 ≤ x2.toInt ∧ (f_xst_z S).toInt ≤ x2.toInt + (((k - 1) : Nat) : Int) by omega), hP, hD, hS, lv_sub hl [0, 2, 3, 4] rfl⟩
      · have fc72_1 : (f_xc3_z S).toInt < rv3.toInt := Int.not_le.mp (zt_nle (show rv3.toInt = _ from rfl) (show (f_xc3_z S).toInt = _ from rfl) c72_1)
        refine lv_iconst (v := 1) hx hb d_Memory_stackMadeSince_75 (by decide) ?_
        exact j_zret F hr (by decide +kernel) hlocks hK hS () (show (1 : Int32).toInt = 0 ∨ (1 : Int32).toInt = 1 by have := tI_1; omega) hP hD d_Memory_stackMadeSince_76
    by_cases h_6_1 : x1.toInt = 6
    · refine lv_tableIn (off := 43) (tgt := 77) hx hb d_Memory_stackMadeSince_34 (by omega) (by omega) (by rw [show x1.toInt = 6 from h_6_1]; decide +kernel) (by decide) ?_
      refine lv_aload_n hx hb d_Memory_stackMadeSince_77 rfl (lv_at hl 3 rfl) ?_
      refine lv_iload hx hb d_Memory_stackMadeSince_78 (lv_at hl 0 rfl) ?_
      refine jc_ci (w := (fun _ => S)) hK hP hD hS hA (va_runV (As := [.int rv1]) (rest := []) F (c_Store_hasDict_48 l D T ad S rv1  H.size) (j_cV (k := 1) (C := "PageScribe$Store") hts k_3_188 k_1_6 k_5_118 k_3_186 k_3_187 (by decide +kernel) ⟨Nat.le_of_ble_eq_true rfl, Nat.le_of_ble_eq_true rfl⟩) (j_preV (q0 := 48) (ci := 3) hK hP hD csc csc_all csc_nd cl_3 (ce_48 _ _ _) (fun _ _ _ _ h => h) (fun _ _ _ => trivial)) rfl rfl hl.1 rfl (lv_room (Nat.le_of_ble_eq_true rfl)) d_Memory_stackMadeSince_80 ⟨Nat.le_of_ble_eq_true rfl, Nat.le_of_ble_eq_true rfl⟩) (fun rv4 u4 H locs hw4 hP hD hS => ?_)
      have hP : va_P D classes (cW T ad S) H := hP
      have hD : va_D A (cW T ad S) := hD
      have qhw4 : rv4.toInt = 0 ∨ (rv4.toInt = 1 ∧ 0 ≤ rv1.toInt ∧ rv1.toInt < 7) := hw4
      have rrv4 := zt_rng rv4
      refine lv_if_ne (tgt := 96) hx hb d_Memory_stackMadeSince_83 (by decide) (fun c83_1 => ?_) (fun c83_1 => ?_)
      · first | have fc83_1 : rv4.toInt < 0 := (by have := zt_ne (show rv4.toInt = _ from rfl) tI_0 c83_1; omega) | have fc83_1 : 0 < rv4.toInt := (by have := zt_ne (show rv4.toInt = _ from rfl) tI_0 c83_1; omega) | skip
        refine lv_iinc (v := (i + 1)) (lv' := [(3, .int (i + 1)), (4, .int rv1), (0, .ref (ad 8)), (1, .ref (ad 48)), (2, .int p0)]) hx hb d_Memory_stackMadeSince_96 hl (k := 1) rfl (by first | rfl | decide) (by decide) rfl (fun ls hl => ?_)
        obtain ⟨x3, ex3⟩ : ∃ z, z = (i + 1) := ⟨_, rfl⟩
        rw [← ex3] at hl
        have fx3 : x3.toInt = (i.toInt + 1) := by rw [ex3]; exact (zt_add (show i.toInt = _ from rfl) tI_1 (by omega) (by omega)).trans (by omega)
        have hl : lv_has ls 5 [(3, .int x3), (4, .int rv1), (0, .ref (ad 8)), (1, .ref (ad 48)), (2, .int p0)] := hl
        refine lv_goto (tgt := 2) hx hb d_Memory_stackMadeSince_99 (by decide) ?_
        exact ih (k - 1) x3 _ _ _ (by omega) ⟨(show 1 ≤ x3.toInt ∧ (f_xst_z S).toInt ≤ x3.toInt + (((k - 1) : Nat) : Int) by omega), hP, hD, hS, lv_sub hl [0, 2, 3, 4] rfl⟩
      · have fc83_1 : rv4.toInt = 0 := zt_eq (show rv4.toInt = _ from rfl) tI_0 c83_1
        refine lv_iconst (v := 1) hx hb d_Memory_stackMadeSince_86 (by decide) ?_
        exact j_zret F hr (by decide +kernel) hlocks hK hS () (show (1 : Int32).toInt = 0 ∨ (1 : Int32).toInt = 1 by have := tI_1; omega) hP hD d_Memory_stackMadeSince_87
    by_cases h_7_1 : x1.toInt = 7
    · refine lv_tableIn (off := 54) (tgt := 88) hx hb d_Memory_stackMadeSince_34 (by omega) (by omega) (by rw [show x1.toInt = 7 from h_7_1]; decide +kernel) (by decide) ?_
      refine lv_iload hx hb d_Memory_stackMadeSince_88 (lv_at hl 0 rfl) ?_
      refine lv_iload_n hx hb d_Memory_stackMadeSince_90 rfl (lv_at hl 4 rfl) ?_
      refine lv_icmp_le (tgt := 96) hx hb d_Memory_stackMadeSince_91 (by decide) (fun c91_1 => ?_) (fun c91_1 => ?_)
      · have fc91_1 : rv1.toInt ≤ p0.toInt := zt_le (show rv1.toInt = _ from rfl) (show p0.toInt = _ from rfl) c91_1
        refine lv_iinc (v := (i + 1)) (lv' := [(3, .int (i + 1)), (4, .int rv1), (0, .ref (ad 8)), (1, .ref (ad 48)), (2, .int p0)]) hx hb d_Memory_stackMadeSince_96 hl (k := 1) rfl (by first | rfl | decide) (by decide) rfl (fun ls hl => ?_)
        obtain ⟨x4, ex4⟩ : ∃ z, z = (i + 1) := ⟨_, rfl⟩
        rw [← ex4] at hl
        have fx4 : x4.toInt = (i.toInt + 1) := by rw [ex4]; exact (zt_add (show i.toInt = _ from rfl) tI_1 (by omega) (by omega)).trans (by omega)
        have hl : lv_has ls 5 [(3, .int x4), (4, .int rv1), (0, .ref (ad 8)), (1, .ref (ad 48)), (2, .int p0)] := hl
        refine lv_goto (tgt := 2) hx hb d_Memory_stackMadeSince_99 (by decide) ?_
        exact ih (k - 1) x4 _ _ _ (by omega) ⟨(show 1 ≤ x4.toInt ∧ (f_xst_z S).toInt ≤ x4.toInt + (((k - 1) : Nat) : Int) by omega), hP, hD, hS, lv_sub hl [0, 2, 3, 4] rfl⟩
      · have fc91_1 : p0.toInt < rv1.toInt := Int.not_le.mp (zt_nle (show rv1.toInt = _ from rfl) (show p0.toInt = _ from rfl) c91_1)
        refine lv_iconst (v := 1) hx hb d_Memory_stackMadeSince_94 (by decide) ?_
        exact j_zret F hr (by decide +kernel) hlocks hK hS () (show (1 : Int32).toInt = 0 ∨ (1 : Int32).toInt = 1 by have := tI_1; omega) hP hD d_Memory_stackMadeSince_95
    refine lv_tableOut (tgt := 96) hx hb d_Memory_stackMadeSince_34 (by omega) (by decide) ?_
    refine lv_iinc (v := (i + 1)) (lv' := [(3, .int (i + 1)), (4, .int rv1), (0, .ref (ad 8)), (1, .ref (ad 48)), (2, .int p0)]) hx hb d_Memory_stackMadeSince_96 hl (k := 1) rfl (by first | rfl | decide) (by decide) rfl (fun ls hl => ?_)
    obtain ⟨x5, ex5⟩ : ∃ z, z = (i + 1) := ⟨_, rfl⟩
    rw [← ex5] at hl
    have fx5 : x5.toInt = (i.toInt + 1) := by rw [ex5]; exact (zt_add (show i.toInt = _ from rfl) tI_1 (by omega) (by omega)).trans (by omega)
    have hl : lv_has ls 5 [(3, .int x5), (4, .int rv1), (0, .ref (ad 8)), (1, .ref (ad 48)), (2, .int p0)] := hl
    refine lv_goto (tgt := 2) hx hb d_Memory_stackMadeSince_99 (by decide) ?_
    exact ih (k - 1) x5 _ _ _ (by omega) ⟨(show 1 ≤ x5.toInt ∧ (f_xst_z S).toInt ≤ x5.toInt + (((k - 1) : Nat) : Int) by omega), hP, hD, hS, lv_sub hl [0, 2, 3, 4] rfl⟩
