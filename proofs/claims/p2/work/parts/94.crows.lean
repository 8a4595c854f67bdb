/-! METHODS THAT WRITE NOTHING: their contracts leave every cell but new ones -/
abbrev Rn (sz : Nat) : Nat → Prop := fun q => sz ≤ q
theorem va_Pn {D : va_G} {H : Heap} : va_P D classes ([] : va_W) H := fun k q h => by simp at h
theorem va_Dn {A : Nat → Prop} : va_D A ([] : va_W) := ⟨fun i j p q h => by simp at h, fun k q h => by simp at h⟩
theorem j_metR {l : Launch} {y : MethodName} {b : ByteArray} {n : Nat} {ret : Option FieldType} {rm : Room} {D : va_G} {T : Nat → ClassId} {ws : va_W} {sz : Nat} {E : State → Prop} {av : List Value} {Qc : (Nat → Prop) → Array Value → State → Outcome → State → Prop} {mc ms : Nat}
    (hy : plainName y.cls = true) (hn : (lg_sl av).length ≤ n)
    (body : ∀ (p : Program) (e : Env) (s : State) (m : MethodId) (args : Array Value) (below : List Frame) (meth : Method) (c : Code) (A0 : Nat → Prop) (ls : Array Slot),
      CallFix p m c b n s args gw y.cls → meth.sig.returnType = ret → meth.locks = false → meth.name = y.name → va_K D classes (TY T) s → va_P D classes ws s.heap → va_D A0 ws → va_S (Rn s.heap.size) s.heap s.heap [] → (∀ q : Nat, s.heap.size ≤ q → A0 q) → E s → lv_has ls n (lv_args 0 av) →
      W p l e rm s m args below meth c s.heap [] 0 0 (MQ below (Qc (Rn s.heap.size)) args s mc ms (Rn s.heap.size)) (F0 m 0 ls [])) :
    Met l y (wy y b n ret) rm (va_Pc av (Pw D T ws sz E)) (Qc (Rn sz)) mc ms (Rn sz) := by
  refine Met.ofW (cc := b) (maxL := n) (ret := ret) hy rfl ?_
  intro p e s m args below meth c s₁ B hml hv
  obtain ⟨rfl, hsz, hP, hK, hD0, hE⟩ := hv
  have hts := atoms_spec (ws := wy y b n ret) B.pre
  have hown : s.vm.findClass y.cls = some m.cls := findClass_of_methodNamed B.named
  subst hsz
  rw [lg_entry_eq]
  exact body p e s m _ below meth c _ _ ⟨B.exec, B.bytes, hml, hown, fun w h => hts w (List.mem_cons_of_mem _ h)⟩ B.returns B.notSynchronized (name_of_methodNamed B.named B.method).1 hK hP (hD0.self (sz := s.heap.size)) va_S.rf (fun q h => Or.inr h) hE (lv_entry av hn)
theorem j_metTR {l : Launch} {y : MethodName} {b : ByteArray} {n : Nat} {ret : Option FieldType} {rm : Room} {D : va_G} {T : Nat → ClassId} {ws : va_W} {sz : Nat} {E : State → Prop} {av : List Value} {Qt : State → Addr → State → Prop} {mc ms : Nat}
    (hy : plainName y.cls = true) (hn : (lg_sl av).length ≤ n)
    (body : ∀ (p : Program) (e : Env) (s : State) (m : MethodId) (args : Array Value) (below : List Frame) (meth : Method) (c : Code) (A0 : Nat → Prop) (ls : Array Slot),
      CallFix p m c b n s args gw y.cls → meth.sig.returnType = ret → meth.locks = false → c.exceptionTable.isEmpty = true → va_K D classes (TY T) s → va_P D classes ws s.heap → va_D A0 ws → va_S (Rn s.heap.size) s.heap s.heap [] → (∀ q : Nat, s.heap.size ≤ q → A0 q) → E s → lv_has ls n (lv_args 0 av) →
      W p l e rm s m args below meth c s.heap [] 0 0 (MQT below Qt s mc ms (Rn s.heap.size)) (F0 m 0 ls [])) :
    MetT l y (wy y b n ret) rm (va_Pc av (Pw D T ws sz E)) Qt mc ms (Rn sz) := by
  refine MetFree.of_bodyS (code := b) (maxLocals := n) (ret := ret) hy ?_ ?_
  · intro args s m h hn
    obtain ⟨meth, c, h1, h2, h3, h4, h5, h6, -, -⟩ := Cond.code_spec hn (atoms_spec (ws := wy y b n ret) h _ List.mem_cons_self)
    exact ⟨meth, c, h1, h2, h3, h4, h5, h6⟩
  · intro p e s m args below meth c s₁ B hml hv _
    obtain ⟨rfl, hsz, hP, hK, hD0, hE⟩ := hv
    have hts := atoms_spec (ws := wy y b n ret) B.pre
    have hown : s.vm.findClass y.cls = some m.cls := findClass_of_methodNamed B.named
    subst hsz
    have hh0 : s₁.heap = s.heap := by rw [B.state]; rfl
    have K : W p l e rm s m av.toArray below meth c s.heap [] 0 0 (MQT below Qt s mc ms (Rn s.heap.size)) (entryFrame m av.toArray n) := by
      rw [lg_entry_eq]
      exact body p e s m _ below meth c _ _ ⟨B.exec, B.bytes, hml, hown, fun w h => hts w (List.mem_cons_of_mem _ h)⟩ B.returns B.notSynchronized (B.noHandlers (hts _ List.mem_cons_self)) hK hP (hD0.self (sz := s.heap.size)) va_S.rf (fun q h => Or.inr h) hE (lv_entry av hn)
    obtain ⟨t, a1, x, b1, b2, b3, b4⟩ := K s₁ hh0 (Stand.of_body B)
    exact ⟨t, .threw x, a1, b1, b2, x, rfl, b3, b4⟩
section JR
variable {p : Program} {l : Launch} {e : Env} {R : Room} {s : State} {m : MethodId} {args : Array Value} {below : List Frame} {meth : Method} {c : Code} {H : Heap} {locs : List Loc} {cells slots nL : Nat} {Q : State → Prop}
variable {cc : ByteArray} {pc : Nat} {ls : Array Slot} {rest st0 : List Value} {A A0 : Nat → Prop} {D : va_G} {T : Nat → ClassId} {own : String} {a : Array Value} {mc ms : Nat} {ad : Nat → Nat} {S0 : CS}
theorem jr_keep {H1 : Heap} (hP : va_P D classes (cW T ad S0) H) (hD : va_D A0 (cW T ad S0)) (hF : ∀ q, H.size ≤ q → A0 q) (hk : ∀ q : Nat, q < H.size → ¬ Rn H.size q → H1[q]? = H[q]?) : va_P D classes (cW T ad S0) H1 := by
  obtain ⟨h1, -⟩ := va_join (wc := ([] : va_W)) (wr := cW T ad S0) (w1 := ([] : va_W)) (H1 := H1) hP hD [] csc rfl csc_all csc_nd (fun _ _ => List.not_mem_nil) (fun q h1 h2 => hk q h1 (fun z => h2 (Or.inr z))) (fun q h => by
    rcases h with ⟨k, e, h⟩ | h
    · simp at h
    · exact hF q h) va_Pn va_Dn
  rw [List.append_nil] at h1
  exact h1
theorem j_ciR {S : Type} {post : Int32 → S → Prop} (hK : va_K D classes (TY T) s) (hP : va_P D classes (cW T ad S0) H) (hD : va_D A0 (cW T ad S0)) (hS : va_S A s.heap H locs) (hA0 : ∀ q : Nat, s.heap.size ≤ q → A0 q) (hA : ∀ q : Nat, s.heap.size ≤ q → A q)
    (hr : va_Run p l e R s m args below meth c H locs cells slots mc ms (F0 m pc ls st0) rest (va_Qi post (fun u t => Bw D T (Rn H.size) [] t) (Rn H.size) a) (Rn H.size))
    (kk : ∀ (r : Int32) (u : S) (H1 : Heap) (locs1 : List Loc), post r u → va_P D classes (cW T ad S0) H1 → va_D A0 (cW T ad S0) → va_S A s.heap H1 locs1 → W p l e R s m args below meth c H1 locs1 (cells + mc) (slots + ms) Q (F0 m (pc + 3) ls (.int r :: rest))) : W p l e R s m args below meth c H locs cells slots Q (F0 m pc ls st0) := by
  refine va_calli hr hS (fun q _ h => hA q (Nat.le_trans hS.1 h)) (fun q h => hA q (Nat.le_trans hS.1 h)) (fun r u t H1 locs1 ht hvm hp hB hz hk hS1 => ?_)
  exact kk r u H1 locs1 hp (jr_keep hP hD (fun q h => hA0 q (Nat.le_trans hS.1 h)) hk) hD hS1
end JR
/-- the words of a throw, IllegalState among them -/
def spW3 : List Cond := .castable "java/lang/IllegalStateException" "java/lang/IllegalStateException" :: spW
theorem ow_s1 : ∀ a ∈ (Bundle.ownAtoms "PageScribe" 71 "java/lang/IllegalArgumentException" thN).filter isSp, a ∈ spW3 := fun a h => List.mem_cons_of_mem _ (ow_sp1 a h)
theorem ow_s2 : ∀ a ∈ (Bundle.ownAtoms "PageScribe" 131 "java/lang/IndexOutOfBoundsException" thN).filter isSp, a ∈ spW3 := fun a h => List.mem_cons_of_mem _ (ow_sp2 a h)
theorem ow_in3 : ∀ a ∈ (Bundle.ownAtoms "PageScribe" 143 "java/lang/IllegalStateException" thN).filter (fun w => !isSp w), a ∈ lw_tbl ∧ goodWord a = true := by decide +kernel
theorem ow_s3 : ∀ a ∈ (Bundle.ownAtoms "PageScribe" 143 "java/lang/IllegalStateException" thN).filter isSp, a ∈ spW3 := by decide +kernel
def ZI (U : State) : Prop := (Cond.castable "java/lang/IllegalStateException" "java/lang/IllegalStateException").before #[] U = true
theorem ow_of3 {s : State} {args : Array Value} (hts : ∀ w ∈ gw, w.before args s = true) (hZ : ZZ s) (hC : ZC s) (hI : ZI s) {l : List Cond} (h1 : ∀ a ∈ l.filter (fun w => !isSp w), a ∈ lw_tbl ∧ goodWord a = true) (h2 : ∀ a ∈ l.filter isSp, a ∈ spW3) : ∀ a ∈ l, a.before args s = true := by
  intro a ha
  by_cases hs : isSp a = true
  · rcases List.mem_cons.mp (h2 a (List.mem_filter.mpr ⟨ha, hs⟩)) with rfl | h3
    · exact cast_to (u := s) (U := s) (Vm.Alike.refl _) hI
    · exact ow_of (l := [a]) hts hZ hC (fun b hb => by
        have h4 := List.mem_filter.mp hb
        have h5 := List.mem_singleton.mp h4.1
        rw [h5, hs] at h4
        cases h4.2) (fun b hb => by
        have h4 := List.mem_filter.mp hb
        rw [List.mem_singleton.mp h4.1]
        exact h3) a (List.mem_singleton.mpr rfl)
  · have h := h1 a (List.mem_filter.mpr ⟨ha, by simpa using hs⟩)
    exact hts a (gw_of h.1 h.2)
def EY (ix : Nat) (tx : String) (qs : Nat) : State → Prop := fun U => ZZ U ∧ ZC U ∧ ZI U ∧ vk_R "PageScribe" ix tx qs U
theorem EY.calling {ix : Nat} {tx : String} {qs : Nat} {U : State} {g : JFrame} {mk : MethodId} {a : Array Value} (h : EY ix tx qs U) : EY ix tx qs (U.calling g mk a) := ⟨h.1.calling, h.2.1.calling, cast_to (u := U) (U := U.calling g mk a) (Vm.Alike.refl U.vm) h.2.2.1, vk_R.same (u := U) rfl h.2.2.2⟩
theorem EY.at {ix : Nat} {tx : String} {qs : Nat} {A : Nat → Prop} {s U : State} {H : Heap} {locs : List Loc} (hS : va_S A s.heap H locs) (hSt : ∀ q, A q → ∀ cell : Cell, s.heap[q]? = some cell → cell.vm.isStatics = false) (hU : U.heap = H) (hW : s.WarmedH U.vm) (h : EY ix tx qs s) : EY ix tx qs U := ⟨h.1.to hW.alike (Sts.of hS hSt hU), h.2.1.to hW.alike, cast_to hW.alike h.2.2.1, vk_R.warm hW h.2.2.2⟩
def kAt (f : Nat → Int32) (i : Int32) : Int32 := if 0 ≤ i.toInt ∧ i.toInt < 40 then f i.toInt.toNat else 0
abbrev kDn (S : CS) (p0 : Int32) : Int32 := kAt (a_xst_k S) (f_xst_z S - 1 - p0)
set_option maxHeartbeats 4000000 in
set_option maxRecDepth 100000 in
theorem r_Row_kindAt (l : Launch) (D : va_G) (T : Nat → ClassId) (ad : Nat → Nat) (S : CS) (p0 : Int32) (sz : Nat)  : Met l ⟨"PageScribe$Row", "kindAt", "(I)I"⟩ (wy ⟨"PageScribe$Row", "kindAt", "(I)I"⟩ prog_8_method_2_code 2 (some .int)) ({ frames := 0, cells := 0, slots := 0, locals := 0 }) (va_Pc [.ref (ad 1), .int p0] (Pw D T (cW T ad S) sz E0)) (va_Qi (fun (r : Int32) (u : Unit) => r = kAt (a_xst_k S) p0) (fun u t => Bw D T (Rn sz) [] t) (Rn sz)) 0 0 (Rn sz) := by
  refine j_metR (y := ⟨"PageScribe$Row", "kindAt", "(I)I"⟩) (b := prog_8_method_2_code) (n := 2) (ret := (some .int)) (av := [.ref (ad 1), .int p0]) (Qc := fun A => va_Qi (fun (r : Int32) (u : Unit) => r = kAt (a_xst_k S) p0) (fun u t => Bw D T A [] t) A) (by decide +kernel) (Nat.le_of_ble_eq_true rfl) (fun p e s m args below meth c A0 ls F hr hlocks hnm hK hP hD hS hA0 hE hl => ?_)
  obtain ⟨hx, hb, hml, hown, hts⟩ := id F
  have hl : lv_has ls 2 [(0, .ref (ad 1)), (1, .int p0)] := hl
  have rp0 := zt_rng p0
  refine lv_iload_n hx hb d_Row_kindAt_0 rfl (lv_at hl 1 rfl) ?_
  refine lv_if_lt (tgt := 22) hx hb d_Row_kindAt_1 (by decide) (fun c1_1 => ?_) (fun c1_1 => ?_)
  · have fc1_1 : p0.toInt < 0 := zt_lt (show p0.toInt = _ from rfl) tI_0 c1_1
    refine lv_iconst (v := 0) hx hb d_Row_kindAt_22 (by decide) ?_
    have hP := va_Pn (D := D) (H := s.heap)
    have hD := va_Dn (A := Rn s.heap.size)
    exact j_iret F hr hlocks hK hS () (show (0 : Int32) = kAt (a_xst_k S) p0 by have := tI_0; first | (unfold kAt; rw [if_pos ⟨by omega, by omega⟩]; assumption) | (unfold kAt; rw [if_neg (by omega)])) hP hD d_Row_kindAt_23
  · have fc1_1 : 0 ≤ p0.toInt := Int.not_lt.mp (zt_nlt (show p0.toInt = _ from rfl) tI_0 c1_1)
    refine lv_iload_n hx hb d_Row_kindAt_4 rfl (lv_at hl 1 rfl) ?_
    refine lv_aload_n hx hb d_Row_kindAt_5 rfl (lv_at hl 0 rfl) ?_
    refine va_get (D := D) (ci := 0) (v := .ref (ad 2)) (C := "PageScribe$Stack") (T := F_Stack) (N := 4) hx hb hts i_Stack hown hK hP 1 (ce_1 _ _ _) cl_0 0 (by decide) (hts _ k_1_46) (fun _ h9 => h9) rfl d_Row_kindAt_6 ?_
    refine va_alen (v := 40) hx hb hK hP 2 0 (ce_2 _ _ _) rfl (show Int32.ofNat 40 = 40 from by decide +kernel) d_Row_kindAt_9 ?_
    refine lv_icmp_ge (tgt := 22) hx hb d_Row_kindAt_10 (by decide) (fun c10_1 => ?_) (fun c10_1 => ?_)
    · have fc10_1 : 40 ≤ p0.toInt := zt_le tI_40 (show p0.toInt = _ from rfl) c10_1
      refine lv_iconst (v := 0) hx hb d_Row_kindAt_22 (by decide) ?_
      have hP := va_Pn (D := D) (H := s.heap)
      have hD := va_Dn (A := Rn s.heap.size)
      exact j_iret F hr hlocks hK hS () (show (0 : Int32) = kAt (a_xst_k S) p0 by have := tI_0; first | (unfold kAt; rw [if_pos ⟨by omega, by omega⟩]; assumption) | (unfold kAt; rw [if_neg (by omega)])) hP hD d_Row_kindAt_23
    · have fc10_1 : p0.toInt < 40 := Int.not_le.mp (zt_nle tI_40 (show p0.toInt = _ from rfl) c10_1)
      refine lv_aload_n hx hb d_Row_kindAt_13 rfl (lv_at hl 0 rfl) ?_
      refine va_get (D := D) (ci := 0) (v := .ref (ad 2)) (C := "PageScribe$Stack") (T := F_Stack) (N := 4) hx hb hts i_Stack hown hK hP 1 (ce_1 _ _ _) cl_0 0 (by decide) (hts _ k_1_46) (fun _ h9 => h9) rfl d_Row_kindAt_14 ?_
      refine lv_iload_n hx hb d_Row_kindAt_17 rfl (lv_at hl 1 rfl) ?_
      refine va_iald hx hb hK hP 2 0 (ce_2 _ _ _) rfl (zt_in (show p0.toInt = _ from rfl) (by omega) (by omega)) d_Row_kindAt_18 ?_
      refine lv_topi (fun x1 ex1 => ?_)
      have gx1 : x1 = (a_xst_k S) p0.toInt.toNat := ex1.trans (congrArg _ (zt_ix (show p0.toInt = _ from rfl)))
      have fx1 : x1.toInt = ((a_xst_k S) p0.toInt.toNat).toInt := by rw [gx1]
      have rx1 := zt_rng x1
      refine lv_goto (tgt := 23) hx hb d_Row_kindAt_19 (by decide) ?_
      have hP := va_Pn (D := D) (H := s.heap)
      have hD := va_Dn (A := Rn s.heap.size)
      exact j_iret F hr hlocks hK hS () (show x1 = kAt (a_xst_k S) p0 by first | (unfold kAt; rw [if_pos ⟨by omega, by omega⟩]; assumption) | (unfold kAt; rw [if_neg (by omega)])) hP hD d_Row_kindAt_23
set_option maxHeartbeats 4000000 in
set_option maxRecDepth 100000 in
theorem r_Row_numberAt (l : Launch) (D : va_G) (T : Nat → ClassId) (ad : Nat → Nat) (S : CS) (p0 : Int32) (sz : Nat)  : Met l ⟨"PageScribe$Row", "numberAt", "(I)I"⟩ (wy ⟨"PageScribe$Row", "numberAt", "(I)I"⟩ prog_8_method_3_code 2 (some .int)) ({ frames := 0, cells := 0, slots := 0, locals := 0 }) (va_Pc [.ref (ad 1), .int p0] (Pw D T (cW T ad S) sz E0)) (va_Qi (fun (r : Int32) (u : Unit) => r = kAt (a_xst_n S) p0) (fun u t => Bw D T (Rn sz) [] t) (Rn sz)) 0 0 (Rn sz) := by
  refine j_metR (y := ⟨"PageScribe$Row", "numberAt", "(I)I"⟩) (b := prog_8_method_3_code) (n := 2) (ret := (some .int)) (av := [.ref (ad 1), .int p0]) (Qc := fun A => va_Qi (fun (r : Int32) (u : Unit) => r = kAt (a_xst_n S) p0) (fun u t => Bw D T A [] t) A) (by decide +kernel) (Nat.le_of_ble_eq_true rfl) (fun p e s m args below meth c A0 ls F hr hlocks hnm hK hP hD hS hA0 hE hl => ?_)
  obtain ⟨hx, hb, hml, hown, hts⟩ := id F
  have hl : lv_has ls 2 [(0, .ref (ad 1)), (1, .int p0)] := hl
  have rp0 := zt_rng p0
  refine lv_iload_n hx hb d_Row_numberAt_0 rfl (lv_at hl 1 rfl) ?_
  refine lv_if_lt (tgt := 22) hx hb d_Row_numberAt_1 (by decide) (fun c1_1 => ?_) (fun c1_1 => ?_)
  · have fc1_1 : p0.toInt < 0 := zt_lt (show p0.toInt = _ from rfl) tI_0 c1_1
    refine lv_iconst (v := 0) hx hb d_Row_numberAt_22 (by decide) ?_
    have hP := va_Pn (D := D) (H := s.heap)
    have hD := va_Dn (A := Rn s.heap.size)
    exact j_iret F hr hlocks hK hS () (show (0 : Int32) = kAt (a_xst_n S) p0 by have := tI_0; first | (unfold kAt; rw [if_pos ⟨by omega, by omega⟩]; assumption) | (unfold kAt; rw [if_neg (by omega)])) hP hD d_Row_numberAt_23
  · have fc1_1 : 0 ≤ p0.toInt := Int.not_lt.mp (zt_nlt (show p0.toInt = _ from rfl) tI_0 c1_1)
    refine lv_iload_n hx hb d_Row_numberAt_4 rfl (lv_at hl 1 rfl) ?_
    refine lv_aload_n hx hb d_Row_numberAt_5 rfl (lv_at hl 0 rfl) ?_
    refine va_get (D := D) (ci := 0) (v := .ref (ad 3)) (C := "PageScribe$Stack") (T := F_Stack) (N := 4) hx hb hts i_Stack hown hK hP 1 (ce_1 _ _ _) cl_0 1 (by decide) (hts _ k_1_47) (fun _ h9 => h9) rfl d_Row_numberAt_6 ?_
    refine va_alen (v := 40) hx hb hK hP 3 0 (ce_3 _ _ _) rfl (show Int32.ofNat 40 = 40 from by decide +kernel) d_Row_numberAt_9 ?_
    refine lv_icmp_ge (tgt := 22) hx hb d_Row_numberAt_10 (by decide) (fun c10_1 => ?_) (fun c10_1 => ?_)
    · have fc10_1 : 40 ≤ p0.toInt := zt_le tI_40 (show p0.toInt = _ from rfl) c10_1
      refine lv_iconst (v := 0) hx hb d_Row_numberAt_22 (by decide) ?_
      have hP := va_Pn (D := D) (H := s.heap)
      have hD := va_Dn (A := Rn s.heap.size)
      exact j_iret F hr hlocks hK hS () (show (0 : Int32) = kAt (a_xst_n S) p0 by have := tI_0; first | (unfold kAt; rw [if_pos ⟨by omega, by omega⟩]; assumption) | (unfold kAt; rw [if_neg (by omega)])) hP hD d_Row_numberAt_23
    · have fc10_1 : p0.toInt < 40 := Int.not_le.mp (zt_nle tI_40 (show p0.toInt = _ from rfl) c10_1)
      refine lv_aload_n hx hb d_Row_numberAt_13 rfl (lv_at hl 0 rfl) ?_
      refine va_get (D := D) (ci := 0) (v := .ref (ad 3)) (C := "PageScribe$Stack") (T := F_Stack) (N := 4) hx hb hts i_Stack hown hK hP 1 (ce_1 _ _ _) cl_0 1 (by decide) (hts _ k_1_47) (fun _ h9 => h9) rfl d_Row_numberAt_14 ?_
      refine lv_iload_n hx hb d_Row_numberAt_17 rfl (lv_at hl 1 rfl) ?_
      refine va_iald hx hb hK hP 3 0 (ce_3 _ _ _) rfl (zt_in (show p0.toInt = _ from rfl) (by omega) (by omega)) d_Row_numberAt_18 ?_
      refine lv_topi (fun x1 ex1 => ?_)
      have gx1 : x1 = (a_xst_n S) p0.toInt.toNat := ex1.trans (congrArg _ (zt_ix (show p0.toInt = _ from rfl)))
      have fx1 : x1.toInt = ((a_xst_n S) p0.toInt.toNat).toInt := by rw [gx1]
      have rx1 := zt_rng x1
      refine lv_goto (tgt := 23) hx hb d_Row_numberAt_19 (by decide) ?_
      have hP := va_Pn (D := D) (H := s.heap)
      have hD := va_Dn (A := Rn s.heap.size)
      exact j_iret F hr hlocks hK hS () (show x1 = kAt (a_xst_n S) p0 by first | (unfold kAt; rw [if_pos ⟨by omega, by omega⟩]; assumption) | (unfold kAt; rw [if_neg (by omega)])) hP hD d_Row_numberAt_23
set_option maxHeartbeats 4000000 in
set_option maxRecDepth 100000 in
theorem r_Stack_hasDown (l : Launch) (D : va_G) (T : Nat → ClassId) (ad : Nat → Nat) (S : CS) (p0 : Int32) (sz : Nat)  : Met l ⟨"PageScribe$Stack", "hasDown", "(I)Z"⟩ (wy ⟨"PageScribe$Stack", "hasDown", "(I)Z"⟩ prog_9_method_2_code 2 (some .boolean)) ({ frames := 0, cells := 0, slots := 0, locals := 0 }) (va_Pc [.ref (ad 1), .int p0] (Pw D T (cW T ad S) sz E0)) (va_Qi (fun (r : Int32) (u : Unit) => (r.toInt = 1 ∧ 0 ≤ p0.toInt ∧ p0.toInt < (f_xst_z S).toInt) ∨ (r.toInt = 0 ∧ ¬ (0 ≤ p0.toInt ∧ p0.toInt < (f_xst_z S).toInt))) (fun u t => Bw D T (Rn sz) [] t) (Rn sz)) 0 0 (Rn sz) := by
  refine j_metR (y := ⟨"PageScribe$Stack", "hasDown", "(I)Z"⟩) (b := prog_9_method_2_code) (n := 2) (ret := (some .boolean)) (av := [.ref (ad 1), .int p0]) (Qc := fun A => va_Qi (fun (r : Int32) (u : Unit) => (r.toInt = 1 ∧ 0 ≤ p0.toInt ∧ p0.toInt < (f_xst_z S).toInt) ∨ (r.toInt = 0 ∧ ¬ (0 ≤ p0.toInt ∧ p0.toInt < (f_xst_z S).toInt))) (fun u t => Bw D T A [] t) A) (by decide +kernel) (Nat.le_of_ble_eq_true rfl) (fun p e s m args below meth c A0 ls F hr hlocks hnm hK hP hD hS hA0 hE hl => ?_)
  obtain ⟨hx, hb, hml, hown, hts⟩ := id F
  have hl : lv_has ls 2 [(0, .ref (ad 1)), (1, .int p0)] := hl
  have rp0 := zt_rng p0
  refine lv_iload_n hx hb d_Stack_hasDown_0 rfl (lv_at hl 1 rfl) ?_
  refine lv_if_lt (tgt := 16) hx hb d_Stack_hasDown_1 (by decide) (fun c1_1 => ?_) (fun c1_1 => ?_)
  · have fc1_1 : p0.toInt < 0 := zt_lt (show p0.toInt = _ from rfl) tI_0 c1_1
    refine lv_iconst (v := 0) hx hb d_Stack_hasDown_16 (by decide) ?_
    have hP := va_Pn (D := D) (H := s.heap)
    have hD := va_Dn (A := Rn s.heap.size)
    exact j_zret F hr (by decide +kernel) hlocks hK hS () (show ((0 : Int32).toInt = 1 ∧ 0 ≤ p0.toInt ∧ p0.toInt < (f_xst_z S).toInt) ∨ ((0 : Int32).toInt = 0 ∧ ¬ (0 ≤ p0.toInt ∧ p0.toInt < (f_xst_z S).toInt)) by have := tI_0; omega) hP hD d_Stack_hasDown_17
  · have fc1_1 : 0 ≤ p0.toInt := Int.not_lt.mp (zt_nlt (show p0.toInt = _ from rfl) tI_0 c1_1)
    refine lv_iload_n hx hb d_Stack_hasDown_4 rfl (lv_at hl 1 rfl) ?_
    refine lv_aload_n hx hb d_Stack_hasDown_5 rfl (lv_at hl 0 rfl) ?_
    refine va_get (D := D) (ci := 0) (v := .int (f_xst_z S)) (C := "PageScribe$Stack") (T := F_Stack) (N := 4) hx hb hts i_Stack hown hK hP 1 (ce_1 _ _ _) cl_0 3 (by decide) (hts _ k_1_50) (fun x9 h9 => u_same (hts _ k_1_51) x9 h9) rfl d_Stack_hasDown_6 ?_
    refine lv_icmp_ge (tgt := 16) hx hb d_Stack_hasDown_9 (by decide) (fun c9_1 => ?_) (fun c9_1 => ?_)
    · have fc9_1 : (f_xst_z S).toInt ≤ p0.toInt := zt_le (show (f_xst_z S).toInt = _ from rfl) (show p0.toInt = _ from rfl) c9_1
      refine lv_iconst (v := 0) hx hb d_Stack_hasDown_16 (by decide) ?_
      have hP := va_Pn (D := D) (H := s.heap)
      have hD := va_Dn (A := Rn s.heap.size)
      exact j_zret F hr (by decide +kernel) hlocks hK hS () (show ((0 : Int32).toInt = 1 ∧ 0 ≤ p0.toInt ∧ p0.toInt < (f_xst_z S).toInt) ∨ ((0 : Int32).toInt = 0 ∧ ¬ (0 ≤ p0.toInt ∧ p0.toInt < (f_xst_z S).toInt)) by have := tI_0; omega) hP hD d_Stack_hasDown_17
    · have fc9_1 : p0.toInt < (f_xst_z S).toInt := Int.not_le.mp (zt_nle (show (f_xst_z S).toInt = _ from rfl) (show p0.toInt = _ from rfl) c9_1)
      refine lv_iconst (v := 1) hx hb d_Stack_hasDown_12 (by decide) ?_
      refine lv_goto (tgt := 17) hx hb d_Stack_hasDown_13 (by decide) ?_
      have hP := va_Pn (D := D) (H := s.heap)
      have hD := va_Dn (A := Rn s.heap.size)
      exact j_zret F hr (by decide +kernel) hlocks hK hS () (show ((1 : Int32).toInt = 1 ∧ 0 ≤ p0.toInt ∧ p0.toInt < (f_xst_z S).toInt) ∨ ((1 : Int32).toInt = 0 ∧ ¬ (0 ≤ p0.toInt ∧ p0.toInt < (f_xst_z S).toInt)) by have := tI_1; omega) hP hD d_Stack_hasDown_17
set_option maxHeartbeats 4000000 in
set_option maxRecDepth 100000 in
theorem r_Stack_kindDown (l : Launch) (D : va_G) (T : Nat → ClassId) (ad : Nat → Nat) (S : CS) (p0 : Int32) (sz : Nat)  : Met l ⟨"PageScribe$Stack", "kindDown", "(I)I"⟩ (wy ⟨"PageScribe$Stack", "kindDown", "(I)I"⟩ prog_9_method_3_code 2 (some .int)) ({ frames := 1, cells := 0, slots := 0, locals := 70 }) (va_Pc [.ref (ad 1), .int p0] (Pw D T (cW T ad S) sz E0)) (va_Qi (fun (r : Int32) (u : Unit) => r = kAt (a_xst_k S) ((f_xst_z S) - 1 - p0)) (fun u t => Bw D T (Rn sz) [] t) (Rn sz)) 0 0 (Rn sz) := by
  refine j_metR (y := ⟨"PageScribe$Stack", "kindDown", "(I)I"⟩) (b := prog_9_method_3_code) (n := 2) (ret := (some .int)) (av := [.ref (ad 1), .int p0]) (Qc := fun A => va_Qi (fun (r : Int32) (u : Unit) => r = kAt (a_xst_k S) ((f_xst_z S) - 1 - p0)) (fun u t => Bw D T A [] t) A) (by decide +kernel) (Nat.le_of_ble_eq_true rfl) (fun p e s m args below meth c A0 ls F hr hlocks hnm hK hP hD hS hA0 hE hl => ?_)
  obtain ⟨hx, hb, hml, hown, hts⟩ := id F
  have hl : lv_has ls 2 [(0, .ref (ad 1)), (1, .int p0)] := hl
  have rp0 := zt_rng p0
  refine lv_aload_n hx hb d_Stack_kindDown_0 rfl (lv_at hl 0 rfl) ?_
  refine lv_aload_n hx hb d_Stack_kindDown_1 rfl (lv_at hl 0 rfl) ?_
  refine va_get (D := D) (ci := 0) (v := .int (f_xst_z S)) (C := "PageScribe$Stack") (T := F_Stack) (N := 4) hx hb hts i_Stack hown hK hP 1 (ce_1 _ _ _) cl_0 3 (by decide) (hts _ k_1_50) (fun x9 h9 => u_same (hts _ k_1_51) x9 h9) rfl d_Stack_kindDown_2 ?_
  refine lv_iconst (v := 1) hx hb d_Stack_kindDown_5 (by decide) ?_
  refine lv_isub hx hb d_Stack_kindDown_6 ?_
  refine lv_topi (fun x1 ex1 => ?_)
  have rx1 := zt_rng x1
  refine lv_iload_n hx hb d_Stack_kindDown_7 rfl (lv_at hl 1 rfl) ?_
  refine lv_isub hx hb d_Stack_kindDown_8 ?_
  refine lv_topi (fun x2 ex2 => ?_)
  have rx2 := zt_rng x2
  refine j_ciR hK hP hD hS hA0 (fun q h => h) (va_runU (As := [.int x2]) (rest := []) F (r_Row_kindAt l D T ad S x2  s.heap.size) (j_cU (k := 1) (C := "PageScribe$Stack") (owner := "PageScribe$Row") (x := ⟨"PageScribe$Stack", "kindAt", "(I)I"⟩) hts k_2_126 k_2_121 k_2_122 k_2_124 k_2_125 k_1_2 rfl (by decide +kernel) ⟨Nat.le_of_ble_eq_true rfl, Nat.le_of_ble_eq_true rfl⟩) (j_preV (q0 := 1) (ci := 0) hK hP hD csc csc_all csc_nd cl_0 (ce_1 _ _ _) (fun _ _ _ _ h => h) (fun _ _ _ => trivial)) rfl rfl hl.1 rfl (lv_room (Nat.le_of_ble_eq_true rfl)) d_Stack_kindDown_9 ⟨Nat.le_of_ble_eq_true rfl, Nat.le_of_ble_eq_true rfl⟩) (fun rv1 u1 H locs hw1 hP hD hS => ?_)
  have hP : va_P D classes (cW T ad S) H := hP
  have hD : va_D A0 (cW T ad S) := hD
  have qhw1 : rv1 = kAt (a_xst_k S) x2 := hw1
  have rrv1 := zt_rng rv1
  have hP := va_Pn (D := D) (H := H)
  have hD := va_Dn (A := Rn s.heap.size)
  exact j_iret F hr hlocks hK hS () (show rv1 = kAt (a_xst_k S) ((f_xst_z S) - 1 - p0) by (subst_vars; rfl)) hP hD d_Stack_kindDown_12
set_option maxHeartbeats 4000000 in
set_option maxRecDepth 100000 in
theorem r_Stack_numberDown (l : Launch) (D : va_G) (T : Nat → ClassId) (ad : Nat → Nat) (S : CS) (p0 : Int32) (sz : Nat)  : Met l ⟨"PageScribe$Stack", "numberDown", "(I)I"⟩ (wy ⟨"PageScribe$Stack", "numberDown", "(I)I"⟩ prog_9_method_4_code 2 (some .int)) ({ frames := 1, cells := 0, slots := 0, locals := 70 }) (va_Pc [.ref (ad 1), .int p0] (Pw D T (cW T ad S) sz E0)) (va_Qi (fun (r : Int32) (u : Unit) => r = kAt (a_xst_n S) ((f_xst_z S) - 1 - p0)) (fun u t => Bw D T (Rn sz) [] t) (Rn sz)) 0 0 (Rn sz) := by
  refine j_metR (y := ⟨"PageScribe$Stack", "numberDown", "(I)I"⟩) (b := prog_9_method_4_code) (n := 2) (ret := (some .int)) (av := [.ref (ad 1), .int p0]) (Qc := fun A => va_Qi (fun (r : Int32) (u : Unit) => r = kAt (a_xst_n S) ((f_xst_z S) - 1 - p0)) (fun u t => Bw D T A [] t) A) (by decide +kernel) (Nat.le_of_ble_eq_true rfl) (fun p e s m args below meth c A0 ls F hr hlocks hnm hK hP hD hS hA0 hE hl => ?_)
  obtain ⟨hx, hb, hml, hown, hts⟩ := id F
  have hl : lv_has ls 2 [(0, .ref (ad 1)), (1, .int p0)] := hl
  have rp0 := zt_rng p0
  refine lv_aload_n hx hb d_Stack_numberDown_0 rfl (lv_at hl 0 rfl) ?_
  refine lv_aload_n hx hb d_Stack_numberDown_1 rfl (lv_at hl 0 rfl) ?_
  refine va_get (D := D) (ci := 0) (v := .int (f_xst_z S)) (C := "PageScribe$Stack") (T := F_Stack) (N := 4) hx hb hts i_Stack hown hK hP 1 (ce_1 _ _ _) cl_0 3 (by decide) (hts _ k_1_50) (fun x9 h9 => u_same (hts _ k_1_51) x9 h9) rfl d_Stack_numberDown_2 ?_
  refine lv_iconst (v := 1) hx hb d_Stack_numberDown_5 (by decide) ?_
  refine lv_isub hx hb d_Stack_numberDown_6 ?_
  refine lv_topi (fun x1 ex1 => ?_)
  have rx1 := zt_rng x1
  refine lv_iload_n hx hb d_Stack_numberDown_7 rfl (lv_at hl 1 rfl) ?_
  refine lv_isub hx hb d_Stack_numberDown_8 ?_
  refine lv_topi (fun x2 ex2 => ?_)
  have rx2 := zt_rng x2
  refine j_ciR hK hP hD hS hA0 (fun q h => h) (va_runU (As := [.int x2]) (rest := []) F (r_Row_numberAt l D T ad S x2  s.heap.size) (j_cU (k := 1) (C := "PageScribe$Stack") (owner := "PageScribe$Row") (x := ⟨"PageScribe$Stack", "numberAt", "(I)I"⟩) hts k_2_136 k_2_131 k_2_132 k_2_134 k_2_135 k_1_2 rfl (by decide +kernel) ⟨Nat.le_of_ble_eq_true rfl, Nat.le_of_ble_eq_true rfl⟩) (j_preV (q0 := 1) (ci := 0) hK hP hD csc csc_all csc_nd cl_0 (ce_1 _ _ _) (fun _ _ _ _ h => h) (fun _ _ _ => trivial)) rfl rfl hl.1 rfl (lv_room (Nat.le_of_ble_eq_true rfl)) d_Stack_numberDown_9 ⟨Nat.le_of_ble_eq_true rfl, Nat.le_of_ble_eq_true rfl⟩) (fun rv1 u1 H locs hw1 hP hD hS => ?_)
  have hP : va_P D classes (cW T ad S) H := hP
  have hD : va_D A0 (cW T ad S) := hD
  have qhw1 : rv1 = kAt (a_xst_n S) x2 := hw1
  have rrv1 := zt_rng rv1
  have hP := va_Pn (D := D) (H := H)
  have hD := va_Dn (A := Rn s.heap.size)
  exact j_iret F hr hlocks hK hS () (show rv1 = kAt (a_xst_n S) ((f_xst_z S) - 1 - p0) by (subst_vars; rfl)) hP hD d_Stack_numberDown_12
