/-! THROWS: what a method that throws says, its end, a call that is caught -/
def ZZ (U : State) : Prop :=
  ((Cond.laysStatic "java/lang/Throwable" "UNASSIGNED_STACK" "[Ljava/lang/StackTraceElement;").before #[] U = true ∧ (Cond.laysStatic "java/lang/Throwable" "SUPPRESSED_SENTINEL" "Ljava/util/List;").before #[] U = true) ∧
  ((Cond.isRef (.static "java/lang/Throwable" "UNASSIGNED_STACK" "[Ljava/lang/StackTraceElement;")).before #[] U = true ∧ (Cond.isRef (.static "java/lang/Throwable" "SUPPRESSED_SENTINEL" "Ljava/util/List;")).before #[] U = true)
/-- words on the tables that are not among the good ones -/
def ZC (U : State) : Prop :=
  ((Cond.castable "java/lang/IllegalArgumentException" "java/lang/IllegalArgumentException").before #[] U = true ∧ (Cond.castable "java/lang/IndexOutOfBoundsException" "java/lang/IndexOutOfBoundsException").before #[] U = true) ∧
  (Cond.declares ⟨"java/lang/RuntimeException", "<init>", "(Ljava/lang/String;)V"⟩).before #[] U = true ∧ (Cond.declares ⟨"java/lang/Exception", "<init>", "(Ljava/lang/String;)V"⟩).before #[] U = true ∧ (Cond.declares ⟨"java/lang/Throwable", "<init>", "(Ljava/lang/String;)V"⟩).before #[] U = true
/-- the cells of statics stay -/
def Sts (u U : State) : Prop := ∀ (q : Nat) (cell : Cell), u.heap[q]? = some cell → cell.vm.isStatics = true → U.heap[q]? = some cell
theorem lays_to {u U : State} {C n d : String} (hvm : u.vm.Alike U.vm) (hs : Sts u U) {a a' : Array Value} (h : (Cond.laysStatic C n d).before a u = true) : (Cond.laysStatic C n d).before a' U = true := by
  obtain ⟨c, k, i, f, ad, cell, hc, hi, hst, ha, hcell, hs1, hcls, hlt, hty⟩ := Cond.laysStatic_spec h
  obtain ⟨k', hi', hek⟩ := State.fieldFound?_setVm hvm hi
  exact Cond.laysStatic_of (s := U) (by rw [hvm.findClass]; exact hc) hi' hst (by rw [hek]; exact ha) (hs ad cell hcell hs1) hs1 hcls hlt (by rw [hek]; exact hty)
theorem ref_to {u U : State} {C n d : String} (hvm : u.vm.Alike U.vm) (hs : Sts u U) {a0 a a' : Array Value} (h0 : (Cond.laysStatic C n d).before a0 u = true) (h : (Cond.isRef (.static C n d)).before a u = true) : (Cond.isRef (.static C n d)).before a' U = true := by
  obtain ⟨c, k, i, f, ad, cell, hc, hi, hst, ha, hcell, hs1, -⟩ := Cond.laysStatic_spec h0
  obtain ⟨v, hv⟩ := Cond.staticRefV hi hst ha hcell hs1 h
  obtain ⟨k', hi', hek⟩ := State.fieldFound?_setVm hvm hi
  have hi2 : U.fieldFound? C n d = some (c, k', i, f) := hi'
  have hcell' := hs ad cell hcell hs1
  have ha' : k'.statics = some ad := by rw [hek]; exact ha
  have he : (Term.static C n d).eval a' U none [] U = some v.v := by
    simp [Term.eval, State.fieldNamed?, hi2, hst, ha', hcell', hs1, hv]
  obtain ⟨v, hr⟩ := v
  have h9 : (Cond.isRef (.static C n d)).value a' U none U [] = some true := by
    simp only [Cond.value, he]
    cases v <;> first | rfl | cases hr
  simp [Cond.before, Cond.holds, h9]
/-- words on the tables alone, that no step of the linker changes -/
theorem onT_to {u U : State} {w : Cond} (hw : w.onTables = true) {a a' : Array Value} (h : w.before a (u.setVm U.vm) = true) : w.before a' U = true := by
  have e := Cond.onTables_vm (A := a') (A' := a) (U := U) (U' := u) U.vm w hw
  have hU : U.setVm U.vm = U := rfl
  rw [hU] at e
  rw [e]
  exact h
theorem decl_to {u U : State} {y : MethodName} (hvm : u.vm.Alike U.vm) {a a' : Array Value} (h : (Cond.declares y).before a u = true) : (Cond.declares y).before a' U = true :=
  onT_to (u := u) (a := a) rfl (by rw [Cond.declares_setVm hvm]; exact h)
theorem cast_to {u U : State} {x y : String} (hvm : u.vm.Alike U.vm) {a a' : Array Value} (h : (Cond.castable x y).before a u = true) : (Cond.castable x y).before a' U = true := by
  refine onT_to (u := u) (a := a) rfl ?_
  simp only [Cond.before, Cond.holds, Cond.value] at h ⊢
  have e1 : (u.setVm U.vm).vm.findClass x = u.vm.findClass x := hvm.findClass ..
  have e2 : (u.setVm U.vm).vm.findClass y = u.vm.findClass y := hvm.findClass ..
  rw [e1, e2]
  cases hx : u.vm.findClass x with
  | none => simp [hx] at h
  | some i =>
    cases hy : u.vm.findClass y with
    | none => simp [hx, hy] at h
    | some j =>
      have e3 : (u.setVm U.vm).vm.assignable i j = u.vm.assignable i j := hvm.assignable ..
      simp only [hx, hy] at h ⊢
      rw [e3]; exact h
theorem ZZ.to {u U : State} (hvm : u.vm.Alike U.vm) (hs : Sts u U) (h : ZZ u) : ZZ U :=
  ⟨⟨lays_to hvm hs h.1.1, lays_to hvm hs h.1.2⟩, ref_to hvm hs h.1.1 h.2.1, ref_to hvm hs h.1.2 h.2.2⟩
theorem ZC.to {u U : State} (hvm : u.vm.Alike U.vm) (h : ZC u) : ZC U :=
  ⟨⟨cast_to hvm h.1.1, cast_to hvm h.1.2⟩, decl_to hvm h.2.1, decl_to hvm h.2.2.1, decl_to hvm h.2.2.2⟩
theorem ZC.calling {U : State} {g : JFrame} {mk : MethodId} {a : Array Value} (h : ZC U) : ZC (U.calling g mk a) := ZC.to (u := U) (U := U.calling g mk a) (Vm.Alike.refl U.vm) h
theorem ZZ.calling {U : State} {g : JFrame} {mk : MethodId} {a : Array Value} (h : ZZ U) : ZZ (U.calling g mk a) := ZZ.to (u := U) (U := U.calling g mk a) (Vm.Alike.refl U.vm) (fun _ _ h _ => h) h
theorem Sts.of {A : Nat → Prop} {s U : State} {H : Heap} {locs : List Loc} (hS : va_S A s.heap H locs) (hSt : ∀ q, A q → ∀ cell : Cell, s.heap[q]? = some cell → cell.vm.isStatics = false) (hU : U.heap = H) : Sts s U := by
  intro q cell hq hst
  have hlt : q < s.heap.size := (Array.getElem?_eq_some_iff.mp hq).1
  have hA : ¬ A q := fun h => by
    have := hSt q h cell hq
    rw [this] at hst
    cases hst
  rw [hU, hS.2.1 q hlt hA]
  exact hq
theorem st_of {D : va_G} {ws : va_W} {s : State} (hP : va_P D classes ws s.heap) : ∀ q, va_A ws s.heap.size q → ∀ cell : Cell, s.heap[q]? = some cell → cell.vm.isStatics = false := by
  intro q hq cell hc
  rcases hq with ⟨k, e, hk⟩ | hq
  · have h := hP k (q, e) hk
    rcases e with ⟨cA, n, f | f | f | f | f⟩ | ⟨ci, fs⟩
    · have h2 : s.heap[q]? = some (vp_cell cA (n, .inl f)) := h
      cases hc.symm.trans h2; rfl
    · have h2 : s.heap[q]? = some (vp_cell cA (n, .inr (.inl f))) := h
      cases hc.symm.trans h2; rfl
    · have h2 : s.heap[q]? = some (vp_cell cA (n, .inr (.inr (.inl f)))) := h
      cases hc.symm.trans h2; rfl
    · have h2 : s.heap[q]? = some (vp_cell cA (n, .inr (.inr (.inr (.inl f))))) := h
      cases hc.symm.trans h2; rfl
    · have h2 : s.heap[q]? = some (vp_cell cA (n, .inr (.inr (.inr (.inr f))))) := h
      cases hc.symm.trans h2; rfl
    · obtain ⟨r, -, cell', h2, -, h3, -⟩ := h
      cases hc.symm.trans h2
      rw [h3]; rfl
  · have : q < s.heap.size := (Array.getElem?_eq_some_iff.mp hc).1
    omega
/-- the words of a throw of the class's own -/
def isSp : Cond → Bool
  | .laysStatic .. => true
  | .isRef _ => true
  | .castable .. => true
  | .declares _ => true
  | _ => false
abbrev thN : List String := ["java/lang/RuntimeException", "java/lang/Exception"]
def spW : List Cond := [.laysStatic "java/lang/Throwable" "UNASSIGNED_STACK" "[Ljava/lang/StackTraceElement;", .laysStatic "java/lang/Throwable" "SUPPRESSED_SENTINEL" "Ljava/util/List;", .isRef (.static "java/lang/Throwable" "UNASSIGNED_STACK" "[Ljava/lang/StackTraceElement;"), .isRef (.static "java/lang/Throwable" "SUPPRESSED_SENTINEL" "Ljava/util/List;"), .castable "java/lang/IllegalArgumentException" "java/lang/IllegalArgumentException", .castable "java/lang/IndexOutOfBoundsException" "java/lang/IndexOutOfBoundsException", .declares ⟨"java/lang/RuntimeException", "<init>", "(Ljava/lang/String;)V"⟩, .declares ⟨"java/lang/Exception", "<init>", "(Ljava/lang/String;)V"⟩, .declares ⟨"java/lang/Throwable", "<init>", "(Ljava/lang/String;)V"⟩]
theorem ow_in1 : ∀ a ∈ (Bundle.ownAtoms "PageScribe" 71 "java/lang/IllegalArgumentException" thN).filter (fun w => !isSp w), a ∈ lw_tbl ∧ goodWord a = true := by decide +kernel
theorem ow_in2 : ∀ a ∈ (Bundle.ownAtoms "PageScribe" 131 "java/lang/IndexOutOfBoundsException" thN).filter (fun w => !isSp w), a ∈ lw_tbl ∧ goodWord a = true := by decide +kernel
theorem ow_sp1 : ∀ a ∈ (Bundle.ownAtoms "PageScribe" 71 "java/lang/IllegalArgumentException" thN).filter isSp, a ∈ spW := by decide +kernel
theorem ow_sp2 : ∀ a ∈ (Bundle.ownAtoms "PageScribe" 131 "java/lang/IndexOutOfBoundsException" thN).filter isSp, a ∈ spW := by decide +kernel
theorem ow_of {s : State} {args : Array Value} (hts : ∀ w ∈ gw, w.before args s = true) (hZ : ZZ s) (hC : ZC s) {l : List Cond} (h1 : ∀ a ∈ l.filter (fun w => !isSp w), a ∈ lw_tbl ∧ goodWord a = true) (h2 : ∀ a ∈ l.filter isSp, a ∈ spW) : ∀ a ∈ l, a.before args s = true := by
  intro a ha
  by_cases hs : isSp a = true
  · have h := h2 a (List.mem_filter.mpr ⟨ha, hs⟩)
    simp only [spW, List.mem_cons, List.not_mem_nil, or_false] at h
    rcases h with rfl | rfl | rfl | rfl | rfl | rfl | rfl | rfl | rfl
    · exact lays_to (u := s) (U := s) (Vm.Alike.refl _) (fun _ _ h _ => h) hZ.1.1
    · exact lays_to (u := s) (U := s) (Vm.Alike.refl _) (fun _ _ h _ => h) hZ.1.2
    · exact ref_to (u := s) (U := s) (Vm.Alike.refl _) (fun _ _ h _ => h) hZ.1.1 hZ.2.1
    · exact ref_to (u := s) (U := s) (Vm.Alike.refl _) (fun _ _ h _ => h) hZ.1.2 hZ.2.2
    · exact cast_to (u := s) (U := s) (Vm.Alike.refl _) hC.1.1
    · exact cast_to (u := s) (U := s) (Vm.Alike.refl _) hC.1.2
    · exact decl_to (u := s) (U := s) (Vm.Alike.refl _) hC.2.1
    · exact decl_to (u := s) (U := s) (Vm.Alike.refl _) hC.2.2.1
    · exact decl_to (u := s) (U := s) (Vm.Alike.refl _) hC.2.2.2
  · have h := h1 a (List.mem_filter.mpr ⟨ha, by simpa using hs⟩)
    exact hts a (gw_of h.1 h.2)
def FrT (st t : State) (L : List Loc) (k n : Nat) : Prop := st.WarmedH t.vm ∧ st.sameButNew ({ t with vm := st.vm } : State) L k n
/-- a contract of a method that throws -/
def MetT (l : Launch) (y : MethodName) (ws : List Cond) (rm : Room) (Pc : Array Value → State → Prop) (Qt : State → Addr → State → Prop) (mc ms : Nat) (free : Addr → Prop) : Prop :=
  MetFree l y (headSpec ws rm) Pc (fun _ _ _ _ _ => True) (fun _ st o t => ∃ x : Addr, o = .threw x ∧ Qt st x t ∧ ∃ L, FrT st t L mc ms ∧ ∀ q ∈ L, free q.base)
def MQT (below : List Frame) (Qt : State → Addr → State → Prop) (s : State) (mc ms : Nat) (free : Addr → Prop) : State → Prop := fun t =>
  ∃ x : Addr, t.status = .running ∧ Ended t below (.threw x) ∧ Qt s x t ∧ ∃ L, FrT s t L mc ms ∧ ∀ q ∈ L, free q.base
/-- what a thrown object of class X is -/
def ThX (X : String) (st : State) (x : Addr) (t : State) : Prop := st.heap.size ≤ x ∧ ∃ cell : Cell, t.heap[x]? = some cell ∧ cell.vm.isStatics = false ∧ st.vm.findClass X = some cell.cls ∧ st.vm.assignable cell.cls cell.cls = true
theorem j_metT {l : Launch} {y : MethodName} {b : ByteArray} {n : Nat} {ret : Option FieldType} {rm : Room} {D : va_G} {T : Nat → ClassId} {ws : va_W} {sz : Nat} {E : State → Prop} {av : List Value} {Qt : State → Addr → State → Prop} {mc ms : Nat}
    (hy : plainName y.cls = true) (hn : (lg_sl av).length ≤ n)
    (body : ∀ (p : Program) (e : Env) (s : State) (m : MethodId) (args : Array Value) (below : List Frame) (meth : Method) (c : Code) (A : Nat → Prop) (ls : Array Slot),
      CallFix p m c b n s args gw y.cls → meth.sig.returnType = ret → meth.locks = false → c.exceptionTable.isEmpty = true → va_K D classes (TY T) s → va_P D classes ws s.heap → va_D A ws → va_S A s.heap s.heap [] → (∀ q : Nat, s.heap.size ≤ q → A q) → (∀ q, A q → ∀ cell : Cell, s.heap[q]? = some cell → cell.vm.isStatics = false) → E s → lv_has ls n (lv_args 0 av) →
      W p l e rm s m args below meth c s.heap [] 0 0 (MQT below Qt s mc ms A) (F0 m 0 ls [])) :
    MetT l y (wy y b n ret) rm (va_Pc av (Pw D T ws sz E)) Qt mc ms (va_A ws sz) := by
  refine MetFree.of_bodyS (code := b) (maxLocals := n) (ret := ret) hy ?_ ?_
  · intro args s m h hn
    obtain ⟨meth, c, h1, h2, h3, h4, h5, h6, -, -⟩ := Cond.code_spec hn (atoms_spec (ws := wy y b n ret) h _ List.mem_cons_self)
    exact ⟨meth, c, h1, h2, h3, h4, h5, h6⟩
  · intro p e s m args below meth c s₁ B hml hv _
    obtain ⟨rfl, hsz, hP, hK, hD0, hE⟩ := hv
    have hts := atoms_spec (ws := wy y b n ret) B.pre
    have hown : s.vm.findClass y.cls = some m.cls := findClass_of_methodNamed B.named
    subst hsz
    have hh0 : s₁.heap = s.heap := by rw [B.state]; rfl
    have K : W p l e rm s m av.toArray below meth c s.heap [] 0 0 (MQT below Qt s mc ms (va_A ws s.heap.size)) (entryFrame m av.toArray n) := by
      rw [lg_entry_eq]
      exact body p e s m _ below meth c _ _ ⟨B.exec, B.bytes, hml, hown, fun w h => hts w (List.mem_cons_of_mem _ h)⟩ B.returns B.notSynchronized (B.noHandlers (hts _ List.mem_cons_self)) hK hP (hD0.self (sz := s.heap.size)) va_S.rf (fun q h => Or.inr h) (st_of hP) hE (lv_entry av hn)
    obtain ⟨t, a1, x, b1, b2, b3, b4⟩ := K s₁ hh0 (Stand.of_body B)
    exact ⟨t, .threw x, a1, b1, b2, x, rfl, b3, b4⟩
theorem same_keep {A : Nat → Prop} {s t : State} {L : List Loc} {k n : Nat} (h : s.sameButNew t L k n) (hL : ∀ x ∈ L, A x.base) : ∀ q : Nat, q < s.heap.size → ¬ A q → t.heap[q]? = s.heap[q]? := by
  intro q hq hA
  have hc : s.heap[q]? = some s.heap[q] := Array.getElem?_eq_getElem hq
  obtain ⟨c', h1, h2, h3, h4⟩ := h.2.2.2.2.2 q _ hc
  rw [h1, hc]
  have e : c'.slots = (s.heap[q]).slots := by
    refine Array.ext_getElem? fun i => h4 i (fun hm => hA (hL _ hm))
  rw [h2, e]
section JT
variable {p : Program} {l : Launch} {e : Env} {R : Room} {s : State} {m : MethodId} {args : Array Value} {below : List Frame} {meth : Method} {c : Code} {H : Heap} {locs : List Loc} {cells slots nL : Nat} {Q : State → Prop}
variable {cc : ByteArray} {pc : Nat} {ls : Array Slot} {rest st0 : List Value} {A : Nat → Prop} {D : va_G} {T : Nat → ClassId} {own : String} {ws wc wr : va_W} {a : Array Value} {mc ms : Nat}
/-- new X; dup; ldc; invokespecial; athrow: the method's end -/
theorem j_thr {X tx : String} {ix is ic qs : Nat} (F : CallFix p m c cc nL s args gw own) (hfl : l.flags = flags0) (hlocks : meth.locks = false) (hno : c.exceptionTable.isEmpty = true) (hlen : ls.size = nL)
    (hX : Bundle.fit X = true) (hat : ∀ a ∈ Bundle.ownAtoms own ic X thN, a.before args s = true)
    (hcl : Cond.classLink own ix X ∈ gw) (hin : Cond.instantiable X 6 ∈ gw) (hini : Cond.initialized X ∈ gw) (hZ : vk_R own is tx qs s) (hS : va_S A s.heap H locs) (hSt : ∀ q, A q → ∀ cell : Cell, s.heap[q]? = some cell → cell.vm.isStatics = false)
    (d0 : decode cc pc = .ok (.new ix, 3)) (d1 : decode cc (pc + 3) = .ok (.dup, 1)) (d2 : decode cc (pc + 4) = .ok (.ldc is, 2)) (d3 : decode cc (pc + 6) = .ok (.invokespecial ic, 3)) (d4 : decode cc (pc + 9) = .ok (.athrow, 1))
    (hcells : cells + 1 ≤ R.cells) (hslots : slots + 6 ≤ R.slots) (hfr : 5 < R.frames) (hlo : 200 ≤ R.locals) :
    W p l e R s m args below meth c H locs cells slots (MQT below (ThX X) s (cells + 1) (slots + 6) A) (F0 m pc ls []) := by
  obtain ⟨hx, hb, hml, hown, hts⟩ := F
  obtain ⟨cX, kX0, hfc, -, -, -, -, -⟩ := Cond.instantiable_spec (hts _ hin)
  refine W.newcK hx hb hown (hts _ hcl) (hts _ hin) (hts _ hini) rfl d0 hcells hslots hfc rfl fun H1 kC hkC e1 z1 o1 => ?_
  refine lv_dup (pc := pc + 3) hx hb d1 rfl ?_
  refine va_ldcS (pc := pc + 4) hx hb hown hZ d2 ?_
  intro T9 hT9 X9
  have htr : e.platform.stackTraces = false := Launch.traces_off hfl X9.admits
  obtain ⟨U, u1, u2, u3, u4, u5, ce, u6, K⟩ := X9.ctorThrowS hx htr hown hX (by decide) hat (fun y hy cell hc => hSt y.base (hS.2.2 y hy) cell hc) hfc hkC (a := H.size) (by rw [hT9]; exact e1) hS.1
    (msg := .ref qs) rfl (g := F0 m (pc + 6) ls [.ref qs, .ref H.size, .ref H.size]) rfl (by rw [hml]; exact hlen) rfl rfl (rest := []) rfl (by rw [hb]; exact d3) (by rw [hb]; exact d4)
    (fun y hy => by
      rw [Array.isEmpty_iff.mp hno] at hy
      simp at hy)
    hfr (by simp [JFrame.monitorRoom, Value.category, thN]; omega) hlocks
  refine ⟨U, u1, H.size, u2, u3, ⟨hS.1, ce, u6, by rw [K.vm]; rfl, K.cls, K.self⟩, locs, ⟨u4, u5⟩, hS.2.2⟩
end JT
