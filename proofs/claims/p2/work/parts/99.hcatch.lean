theorem j_goMiss {Q : Handler → Pre} {E : CtlPost} {e : Env} {d : Bool} {acts : List Action} {s : State} {f : JFrame} {a : Addr} {x : ExceptionTableEntry} {t : List ExceptionTableEntry} {c : ClassId} {cell : Cell} (hx : covers x f.pc = true) (h0 : x.catchType ≠ 0)
    (hl : s.vm.ClassLinks e.platform f.method.cls x.catchType c) (hcell : s.heap[a]? = some cell) (hobj : ∀ k, cell.vm ≠ .statics k)
    (hk : ∃ k, s.vm.classes[cell.cls]? = some k) (hc : ∃ k, s.vm.classes[c]? = some k) (hfit : s.vm.assignable cell.cls c = false) :
    wp (findHandler.go f a (x :: t)) Q E e d acts s ↔ wp (findHandler.go f a t) Q E e d acts (s.setVm (s.vm.noted f.method.cls x.catchType (.cls c))) := by
  simp only [covers] at hx
  obtain ⟨ha, ht⟩ := (resolveClass_links e.toSetting hl).op (op := VmOp.resolveClass f.method.cls x.catchType) rfl
  have hal : s.vm.Alike (s.vm.noted f.method.cls x.catchType (.cls c)) := (Vm.Alike.refl s.vm).noted _ _ _
  obtain ⟨k1, hk1⟩ := hk
  obtain ⟨k2, hk2⟩ := hc
  obtain ⟨k1', hk1', -⟩ := hal.2.2 _ _ hk1
  obtain ⟨k2', hk2', -⟩ := hal.2.2 _ _ hk2
  have hfit' : (s.vm.noted f.method.cls x.catchType (.cls c)).assignable cell.cls c = false := by rw [hal.assignable]; exact hfit
  simp [findHandler.go, hx, h0, ha, ht, hcell, hobj, hk1', hk2', hfit', VmOp.dirties, VmOp.acts]
section JC
variable {p : Program} {l : Launch} {e : Env} {R : Room} {s : State} {m : MethodId} {args : Array Value} {below : List Frame} {meth : Method} {c : Code} {H : Heap} {locs : List Loc} {cells slots nL : Nat} {Q : State → Prop}
variable {cc : ByteArray} {pc : Nat} {ls : Array Slot} {rest st0 : List Value} {A : Nat → Prop} {D : va_G} {T : Nat → ClassId} {own : String} {ws wc wr : va_W} {a : Array Value} {mc ms : Nat}
theorem j_catch2 {C X X1 : String} {y : MethodName} {b : Addr} {bytes : ByteArray} {n k index hpc : Nat} {ret : Option FieldType} {rm : Room} {Pc : Array Value → State → Prop} {As : List Value} (F : CallFix p m c cc nL s args gw own)
    (hP : va_P D classes ws H) (hD : va_D A ws) (hS : va_S A s.heap H locs) (hA : ∀ q : Nat, s.heap.size ≤ q → A q) (isC isR : List Nat) (hC : isC.map (fun i => ws[i]?) = wc.map some) (hR : isR.map (fun i => ws[i]?) = wr.map some) (hn : va_nd isR = true) (hdis : ∀ i ∈ isR, i ∉ isC)
    (hM : MetT l y (wy y bytes n ret) rm Pc (ThX X) rm.cells rm.slots (va_A wc H.size)) (hcw : CallW R s args own C index y bytes n ret (wy y bytes n ret) rm rm.cells rm.slots k) (hp : PreV s H C b Pc As)
    (hAn : As.length = k) (hlen : ls.size = nL) (hW : (rest.map fun v => v.category).sum ≤ 8) (hdg : decode cc pc = .ok (.invokevirtual index, 3)) (hf : cells + rm.cells ≤ R.cells ∧ slots + rm.slots ≤ R.slots)
    (x1 xe : ExceptionTableEntry) (xs : List ExceptionTableEntry) (htab : c.exceptionTable.toList = x1 :: xe :: xs) (hcov1 : covers x1 pc = true) (hct1 : x1.catchType ≠ 0) (hlk1 : Cond.classLink own x1.catchType X1 ∈ gw) (hNC : ∀ c1 c2 : ClassId, s.vm.findClass X = some c1 → s.vm.findClass X1 = some c2 → s.vm.assignable c1 c2 = false) (hcov : covers xe pc = true) (hct : xe.catchType ≠ 0) (hlk : Cond.classLink own xe.catchType X ∈ gw) (hh : xe.handlerPc = hpc)
    (kk : ∀ (x : Addr) (H1 : Heap) (locs1 : List Loc), va_P D classes wr H1 → va_D A wr → va_S A s.heap H1 locs1 → W p l e R s m args below meth c H1 locs1 (cells + rm.cells) (slots + rm.slots) Q (F0 m hpc ls [.ref x])) :
    W p l e R s m args below meth c H locs cells slots Q (F0 m pc ls (As.reverse ++ .ref b :: rest)) := by
  obtain ⟨hexec, hb, hml, hown, hts⟩ := F
  obtain ⟨⟨-, -, hfr, hlo, hws, hcwy, hcode, hini, hy, hlenY, hlink⟩, hinst, hsel⟩ := hcw
  obtain ⟨hblind, ⟨cellB, hcB, hoB, hclB⟩, hPc⟩ := hp
  have hFr := va_free hD hS hA isC hC
  intro T0 hT X0
  obtain ⟨mk, methM, hnamed, hmethM, hstM, habM⟩ := Cond.instanceMethod_spec hinst
  obtain ⟨methM', cM, hmethM', hcM, -, hlM, -, -, -, hsigM⟩ := Cond.code_spec hnamed hcode
  cases hmethM.symm.trans hmethM'
  obtain ⟨c2, r2, m2, q1, q2, q3, q4, kP, hkP, hkPi⟩ := Cond.selects_spec hsel
  cases hclB.symm.trans q1
  cases (State.methodFound?_of_named hnamed hy).symm.trans q2
  cases hnamed.symm.trans q3
  have hselP : selectMethod e.platform s.vm cellB.cls mk = .method mk := by rw [Launch.admits_selectMethod X0.admits]; exact q4
  obtain ⟨vm₁, X₁, hstep₁⟩ := X0.invokevirtual hexec hown hlink hnamed hmethM hstM hkP hkPi hy (a := b) (cell := cellB) (by rw [hT]; exact hcB)
    (fun z h => by rw [h] at hoB; cases hoB) hselP hmethM habM hkP hkPi (g := F0 m pc ls (As.reverse ++ .ref b :: rest)) rfl (argsL := As) (rest := rest) (hAn.trans (hlenY _ hsigM)) rfl (by rw [hb]; exact hdg)
  have hU : (T0.setVm vm₁).heap = H := hT
  generalize hUe : T0.setVm vm₁ = U at X₁ hU hstep₁
  have hdg' : decode c.code pc = .ok (.invokevirtual index, 3) := by rw [hb]; exact hdg
  have h : At U (F0 m pc ls rest).method c below := X₁.here
  have hnU : U.methodNamed? y = some mk := X₁.named hnamed
  have hcodeU : (Cond.code y bytes n ret).before (Value.ref b :: As).toArray U = true := hws _ hcwy _ _ X₁.warmed
  obtain ⟨methY, cY, hmY, hcY, -, hlY, -, -, -, -⟩ := Cond.code_spec hnU hcodeU
  obtain ⟨kY, hkY, -⟩ := className_of_methodNamed hnU
  have hinitU : (Cond.initialized y.cls).before (Value.ref b :: As).toArray U = true := word_at X₁.warmed (Or.inl (by first | rfl | simp [Cond.onTables, Cond.keeps, Cond.steady])) hini
  have hinitY : kY.init = .initialized := Cond.initialized_spec (findClass_of_methodNamed hnU) hkY hinitU
  have hpreU : (headSpec (wy y bytes n ret) rm).pre.before (Value.ref b :: As).toArray U = true := atoms_intro fun w hw => hws w hw _ _ X₁.warmed
  have hroom := X₁.room_calling (g := F0 m pc ls rest) (R' := (headSpec (wy y bytes n ret) rm).room) (args' := (Value.ref b :: As).toArray) (by rw [hml]; exact hlen) hmY hcY hfr (by
    rw [hlY]
    have h9 : 2 * (F0 m pc ls rest).monitorRoom + ((F0 m pc ls rest).stack.map fun v => v.category).sum ≤ 8 := lv_room hW
    show _ + (n + 11) + rm.locals ≤ _
    omega) hf.1 hf.2
  have happ : (headSpec (wy y bytes n ret) rm).appliesLoose y e.platform (U.calling (F0 m pc ls rest) mk (Value.ref b :: As).toArray) = true :=
    Spec.appliesLoose_calling (g := F0 m pc ls rest) h hdg' hnU hkY hinitY hroom hpreU
  obtain ⟨mid, hmid⟩ := h.above
  have hfrm : (U.setTop (F0 m pc ls rest)).frames = (.java (F0 m pc ls rest) :: mid) ++ below := by rw [State.frames_setTop' _ h.top, hmid]; rfl
  have hPU : Pc (Value.ref b :: As).toArray (U.calling (F0 m pc ls rest) mk (Value.ref b :: As).toArray) := hblind _ _ _ _ (hPc U hU X₁.warmed)
  obtain ⟨o, s₂, hsteps, -, hend, hq⟩ := Steps.callFree hM p X₁.admits X₁.cas X₁.clock (acts := []) hfrm happ hPU trivial
  obtain ⟨x, rfl, hqt, L, ⟨hW2, hsame⟩, hL⟩ := hq
  rw [State.frames_setTop' _ h.top, X₁.tail] at hend
  obtain ⟨T', X', hW', hB, ht⟩ := X₁.outOfThrown (g := F0 m pc ls rest) rfl hend hW2 hsame
  obtain ⟨-, ce, hce, hceo, hcec, hcef⟩ := hqt
  have hcec' : U.vm.findClass X = some ce.cls := hcec
  have hcef' : U.vm.assignable ce.cls ce.cls = true := hcef
  have hce' : T'.heap[x]? = some ce := by
    rw [ht, Stand.throwing_heap] at hce
    exact hce
  have hpl : e.platform.magicAccessors = ({} : Platform).magicAccessors := by rw [X'.admits.platform]
  obtain ⟨cT, hcT, hcl⟩ := Cond.classLink_spec hown (hts _ hlk) e.platform hpl
  have hcc : ce.cls = cT := by
    have h1 : U.vm.findClass X = s.vm.findClass X := X₁.warmed.alike.findClass ..
    rw [h1, hcT] at hcec'
    exact (Option.some.inj hcec').symm
  obtain ⟨c1, hc1, hcl1⟩ := Cond.classLink_spec hown (hts _ hlk1) e.platform hpl
  obtain ⟨_, _, _, _, hd91, _, _, _, _, _, _, hopen1⟩ := hcl1.here
  have hWn1 : s.WarmedH (T'.vm.noted m.cls x1.catchType (.cls c1)) := X'.warmed.noted hd91 hopen1 (State.rightAt_cls hcl1)
  have hl1 : T'.vm.ClassLinks e.platform m.cls x1.catchType c1 := X'.warmed.classLinks hcl1
  have hno : T'.vm.assignable ce.cls c1 = false := by
    have h1 : T'.vm.assignable ce.cls c1 = s.vm.assignable ce.cls c1 := X'.warmed.alike.assignable ..
    rw [h1, hcc]
    exact hNC _ _ hcT hc1
  have hc1' : T'.vm.findClass X1 = some c1 := by
    have h1 : T'.vm.findClass X1 = s.vm.findClass X1 := X'.warmed.alike.findClass ..
    rw [h1]; exact hc1
  have X2 := X'.noted hWn1
  have hl' : (T'.vm.noted m.cls x1.catchType (.cls c1)).ClassLinks e.platform m.cls xe.catchType cT := X2.warmed.classLinks hcl
  obtain ⟨dk, _, _, kt, hd9, _, _, _, _, hkt, _, hopen⟩ := hcl.here
  have hWn : s.WarmedH ((T'.vm.noted m.cls x1.catchType (.cls c1)).noted m.cls xe.catchType (.cls cT)) := X2.warmed.noted hd9 hopen (State.rightAt_cls hcl)
  have hcT' : T'.vm.findClass X = some cT := by
    have h1 : T'.vm.findClass X = s.vm.findClass X := X'.warmed.alike.findClass ..
    rw [h1]; exact hcT
  have hfit : T'.vm.assignable ce.cls cT = true := by
    have h1 : T'.vm.assignable ce.cls cT = U.vm.assignable ce.cls cT := hW'.alike.assignable ..
    rw [h1, ← hcc]
    exact hcef'
  have hal1 : T'.vm.Alike (T'.vm.noted m.cls x1.catchType (.cls c1)) := (Vm.Alike.refl T'.vm).noted _ _ _
  have hcT2 : (T'.vm.noted m.cls x1.catchType (.cls c1)).findClass X = some cT := by
    have h1 : (T'.vm.noted m.cls x1.catchType (.cls c1)).findClass X = T'.vm.findClass X := hal1.findClass ..
    rw [h1]; exact hcT'
  have hfit2 : (T'.vm.noted m.cls x1.catchType (.cls c1)).assignable ce.cls cT = true := by
    have h1 : (T'.vm.noted m.cls x1.catchType (.cls c1)).assignable ce.cls cT = T'.vm.assignable ce.cls cT := hal1.assignable ..
    rw [h1]; exact hfit
  have hfind : j_To e ((T'.setTop (F0 m pc ls rest)).pushFrame (.throwing x)) (F0 m pc ls rest) x (.found hpc) ((T'.vm.noted m.cls x1.catchType (.cls c1)).noted m.cls xe.catchType (.cls cT)) := by
    intro Q9 E9 d9 acts9
    rw [W.findHandler_eq (meth := meth) (code := c) (by rw [Stand.throwing_vm]; exact X'.method') X'.code, htab]
    have h1 := j_goMiss (Q := Q9) (E := E9) (e := e) (d := d9) (acts := acts9) (s := (T'.setTop (F0 m pc ls rest)).pushFrame (.throwing x)) (f := F0 m pc ls rest) (a := x) (x := x1) (t := xe :: xs) (c := c1) (cell := ce) hcov1 hct1 (by rw [Stand.throwing_vm]; exact hl1) (by rw [Stand.throwing_heap]; exact hce') (VmData.ne_statics_of hceo)
      (by rw [Stand.throwing_vm, hcc]; exact Vm.classAt_of_findClass hcT') (by rw [Stand.throwing_vm]; exact Vm.classAt_of_findClass hc1') (by rw [Stand.throwing_vm]; exact hno)
    rw [Stand.throwing_vm] at h1
    refine h1.trans ?_
    have h2 := j_goLink (Q := Q9) (E := E9) (e := e) (d := d9) (acts := acts9) (s := ((T'.setTop (F0 m pc ls rest)).pushFrame (.throwing x)).setVm (T'.vm.noted m.cls x1.catchType (.cls c1))) (f := F0 m pc ls rest) (a := x) (x := xe) (t := xs) (c := cT) (cell := ce) hcov hct hl' (by show ((T'.setTop (F0 m pc ls rest)).pushFrame (.throwing x)).heap[x]? = some ce; rw [Stand.throwing_heap]; exact hce') (VmData.ne_statics_of hceo)
      (by rw [hcc]; exact Vm.classAt_of_findClass hcT2) (Vm.classAt_of_findClass hcT2) hfit2
    rw [hh] at h2
    exact h2
  have hkeep : ∀ q : Nat, q < H.size → ¬ va_A wc H.size q → T'.heap[q]? = H[q]? := by
    intro q h1 h2
    have h3 := same_keep (A := va_A wc H.size) hB hL q (by rw [hU]; exact h1) h2
    rw [← hU]
    exact h3
  have hz : H.size ≤ T'.heap.size := by
    have h3 := hB.2.1
    rw [hU] at h3
    exact h3
  have hP0 : va_P D classes ([] : va_W) T'.heap := fun k q h => by simp at h
  have hD0 : va_D (va_A wc H.size) ([] : va_W) := ⟨fun i j p q h => by simp at h, fun k q h => by simp at h⟩
  obtain ⟨hP1, hD1⟩ := va_join hP hD isC isR hC hR hn hdis hkeep hFr hP0 hD0
  rw [List.append_nil] at hP1 hD1
  have hS1 : va_S A s.heap T'.heap (locs ++ L) := ⟨Nat.le_trans hS.1 hz, fun q h1 h2 => by rw [hkeep q (Nat.lt_of_lt_of_le h1 hS.1) (fun z => h2 (hFr q z))]; exact hS.2.1 q h1 h2, fun q hq => by
      rcases List.mem_append.mp hq with h | h
      · exact hS.2.2 q h
      · exact hFr _ (hL q h)⟩
  obtain ⟨t2, a1, b1⟩ := kk x T'.heap (locs ++ L) hP1 hD1 hS1 (T'.setVm ((T'.vm.noted m.cls x1.catchType (.cls c1)).noted m.cls xe.catchType (.cls cT))) rfl (X2.noted hWn)
  refine ⟨t2, hstep₁ _ fun acts => ?_, b1⟩
  rw [doInvoke_state]
  refine hsteps.trans ?_
  rw [ht]
  exact j_caughtTo (g := F0 m pc ls rest) X'.here hfind a1
end JC
/-- an IllegalState is no IndexOutOfBounds -/
def NCi (U : State) : Prop := ∀ c1 c2 : ClassId, U.vm.findClass "java/lang/IllegalStateException" = some c1 → U.vm.findClass "java/lang/IndexOutOfBoundsException" = some c2 → U.vm.assignable c1 c2 = false
theorem NCi.moved {u U : State} (hvm : u.vm.Alike U.vm) (h : NCi u) : NCi U := by
  intro c1 c2 h1 h2
  have e1 : U.vm.findClass "java/lang/IllegalStateException" = u.vm.findClass "java/lang/IllegalStateException" := hvm.findClass ..
  have e2 : U.vm.findClass "java/lang/IndexOutOfBoundsException" = u.vm.findClass "java/lang/IndexOutOfBoundsException" := hvm.findClass ..
  have e3 : U.vm.assignable c1 c2 = u.vm.assignable c1 c2 := hvm.assignable ..
  rw [e1] at h1
  rw [e2] at h2
  rw [e3]
  exact h c1 c2 h1 h2
theorem NCi.calling {U : State} {g : JFrame} {mk : MethodId} {a : Array Value} (h : NCi U) : NCi (U.calling g mk a) := NCi.moved (u := U) (U := U.calling g mk a) (Vm.Alike.refl U.vm) h
theorem NCi.of {s : State} {args : Array Value} (h : (Cond.not (Cond.castable "java/lang/IllegalStateException" "java/lang/IndexOutOfBoundsException")).before args s = true) : NCi s := by
  intro c1 c2 h1 h2
  simpa [Cond.before, Cond.holds, Cond.value, h1, h2] using h
