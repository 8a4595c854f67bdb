/-! A CALL THAT THROWS, CAUGHT BY THE FIRST ROW OF THE CALLER's TABLE -/
def j_To (e : Env) (s : State) (f : JFrame) (a : Addr) (h : Handler) (vm' : Vm) : Prop :=
  ∀ (Q : Handler → Pre) (E : CtlPost) (d : Bool) (acts : List Action), wp (findHandler f a) Q E e d acts s ↔ Q h d acts (s.setVm vm')
theorem j_goLink {Q : Handler → Pre} {E : CtlPost} {e : Env} {d : Bool} {acts : List Action} {s : State} {f : JFrame} {a : Addr} {x : ExceptionTableEntry} {t : List ExceptionTableEntry} {c : ClassId} {cell : Cell} (hx : covers x f.pc = true) (h0 : x.catchType ≠ 0)
    (hl : s.vm.ClassLinks e.platform f.method.cls x.catchType c) (hcell : s.heap[a]? = some cell) (hobj : ∀ k, cell.vm ≠ .statics k)
    (hk : ∃ k, s.vm.classes[cell.cls]? = some k) (hc : ∃ k, s.vm.classes[c]? = some k) (hfit : s.vm.assignable cell.cls c = true) :
    wp (findHandler.go f a (x :: t)) Q E e d acts s ↔ Q (.found x.handlerPc) d acts (s.setVm (s.vm.noted f.method.cls x.catchType (.cls c))) := by
  simp only [covers] at hx
  obtain ⟨ha, ht⟩ := (resolveClass_links e.toSetting hl).op (op := VmOp.resolveClass f.method.cls x.catchType) rfl
  have hal : s.vm.Alike (s.vm.noted f.method.cls x.catchType (.cls c)) := (Vm.Alike.refl s.vm).noted _ _ _
  obtain ⟨k1, hk1⟩ := hk
  obtain ⟨k2, hk2⟩ := hc
  obtain ⟨k1', hk1', -⟩ := hal.2.2 _ _ hk1
  obtain ⟨k2', hk2', -⟩ := hal.2.2 _ _ hk2
  have hfit' : (s.vm.noted f.method.cls x.catchType (.cls c)).assignable cell.cls c = true := by rw [hal.assignable]; exact hfit
  simp [findHandler.go, hx, h0, ha, ht, hcell, hobj, hk1', hk2', hfit', VmOp.dirties, VmOp.acts]
theorem j_stepTo {e : Env} {s : State} {a : Addr} {f : JFrame} {r : List Frame} {pc : Nat} {vm' : Vm} (hfind : j_To e s f a (.found pc) vm') :
    (stepThrowing e s a (.java f :: r)).Is ((s.setVm vm').setFrames (.java { f with pc := pc, stack := [.ref a] } :: r)) [] := by
  simp only [stepThrowing, searchFrame, vmDo]
  generalize hr : Sem.go _ e false [] s = res
  obtain ⟨as, rfl, ha⟩ := Sem.eq_ok_of hr (a := Handler.found pc) (s' := s.setVm vm') (acts' := []) (by simp [hfind _ _ _ _])
  exact ⟨rfl, ha⟩
theorem j_frames (u : State) (vm' : Vm) (F G : List Frame) : ((u.setFrames F).setVm vm').setFrames G = (u.setVm vm').setFrames G := by
  have h1 : (u.setFrames F).setVm vm' = (u.setVm vm').setFrames F := rfl
  rw [h1, State.setFrames_setFrames]
theorem j_caughtTo {tb : Tables} {e : Env} {s target : State} {g : JFrame} {c : Code} {below : List Frame} {a : Addr} (h : At s g.method c below) {pc : Nat} {vm' : Vm}
    (hfind : j_To e ((s.setTop g).pushFrame (.throwing a)) g a (.found pc) vm') (hrest : Steps tb e below ((s.setVm vm').setTop { g with pc := pc, stack := [.ref a] }) target) :
    Steps tb e below ((s.setTop g).pushFrame (.throwing a)) target := by
  obtain ⟨hgo, hw⟩ := h.throwing a
  refine Steps.head hgo hw ?_
  rw [stepThread_throwing (frames_entered h.top _), (j_stepTo (s := (s.setTop g).pushFrame (.throwing a)) hfind).1]
  obtain ⟨g₀, hg⟩ := Option.isSome_iff_exists.mp h.top
  obtain ⟨r, hr⟩ := State.topJava?_eq_some.mp hg
  have hr' : (s.setVm vm').frames = .java g₀ :: r := hr
  rw [State.setTop_of_frames _ hr'] at hrest
  rw [hr, List.tail_cons, State.pushFrame, j_frames, State.setTop_of_frames _ hr, j_frames]
  exact hrest
section JC
variable {p : Program} {l : Launch} {e : Env} {R : Room} {s : State} {m : MethodId} {args : Array Value} {below : List Frame} {meth : Method} {c : Code} {H : Heap} {locs : List Loc} {cells slots nL : Nat} {Q : State → Prop}
variable {cc : ByteArray} {pc : Nat} {ls : Array Slot} {rest st0 : List Value} {A : Nat → Prop} {D : va_G} {T : Nat → ClassId} {own : String} {ws wc wr : va_W} {a : Array Value} {mc ms : Nat}
theorem j_catch {C X : String} {y : MethodName} {b : Addr} {bytes : ByteArray} {n k index hpc : Nat} {ret : Option FieldType} {rm : Room} {Pc : Array Value → State → Prop} {As : List Value} (F : CallFix p m c cc nL s args gw own)
    (hP : va_P D classes ws H) (hD : va_D A ws) (hS : va_S A s.heap H locs) (hA : ∀ q : Nat, s.heap.size ≤ q → A q) (isC isR : List Nat) (hC : isC.map (fun i => ws[i]?) = wc.map some) (hR : isR.map (fun i => ws[i]?) = wr.map some) (hn : va_nd isR = true) (hdis : ∀ i ∈ isR, i ∉ isC)
    (hM : MetT l y (wy y bytes n ret) rm Pc (ThX X) rm.cells rm.slots (va_A wc H.size)) (hcw : CallW R s args own C index y bytes n ret (wy y bytes n ret) rm rm.cells rm.slots k) (hp : PreV s H C b Pc As)
    (hAn : As.length = k) (hlen : ls.size = nL) (hW : (rest.map fun v => v.category).sum ≤ 8) (hdg : decode cc pc = .ok (.invokevirtual index, 3)) (hf : cells + rm.cells ≤ R.cells ∧ slots + rm.slots ≤ R.slots)
    (xe : ExceptionTableEntry) (xs : List ExceptionTableEntry) (htab : c.exceptionTable.toList = xe :: xs) (hcov : covers xe pc = true) (hct : xe.catchType ≠ 0) (hlk : Cond.classLink own xe.catchType X ∈ gw) (hh : xe.handlerPc = hpc)
    (kk : ∀ (x : Addr) (H1 : Heap) (locs1 : List Loc), va_P D classes wr H1 → va_D A wr → va_S A s.heap H1 locs1 → W p l e R s m args below meth c H1 locs1 (cells + rm.cells) (slots + rm.slots) Q (F0 m hpc ls [.ref x])) :
    W p l e R s m args below meth c H locs cells slots Q (F0 m pc ls (As.reverse ++ .ref b :: rest)) := by
  obtain ⟨hexec, hb, hml, hown, hts⟩ := F
  obtain ⟨⟨-, -, hfr, hlo, hws, hcwy, hcode, hini, hy, hlenY, hlink⟩, hinst, hsel⟩ := hcw
  obtain ⟨hblind, ⟨cellB, hcB, hoB, hclB⟩, hPc⟩ := hp
  have hFr := va_free hD hS hA isC hC
  intro T0 hT X0
  obtain ⟨mk, methM, hnamed, hmethM, hstM, habM⟩ := Cond.instanceMethod_spec hinst
  obtain ⟨methM', cM, hmethM', hcM, -, hlM, -, -, -, hsigM⟩ := Cond.code_spec hnamed hcode
  cases hmethM.symm.trans hmethM'
  obtain ⟨c2, r2, m2, q1, q2, q3, q4, kP, hkP, hkPi⟩ := Cond.selects_spec hsel
  cases hclB.symm.trans q1
  cases (State.methodFound?_of_named hnamed hy).symm.trans q2
  cases hnamed.symm.trans q3
  have hselP : selectMethod e.platform s.vm cellB.cls mk = .method mk := by rw [Launch.admits_selectMethod X0.admits]; exact q4
  obtain ⟨vm₁, X₁, hstep₁⟩ := X0.invokevirtual hexec hown hlink hnamed hmethM hstM hkP hkPi hy (a := b) (cell := cellB) (by rw [hT]; exact hcB)
    (fun z h => by rw [h] at hoB; cases hoB) hselP hmethM habM hkP hkPi (g := F0 m pc ls (As.reverse ++ .ref b :: rest)) rfl (argsL := As) (rest := rest) (hAn.trans (hlenY _ hsigM)) rfl (by rw [hb]; exact hdg)
  have hU : (T0.setVm vm₁).heap = H := hT
  generalize hUe : T0.setVm vm₁ = U at X₁ hU hstep₁
  have hdg' : decode c.code pc = .ok (.invokevirtual index, 3) := by rw [hb]; exact hdg
  have h : At U (F0 m pc ls rest).method c below := X₁.here
  have hnU : U.methodNamed? y = some mk := X₁.named hnamed
  have hcodeU : (Cond.code y bytes n ret).before (Value.ref b :: As).toArray U = true := hws _ hcwy _ _ X₁.warmed
  obtain ⟨methY, cY, hmY, hcY, -, hlY, -, -, -, -⟩ := Cond.code_spec hnU hcodeU
  obtain ⟨kY, hkY, -⟩ := className_of_methodNamed hnU
  have hinitU : (Cond.initialized y.cls).before (Value.ref b :: As).toArray U = true := word_at X₁.warmed (Or.inl (by first | rfl | simp [Cond.onTables, Cond.keeps, Cond.steady])) hini
  have hinitY : kY.init = .initialized := Cond.initialized_spec (findClass_of_methodNamed hnU) hkY hinitU
  have hpreU : (headSpec (wy y bytes n ret) rm).pre.before (Value.ref b :: As).toArray U = true := atoms_intro fun w hw => hws w hw _ _ X₁.warmed
  have hroom := X₁.room_calling (g := F0 m pc ls rest) (R' := (headSpec (wy y bytes n ret) rm).room) (args' := (Value.ref b :: As).toArray) (by rw [hml]; exact hlen) hmY hcY hfr (by
    rw [hlY]
    have h9 : 2 * (F0 m pc ls rest).monitorRoom + ((F0 m pc ls rest).stack.map fun v => v.category).sum ≤ 8 := lv_room hW
    show _ + (n + 11) + rm.locals ≤ _
    omega) hf.1 hf.2
  have happ : (headSpec (wy y bytes n ret) rm).appliesLoose y e.platform (U.calling (F0 m pc ls rest) mk (Value.ref b :: As).toArray) = true :=
    Spec.appliesLoose_calling (g := F0 m pc ls rest) h hdg' hnU hkY hinitY hroom hpreU
  obtain ⟨mid, hmid⟩ := h.above
  have hfrm : (U.setTop (F0 m pc ls rest)).frames = (.java (F0 m pc ls rest) :: mid) ++ below := by rw [State.frames_setTop' _ h.top, hmid]; rfl
  have hPU : Pc (Value.ref b :: As).toArray (U.calling (F0 m pc ls rest) mk (Value.ref b :: As).toArray) := hblind _ _ _ _ (hPc U hU X₁.warmed)
  obtain ⟨o, s₂, hsteps, -, hend, hq⟩ := Steps.callFree hM p X₁.admits X₁.cas X₁.clock (acts := []) hfrm happ hPU trivial
  obtain ⟨x, rfl, hqt, L, ⟨hW2, hsame⟩, hL⟩ := hq
  rw [State.frames_setTop' _ h.top, X₁.tail] at hend
  obtain ⟨T', X', hW', hB, ht⟩ := X₁.outOfThrown (g := F0 m pc ls rest) rfl hend hW2 hsame
  obtain ⟨-, ce, hce, hceo, hcec, hcef⟩ := hqt
  have hcec' : U.vm.findClass X = some ce.cls := hcec
  have hcef' : U.vm.assignable ce.cls ce.cls = true := hcef
  have hce' : T'.heap[x]? = some ce := by
    rw [ht, Stand.throwing_heap] at hce
    exact hce
  have hpl : e.platform.magicAccessors = ({} : Platform).magicAccessors := by rw [X'.admits.platform]
  obtain ⟨cT, hcT, hcl⟩ := Cond.classLink_spec hown (hts _ hlk) e.platform hpl
  have hcc : ce.cls = cT := by
    have h1 : U.vm.findClass X = s.vm.findClass X := X₁.warmed.alike.findClass ..
    rw [h1, hcT] at hcec'
    exact (Option.some.inj hcec').symm
  have hl' : T'.vm.ClassLinks e.platform m.cls xe.catchType cT := X'.warmed.classLinks hcl
  obtain ⟨dk, _, _, kt, hd9, _, _, _, _, hkt, _, hopen⟩ := hcl.here
  have hWn : s.WarmedH (T'.vm.noted m.cls xe.catchType (.cls cT)) := X'.warmed.noted hd9 hopen (State.rightAt_cls hcl)
  have hcT' : T'.vm.findClass X = some cT := by
    have h1 : T'.vm.findClass X = s.vm.findClass X := X'.warmed.alike.findClass ..
    rw [h1]; exact hcT
  have hfit : T'.vm.assignable ce.cls cT = true := by
    have h1 : T'.vm.assignable ce.cls cT = U.vm.assignable ce.cls cT := hW'.alike.assignable ..
    rw [h1, ← hcc]
    exact hcef'
  have hfind : j_To e ((T'.setTop (F0 m pc ls rest)).pushFrame (.throwing x)) (F0 m pc ls rest) x (.found hpc) (T'.vm.noted m.cls xe.catchType (.cls cT)) := by
    intro Q9 E9 d9 acts9
    rw [W.findHandler_eq (meth := meth) (code := c) (by rw [Stand.throwing_vm]; exact X'.method') X'.code, htab]
    have h2 := j_goLink (Q := Q9) (E := E9) (e := e) (d := d9) (acts := acts9) (s := (T'.setTop (F0 m pc ls rest)).pushFrame (.throwing x)) (f := F0 m pc ls rest) (a := x) (x := xe) (t := xs) (c := cT) (cell := ce) hcov hct (by rw [Stand.throwing_vm]; exact hl') (by rw [Stand.throwing_heap]; exact hce') (VmData.ne_statics_of hceo)
      (by rw [Stand.throwing_vm, hcc]; exact Vm.classAt_of_findClass hcT') (by rw [Stand.throwing_vm]; exact Vm.classAt_of_findClass hcT') (by rw [Stand.throwing_vm]; exact hfit)
    rw [Stand.throwing_vm, hh] at h2
    exact h2
  have hkeep : ∀ q : Nat, q < H.size → ¬ va_A wc H.size q → T'.heap[q]? = H[q]? := by
    intro q h1 h2
    have h3 := same_keep (A := va_A wc H.size) hB hL q (by rw [hU]; exact h1) h2
    rw [← hU]
    exact h3
  have hz : H.size ≤ T'.heap.size := by
    have h3 := hB.2.1
    rw [hU] at h3
    exact h3
  have hP0 : va_P D classes ([] : va_W) T'.heap := fun k q h => by simp at h
  have hD0 : va_D (va_A wc H.size) ([] : va_W) := ⟨fun i j p q h => by simp at h, fun k q h => by simp at h⟩
  obtain ⟨hP1, hD1⟩ := va_join hP hD isC isR hC hR hn hdis hkeep hFr hP0 hD0
  rw [List.append_nil] at hP1 hD1
  have hS1 : va_S A s.heap T'.heap (locs ++ L) := ⟨Nat.le_trans hS.1 hz, fun q h1 h2 => by rw [hkeep q (Nat.lt_of_lt_of_le h1 hS.1) (fun z => h2 (hFr q z))]; exact hS.2.1 q h1 h2, fun q hq => by
      rcases List.mem_append.mp hq with h | h
      · exact hS.2.2 q h
      · exact hFr _ (hL q h)⟩
  obtain ⟨t2, a1, b1⟩ := kk x T'.heap (locs ++ L) hP1 hD1 hS1 (T'.setVm (T'.vm.noted m.cls xe.catchType (.cls cT))) rfl (X'.noted hWn)
  refine ⟨t2, hstep₁ _ fun acts => ?_, b1⟩
  rw [doInvoke_state]
  refine hsteps.trans ?_
  rw [ht]
  exact j_caughtTo (g := F0 m pc ls rest) X'.here hfind a1
end JC
