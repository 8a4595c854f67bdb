/-! THE FRAME: words of the tables, worlds, calls: own rows -/
def gw : List Cond := lw_tbl.filter goodWord
theorem gw_of {w : Cond} (h : w ∈ lw_tbl) (g : goodWord w = true) : w ∈ gw := List.mem_filter.mpr ⟨h, g⟩
theorem gw_in {w : Cond} (h : w ∈ gw) : w ∈ lw_tbl ∧ ((w.onTables && w.keeps) = true ∨ ∃ ty, w = .arrayClass ty) := ⟨(List.mem_filter.mp h).1, good_of_word (List.mem_filter.mp h).2⟩
theorem tb_1 {w : Cond} (h : w ∈ tables_1_1) : w ∈ lw_tbl := List.mem_append_right _ (List.mem_append_left _ h)
theorem tb_2 {w : Cond} (h : w ∈ tables_1_2) : w ∈ lw_tbl := List.mem_append_right _ (List.mem_append_right _ (List.mem_append_left _ h))
theorem tb_3 {w : Cond} (h : w ∈ tables_1_3) : w ∈ lw_tbl := List.mem_append_right _ (List.mem_append_right _ (List.mem_append_right _ (List.mem_append_left _ h)))
theorem tb_4 {w : Cond} (h : w ∈ tables_1_4) : w ∈ lw_tbl := List.mem_append_right _ (List.mem_append_right _ (List.mem_append_right _ (List.mem_append_right _ (List.mem_append_left _ h))))
theorem tb_5 {w : Cond} (h : w ∈ tables_1_5) : w ∈ lw_tbl := List.mem_append_right _ (List.mem_append_right _ (List.mem_append_right _ (List.mem_append_right _ (List.mem_append_right _ (List.mem_append_left _ h)))))
theorem tb_6 {w : Cond} (h : w ∈ tables_1_6) : w ∈ lw_tbl := List.mem_append_right _ (List.mem_append_right _ (List.mem_append_right _ (List.mem_append_right _ (List.mem_append_right _ (List.mem_append_right _ (List.mem_append_left _ h))))))
theorem tb_7 {w : Cond} (h : w ∈ tables_1_7) : w ∈ lw_tbl := List.mem_append_right _ (List.mem_append_right _ (List.mem_append_right _ (List.mem_append_right _ (List.mem_append_right _ (List.mem_append_right _ (List.mem_append_right _ (List.mem_append_left _ h)))))))
theorem tb_8 {w : Cond} (h : w ∈ tables_1_8) : w ∈ lw_tbl := List.mem_append_right _ (List.mem_append_right _ (List.mem_append_right _ (List.mem_append_right _ (List.mem_append_right _ (List.mem_append_right _ (List.mem_append_right _ (List.mem_append_right _ (List.mem_append_left _ h))))))))
theorem tb_9 {w : Cond} (h : w ∈ tables_1_9) : w ∈ lw_tbl := List.mem_append_right _ (List.mem_append_right _ (List.mem_append_right _ (List.mem_append_right _ (List.mem_append_right _ (List.mem_append_right _ (List.mem_append_right _ (List.mem_append_right _ (List.mem_append_right _ h))))))))
/-- a selects word of a private method stands ahead of the tables -/
theorem tb_0 {w : Cond} (h : w ∈ k2_sels lw_privs) : w ∈ lw_tbl := List.mem_append_left _ h
/-- a method's words: its own code, and the good words -/
def wy (y : MethodName) (b : ByteArray) (n : Nat) (ret : Option FieldType) : List Cond := Cond.code y b n ret :: gw
theorem wy_pay {s : State} {args : Array Value} (hts : ∀ w ∈ gw, w.before args s = true) {y : MethodName} {b : ByteArray} {n : Nat} {ret : Option FieldType} (hc : Cond.code y b n ret ∈ gw) : ∀ w ∈ wy y b n ret, ∀ (a' : Array Value) (U : State), s.WarmedH U.vm → w.before a' U = true := by
  intro w hw a' U hW
  have h : w ∈ gw := by
    rcases List.mem_cons.mp hw with rfl | h
    · exact hc
    · exact h
  exact word_at hW (gw_in h).2 (hts w h)
def TY (T : Nat → ClassId) : List (ClassId × FieldType) := [(T 0, .int), (T 1, .long), (T 2, .char), (T 3, .double), (T 4, .object "PageScribe$Store")]
/-- a method's start: its cells, the heap's size, and what else it asks -/
abbrev Pw (D : va_G) (T : Nat → ClassId) (ws : va_W) (sz : Nat) (E : State → Prop) : State → Prop := fun U => U.heap.size = sz ∧ va_P D classes ws U.heap ∧ va_K D classes (TY T) U ∧ va_D (fun _ => True) ws ∧ E U
/-- the cells behind a method -/
abbrev Bw (D : va_G) (T : Nat → ClassId) (A : Nat → Prop) (ws : va_W) (t : State) : Prop := va_P D classes ws t.heap ∧ va_K D classes (TY T) t ∧ va_D A ws
abbrev E0 : State → Prop := fun _ => True
theorem j_met {l : Launch} {y : MethodName} {b : ByteArray} {n : Nat} {ret : Option FieldType} {rm : Room} {D : va_G} {T : Nat → ClassId} {ws : va_W} {sz : Nat} {E : State → Prop} {av : List Value} {Qc : (Nat → Prop) → Array Value → State → Outcome → State → Prop} {mc ms : Nat}
    (hy : plainName y.cls = true) (hn : (lg_sl av).length ≤ n)
    (body : ∀ (p : Program) (e : Env) (s : State) (m : MethodId) (args : Array Value) (below : List Frame) (meth : Method) (c : Code) (A : Nat → Prop) (ls : Array Slot),
      CallFix p m c b n s args gw y.cls → meth.sig.returnType = ret → meth.locks = false → meth.name = y.name → va_K D classes (TY T) s → va_P D classes ws s.heap → va_D A ws → va_S A s.heap s.heap [] → (∀ q : Nat, s.heap.size ≤ q → A q) → (∀ q : Nat, q < s.heap.size → (∀ (k : Nat) (e : va_E), ¬ ws[k]? = some (q, e)) → ¬ A q) → E s → lv_has ls n (lv_args 0 av) →
      W p l e rm s m args below meth c s.heap [] 0 0 (MQ below (Qc A) args s mc ms A) (F0 m 0 ls [])) :
    Met l y (wy y b n ret) rm (va_Pc av (Pw D T ws sz E)) (Qc (va_A ws sz)) mc ms (va_A ws sz) := by
  refine Met.ofW (cc := b) (maxL := n) (ret := ret) hy rfl ?_
  intro p e s m args below meth c s₁ B hml hv
  obtain ⟨rfl, hsz, hP, hK, hD0, hE⟩ := hv
  have hts := atoms_spec (ws := wy y b n ret) B.pre
  have hown : s.vm.findClass y.cls = some m.cls := findClass_of_methodNamed B.named
  subst hsz
  rw [lg_entry_eq]
  exact body p e s m _ below meth c _ _ ⟨B.exec, B.bytes, hml, hown, fun w h => hts w (List.mem_cons_of_mem _ h)⟩ B.returns B.notSynchronized (name_of_methodNamed B.named B.method).1 hK hP (hD0.self (sz := s.heap.size)) va_S.rf (fun q h => Or.inr h)
    (fun q h1 h2 h3 => by
      rcases h3 with ⟨k, e, h⟩ | h
      · exact h2 k e h
      · omega) hE (lv_entry av hn)
section JN
variable {p : Program} {l : Launch} {e : Env} {R : Room} {s : State} {m : MethodId} {args : Array Value} {below : List Frame} {meth : Method} {c : Code} {H : Heap} {locs : List Loc} {cells slots nL : Nat} {Q : State → Prop}
variable {cc : ByteArray} {pc : Nat} {ls : Array Slot} {rest st0 : List Value} {A : Nat → Prop} {D : va_G} {T : Nat → ClassId} {own : String} {ws wc wr : va_W} {a : Array Value} {mc ms : Nat}
theorem j_vret {S : Type} {post : S → Prop} {w1 : S → va_W} (F : CallFix p m c cc nL s args gw own) (hr : meth.sig.returnType = none) (hlocks : meth.locks = false) (hK : va_K D classes (TY T) s) (hS : va_S A s.heap H locs) (u : S) (hp : post u) (hP : va_P D classes (w1 u) H) (hD : va_D A (w1 u)) (hdg : decode cc pc = .ok (.return_, 1)) :
    W p l e R s m args below meth c H locs cells slots (MQ below (va_Qv post (fun u t => Bw D T A (w1 u) t) A) args s cells slots A) (F0 m pc ls []) :=
  W.vret F.1 F.2.1 hr (fun t ht hW => ⟨⟨u, rfl, hp, by rw [ht]; exact hP, va_K.moved hW.alike hK, hD⟩, hS.F ht⟩) hS.2.2 hdg
theorem j_iret {S : Type} {post : Int32 → S → Prop} {w1 : S → va_W} {v : Int32} (F : CallFix p m c cc nL s args gw own) (hr : meth.sig.returnType = some .int) (hlocks : meth.locks = false) (hK : va_K D classes (TY T) s) (hS : va_S A s.heap H locs) (u : S) (hp : post v u) (hP : va_P D classes (w1 u) H) (hD : va_D A (w1 u)) (hdg : decode cc pc = .ok (.ireturn, 1)) :
    W p l e R s m args below meth c H locs cells slots (MQ below (va_Qi post (fun u t => Bw D T A (w1 u) t) A) args s cells slots A) (F0 m pc ls [.int v]) :=
  W.iret F.1 F.2.1 hr (fun t ht hW => ⟨⟨v, u, rfl, hp, by rw [ht]; exact hP, va_K.moved hW.alike hK, hD⟩, hS.F ht⟩) hS.2.2 hdg
theorem j_zret {S : Type} {post : Int32 → S → Prop} {w1 : S → va_W} {v : Int32} {ty : FieldType} (F : CallFix p m c cc nL s args gw own) (hr : meth.sig.returnType = some ty) (hn : narrow ty (.int v) = .int v) (hlocks : meth.locks = false) (hK : va_K D classes (TY T) s) (hS : va_S A s.heap H locs) (u : S) (hp : post v u) (hP : va_P D classes (w1 u) H) (hD : va_D A (w1 u)) (hdg : decode cc pc = .ok (.ireturn, 1)) :
    W p l e R s m args below meth c H locs cells slots (MQ below (va_Qi post (fun u t => Bw D T A (w1 u) t) A) args s cells slots A) (F0 m pc ls [.int v]) :=
  W.zret F.1 F.2.1 hr hn (fun t ht hW => ⟨⟨v, u, rfl, hp, by rw [ht]; exact hP, va_K.moved hW.alike hK, hD⟩, hS.F ht⟩) hS.2.2 hdg
/-- the words of a call -/
theorem j_cB {y : MethodName} {b : ByteArray} {n k index : Nat} {ret : Option FieldType} {rm : Room} (hts : ∀ w ∈ gw, w.before args s = true) (hc : Cond.code y b n ret ∈ gw) (hi : Cond.initialized y.cls ∈ gw) (hl : Cond.methodLink own index y ∈ gw)
    (hd : y.cls ≠ "java/lang/invoke/MethodHandle" ∧ y.cls ≠ "java/lang/invoke/VarHandle" ∧ (parseMethodDescriptor y.desc).map (fun d => d.parameters.length) = some k) (hR : rm.frames + 1 ≤ R.frames ∧ 8 + (n + 11) + rm.locals ≤ R.locals) :
    CallB R s args own index y b n ret (wy y b n ret) rm rm.cells rm.slots k := by
  refine ⟨rfl, rfl, hR.1, hR.2, wy_pay hts hc, List.mem_cons_self, hts _ hc, hts _ hi, ⟨hd.1, hd.2.1⟩, fun sig h => ?_, hts _ hl⟩
  have h2 := hd.2.2
  rw [h] at h2
  exact (Option.some.inj h2).symm
theorem j_cV {C : String} {y : MethodName} {b : ByteArray} {n k index : Nat} {ret : Option FieldType} {rm : Room} (hts : ∀ w ∈ gw, w.before args s = true) (hc : Cond.code y b n ret ∈ gw) (hi : Cond.initialized y.cls ∈ gw) (hl : Cond.methodLink own index y ∈ gw) (him : Cond.instanceMethod y ∈ gw) (hse : Cond.selects C y y ∈ gw)
    (hd : y.cls ≠ "java/lang/invoke/MethodHandle" ∧ y.cls ≠ "java/lang/invoke/VarHandle" ∧ (parseMethodDescriptor y.desc).map (fun d => d.parameters.length) = some k) (hR : rm.frames + 1 ≤ R.frames ∧ 8 + (n + 11) + rm.locals ≤ R.locals) :
    CallW R s args own C index y b n ret (wy y b n ret) rm rm.cells rm.slots k := ⟨j_cB hts hc hi hl hd hR, hts _ him, hts _ hse⟩
theorem j_cI {y : MethodName} {b : ByteArray} {n k index : Nat} {rm : Room} (hts : ∀ w ∈ gw, w.before args s = true) (hc : Cond.code y b n none ∈ gw) (hi : Cond.initialized y.cls ∈ gw) (hl : Cond.methodLink own index y ∈ gw) (him : Cond.instanceMethod y ∈ gw) (hy1 : y.name = "<init>")
    (hd : y.cls ≠ "java/lang/invoke/MethodHandle" ∧ y.cls ≠ "java/lang/invoke/VarHandle" ∧ (parseMethodDescriptor y.desc).map (fun d => d.parameters.length) = some k) (hR : rm.frames + 1 ≤ R.frames ∧ 8 + (n + 11) + rm.locals ≤ R.locals) :
    CallB R s args own index y b n none (wy y b n none) rm rm.cells rm.slots k ∧ y.name = "<init>" ∧ (Cond.instanceMethod y).before args s = true := ⟨j_cB hts hc hi hl hd hR, hy1, hts _ him⟩
theorem j_cS {y : MethodName} {b : ByteArray} {n k index : Nat} {ret : Option FieldType} {rm : Room} (hts : ∀ w ∈ gw, w.before args s = true) (hc : Cond.code y b n ret ∈ gw) (hi : Cond.initialized y.cls ∈ gw) (hl : Cond.methodLink own index y ∈ gw) (hst : Cond.static y ∈ gw)
    (hd : y.cls ≠ "java/lang/invoke/MethodHandle" ∧ y.cls ≠ "java/lang/invoke/VarHandle" ∧ (parseMethodDescriptor y.desc).map (fun d => d.parameters.length) = some k) (hR : rm.frames + 1 ≤ R.frames ∧ 8 + (n + 11) + rm.locals ≤ R.locals) :
    CallB R s args own index y b n ret (wy y b n ret) rm rm.cells rm.slots k ∧ (Cond.static y).before args s = true := ⟨j_cB hts hc hi hl hd hR, hts _ hst⟩
/-- a private constructor of a nest mate -/
theorem j_cIN {host : String} {y : MethodName} {b : ByteArray} {n k index : Nat} {rm : Room} (hts : ∀ w ∈ gw, w.before args s = true) (hc : Cond.code y b n none ∈ gw) (hi : Cond.initialized y.cls ∈ gw) (hl : va_Nw (.methodLinkNest own index y host) s) (him : Cond.instanceMethod y ∈ gw) (hy1 : y.name = "<init>")
    (hd : y.cls ≠ "java/lang/invoke/MethodHandle" ∧ y.cls ≠ "java/lang/invoke/VarHandle" ∧ (parseMethodDescriptor y.desc).map (fun d => d.parameters.length) = some k) (hR : rm.frames + 1 ≤ R.frames ∧ 8 + (n + 11) + rm.locals ≤ R.locals) :
    va_CN R s args own index y host b n none (wy y b n none) rm rm.cells rm.slots k ∧ y.name = "<init>" ∧ (Cond.instanceMethod y).before args s = true := by
  refine ⟨⟨⟨rfl, rfl, hR.1, hR.2, wy_pay hts hc, List.mem_cons_self⟩, hts _ hc, hts _ hi, ⟨hd.1, hd.2.1⟩, fun sig h => ?_, va_Nw.use rfl hl⟩, hy1, hts _ him⟩
  have h2 := hd.2.2
  rw [h] at h2
  exact (Option.some.inj h2).symm
/-- a start's premise does not see the frames -/
theorem j_blind {av : List Value} {sz : Nat} {E : State → Prop} (hE : ∀ (U : State) (g : JFrame) (mk : MethodId) (a : Array Value), E U → E (U.calling g mk a)) : FrameBlind (va_Pc av (Pw D T ws sz E)) :=
  fun a U g mk q => ⟨q.1, q.2.1, q.2.2.1, va_K.moved (u := U) (U := U.calling g mk a) (Vm.Alike.refl U.vm) q.2.2.2.1, q.2.2.2.2.1, hE U g mk a q.2.2.2.2.2⟩
/-- the start's premise at a call: the callee's cells cut out of the caller's -/
theorem j_preS {av : List Value} {E : State → Prop} (hK : va_K D classes (TY T) s) (hP : va_P D classes ws H) (hD : va_D A ws) (isC : List Nat) (hC : isC.map (fun i => ws[i]?) = wc.map some) (hn : va_nd isC = true)
    (hEb : ∀ (U : State) (g : JFrame) (mk : MethodId) (a : Array Value), E U → E (U.calling g mk a)) (hE : ∀ U : State, U.heap = H → s.WarmedH U.vm → E U) : PreS s H (va_Pc av (Pw D T wc H.size E)) av := by
  refine ⟨j_blind hEb, fun U hU hW => ⟨rfl, by rw [hU], ?_, va_K.moved hW.alike hK, (hD.sub isC hn hC).weaken (fun _ _ _ _ => trivial), hE U hU hW⟩⟩
  rw [hU]
  refine hP.sub isC ?_
  have h : isC.filterMap (fun i => ws[i]?) = (isC.map (fun i => ws[i]?)).filterMap id := by rw [List.filterMap_map]; rfl
  rw [h, hC, List.filterMap_map]
  simp
theorem j_preV {b q0 ci : Nat} {q : vw_C} {fs av : List Value} {E : State → Prop} (hK : va_K D classes (TY T) s) (hP : va_P D classes ws H) (hD : va_D A ws) (isC : List Nat) (hC : isC.map (fun i => ws[i]?) = wc.map some) (hn : va_nd isC = true)
    (hc : classes[ci]? = some q) (he : ws[q0]? = some (b, .inr (ci, fs)))
    (hEb : ∀ (U : State) (g : JFrame) (mk : MethodId) (a : Array Value), E U → E (U.calling g mk a)) (hE : ∀ U : State, U.heap = H → s.WarmedH U.vm → E U) : PreV s H q.1 b (va_Pc (.ref b :: av) (Pw D T wc H.size E)) av :=
  ⟨(j_preS (av := .ref b :: av) hK hP hD isC hC hn hEb hE).1, va_recv hK hP hc he, (j_preS (av := .ref b :: av) hK hP hD isC hC hn hEb hE).2⟩
theorem j_ci {S : Type} {post : Int32 → S → Prop} {w1 : S → va_W} (hK : va_K D classes (TY T) s) (hP : va_P D classes ws H) (hD : va_D A ws) (hS : va_S A s.heap H locs) (hA : ∀ q : Nat, s.heap.size ≤ q → A q) (isC isR : List Nat) (hC : isC.map (fun i => ws[i]?) = wc.map some) (hR : isR.map (fun i => ws[i]?) = wr.map some) (hn : va_nd isR = true) (hdis : ∀ i ∈ isR, i ∉ isC)
    (hr : va_Run p l e R s m args below meth c H locs cells slots mc ms (F0 m pc ls st0) rest (va_Qi post (fun u t => Bw D T (va_A wc H.size) (w1 u) t) (va_A wc H.size) a) (va_A wc H.size))
    (kk : ∀ (r : Int32) (u : S) (H1 : Heap) (locs1 : List Loc), post r u → va_P D classes (wr ++ w1 u) H1 → va_D A (wr ++ w1 u) → va_S A s.heap H1 locs1 → W p l e R s m args below meth c H1 locs1 (cells + mc) (slots + ms) Q (F0 m (pc + 3) ls (.int r :: rest))) : W p l e R s m args below meth c H locs cells slots Q (F0 m pc ls st0) := by
  have hF := va_free hD hS hA isC hC
  refine va_calli hr hS (fun q _ h => hF q h) hF (fun r u t H1 locs1 ht hvm hp hB hz hk hS1 => ?_)
  obtain ⟨b1, b2, b3⟩ := hB
  rw [ht] at b1
  obtain ⟨hP1, hD1⟩ := va_join hP hD isC isR hC hR hn hdis hk hF b1 b3
  exact kk r u H1 locs1 hp hP1 hD1 hS1
theorem j_cv {S : Type} {post : S → Prop} {w1 : S → va_W} (hK : va_K D classes (TY T) s) (hP : va_P D classes ws H) (hD : va_D A ws) (hS : va_S A s.heap H locs) (hA : ∀ q : Nat, s.heap.size ≤ q → A q) (isC isR : List Nat) (hC : isC.map (fun i => ws[i]?) = wc.map some) (hR : isR.map (fun i => ws[i]?) = wr.map some) (hn : va_nd isR = true) (hdis : ∀ i ∈ isR, i ∉ isC)
    (hr : va_Run p l e R s m args below meth c H locs cells slots mc ms (F0 m pc ls st0) rest (va_Qv post (fun u t => Bw D T (va_A wc H.size) (w1 u) t) (va_A wc H.size) a) (va_A wc H.size))
    (kk : ∀ (u : S) (H1 : Heap) (locs1 : List Loc), post u → va_P D classes (wr ++ w1 u) H1 → va_D A (wr ++ w1 u) → va_S A s.heap H1 locs1 → W p l e R s m args below meth c H1 locs1 (cells + mc) (slots + ms) Q (F0 m (pc + 3) ls rest)) : W p l e R s m args below meth c H locs cells slots Q (F0 m pc ls st0) := by
  have hF := va_free hD hS hA isC hC
  refine va_callv hr hS (fun q _ h => hF q h) hF (fun u t H1 locs1 ht hvm hp hB hz hk hS1 => ?_)
  obtain ⟨b1, b2, b3⟩ := hB
  rw [ht] at b1
  obtain ⟨hP1, hD1⟩ := va_join hP hD isC isR hC hR hn hdis hk hF b1 b3
  exact kk u H1 locs1 hp hP1 hD1 hS1
theorem j_cd {S : Type} {post : UInt64 → S → Prop} {w1 : S → va_W} (hK : va_K D classes (TY T) s) (hP : va_P D classes ws H) (hD : va_D A ws) (hS : va_S A s.heap H locs) (hA : ∀ q : Nat, s.heap.size ≤ q → A q) (isC isR : List Nat) (hC : isC.map (fun i => ws[i]?) = wc.map some) (hR : isR.map (fun i => ws[i]?) = wr.map some) (hn : va_nd isR = true) (hdis : ∀ i ∈ isR, i ∉ isC)
    (hr : va_Run p l e R s m args below meth c H locs cells slots mc ms (F0 m pc ls st0) rest (va_Qd post (fun u t => Bw D T (va_A wc H.size) (w1 u) t) (va_A wc H.size) a) (va_A wc H.size))
    (kk : ∀ (r : UInt64) (u : S) (H1 : Heap) (locs1 : List Loc), post r u → va_P D classes (wr ++ w1 u) H1 → va_D A (wr ++ w1 u) → va_S A s.heap H1 locs1 → W p l e R s m args below meth c H1 locs1 (cells + mc) (slots + ms) Q (F0 m (pc + 3) ls (.double r :: rest))) : W p l e R s m args below meth c H locs cells slots Q (F0 m pc ls st0) := by
  have hF := va_free hD hS hA isC hC
  refine va_calld hr hS (fun q _ h => hF q h) hF (fun r u t H1 locs1 ht hvm hp hB hz hk hS1 => ?_)
  obtain ⟨b1, b2, b3⟩ := hB
  rw [ht] at b1
  obtain ⟨hP1, hD1⟩ := va_join hP hD isC isR hC hR hn hdis hk hF b1 b3
  exact kk r u H1 locs1 hp hP1 hD1 hS1
/-- Object.<init> -/
theorem j_obj {a : Addr} {idx : Nat} (F : CallFix p m c cc nL s args gw own) (hlen : ls.size = nL) (hl : Cond.methodLink own idx Lib.objectInit ∈ gw) (h1 : Cond.instanceMethod Lib.objectInit ∈ gw) (h2 : Cond.code Lib.objectInit ⟨#[0xb1]⟩ 1 none ∈ gw) (hd : decode cc pc = .ok (.invokespecial idx, 3)) (hf : 1 ≤ R.frames) (hlo : (rest.map fun v => v.category).sum + 12 ≤ R.locals)
    (kk : W p l e R s m args below meth c H locs cells slots Q (F0 m (pc + 3) ls rest)) : W p l e R s m args below meth c H locs cells slots Q (F0 m pc ls (.ref a :: rest)) := by
  refine W.objInit F.1 F.2.1 F.2.2.2.1 (F.2.2.2.2 _ hl) (F.2.2.2.2 _ h1) (F.2.2.2.2 _ h2) rfl (by rw [F.2.2.1]; exact hlen) rfl hd hf (by simpa [JFrame.monitorRoom] using hlo) ?_
  exact W.eq (g2 := F0 m (pc + 3) ls rest) rfl kk
/-- two array classes of one type are one -/
theorem j_cls {cA cB : ClassId} {ty : FieldType} (h1 : va_RA s cA ty) (h2 : va_RA s cB ty) : cA = cB := by
  cases ty with
  | object C =>
    obtain ⟨kA, comp, a1, a2, a3, a4⟩ := h1
    obtain ⟨kB, comp', b1, b2, b3, b4⟩ := h2
    exact Option.some.inj (a4.symm.trans b4)
  | _ => exact Option.some.inj (Eq.trans (Eq.symm h1) h2)
/-- newarray, of the world's own array classes -/
theorem j_newa {atype : ArrayType} {ty : FieldType} (F : CallFix p m c cc nL s args gw own) (harr : Cond.arrayClass (newarray.typeOf atype) ∈ gw) (hty : newarray.typeOf atype = ty) (hK : va_K D classes (TY T) s) (hP : va_P D classes ws H) (hD : va_D A ws) (hS : va_S A s.heap H locs) (hA : ∀ q : Nat, s.heap.size ≤ q → A q) (t0 : Nat) (cI : ClassId) (ht : (TY T)[t0]? = some (cI, ty))
    {n : Int32} {N' : Nat} (a0 : vp_A) (ha : ∀ cA : ClassId, vp_cell cA a0 = arrV cA N' (fun _ => defaultValue ty)) (hn : ¬ n < 0) (hN : n.toNatClampNeg = N') (hbytes : N' * componentBytes ty ≤ 536870912) (hcells : cells + 1 ≤ R.cells) (hslots : slots + N' ≤ R.slots) (hdg : decode cc pc = .ok (.newarray atype, 2))
    (kk : ∀ (q : Nat) (H1 : Heap), va_P D classes (ws ++ [(q, .inl (cI, a0))]) H1 → va_D A (ws ++ [(q, .inl (cI, a0))]) → va_S A s.heap H1 locs →
      W p l e R s m args below meth c H1 locs (cells + 1) (slots + N') Q (F0 m (pc + 2) ls (.ref q :: rest))) : W p l e R s m args below meth c H locs cells slots Q (F0 m pc ls (.int n :: rest)) := by
  refine va_newa F.1 F.2.1 (F.2.2.2.2 _ harr) hty hK hP hD hS hA ha hn hN hbytes hcells hslots hdg (fun q cA H1 hK1 hP1 hD1 hS1 => ?_)
  have e : cA = cI := j_cls (hK1.2 (TY T).length (cA, ty) (by rw [List.getElem?_append_right (Nat.le_refl _)]; simp)).2 (hK.2 t0 _ ht).2
  subst e
  exact kk q H1 hP1 hD1 hS1
theorem j_eqi {x y : Int32} (h : x = y) (k : W p l e R s m args below meth c H locs cells slots Q (F0 m pc ls (.int y :: rest))) : W p l e R s m args below meth c H locs cells slots Q (F0 m pc ls (.int x :: rest)) := by rw [h]; exact k
/-- stores, the content forgotten -/
theorem j_iast (F : CallFix p m c cc nL s args gw own) (hK : va_K D classes (TY T) s) (hP : va_P D classes ws H) (hD : va_D A ws) (hS : va_S A s.heap H locs) (q0 t0 : Nat) {b : Nat} {cA : ClassId} {n : Nat} {f : Nat → Int32} (ha : ws[q0]? = some (b, .inl (cA, n, .inl f))) (ht : (TY T)[t0]? = some (cA, .int)) {i : Int32} {x : Int32} (hin : vp_in i n) (hdg : decode cc pc = .ok (.iastore, 1))
    (kk : ∀ (g : Nat → Int32) (H1 : Heap) (locs1 : List Loc), va_P D classes (ws.set q0 (b, .inl (cA, n, .inl g))) H1 → va_D A (ws.set q0 (b, .inl (cA, n, .inl g))) → va_S A s.heap H1 locs1 → W p l e R s m args below meth c H1 locs1 cells slots Q (F0 m (pc + 1) ls rest)) : W p l e R s m args below meth c H locs cells slots Q (F0 m pc ls (.int x :: .int i :: .ref b :: rest)) :=
  va_iast F.1 F.2.1 hK hP hD hS q0 t0 ha ht hin hdg (fun H1 locs1 h1 h2 h3 => kk _ H1 locs1 h1 h2 h3)
theorem j_cast (F : CallFix p m c cc nL s args gw own) (hK : va_K D classes (TY T) s) (hP : va_P D classes ws H) (hD : va_D A ws) (hS : va_S A s.heap H locs) (q0 t0 : Nat) {b : Nat} {cA : ClassId} {n : Nat} {f : Nat → Int32} (ha : ws[q0]? = some (b, .inl (cA, n, .inl f))) (ht : (TY T)[t0]? = some (cA, .char)) {i : Int32} {x : Int32} (hin : vp_in i n) (hdg : decode cc pc = .ok (.castore, 1))
    (kk : ∀ (g : Nat → Int32) (H1 : Heap) (locs1 : List Loc), va_P D classes (ws.set q0 (b, .inl (cA, n, .inl g))) H1 → va_D A (ws.set q0 (b, .inl (cA, n, .inl g))) → va_S A s.heap H1 locs1 → W p l e R s m args below meth c H1 locs1 cells slots Q (F0 m (pc + 1) ls rest)) : W p l e R s m args below meth c H locs cells slots Q (F0 m pc ls (.int x :: .int i :: .ref b :: rest)) :=
  va_cast F.1 F.2.1 hK hP hD hS q0 t0 ha ht hin hdg (fun H1 locs1 h1 h2 h3 => kk _ H1 locs1 h1 h2 h3)
theorem j_last (F : CallFix p m c cc nL s args gw own) (hK : va_K D classes (TY T) s) (hP : va_P D classes ws H) (hD : va_D A ws) (hS : va_S A s.heap H locs) (q0 t0 : Nat) {b : Nat} {cA : ClassId} {n : Nat} {f : Nat → Int64} (ha : ws[q0]? = some (b, .inl (cA, n, .inr (.inl f)))) (ht : (TY T)[t0]? = some (cA, .long)) {i : Int32} {x : Int64} (hin : vp_in i n) (hdg : decode cc pc = .ok (.lastore, 1))
    (kk : ∀ (g : Nat → Int64) (H1 : Heap) (locs1 : List Loc), va_P D classes (ws.set q0 (b, .inl (cA, n, .inr (.inl g)))) H1 → va_D A (ws.set q0 (b, .inl (cA, n, .inr (.inl g)))) → va_S A s.heap H1 locs1 → W p l e R s m args below meth c H1 locs1 cells slots Q (F0 m (pc + 1) ls rest)) : W p l e R s m args below meth c H locs cells slots Q (F0 m pc ls (.long x :: .int i :: .ref b :: rest)) :=
  va_last F.1 F.2.1 hK hP hD hS q0 t0 ha ht hin hdg (fun H1 locs1 h1 h2 h3 => kk _ H1 locs1 h1 h2 h3)
theorem j_dast (F : CallFix p m c cc nL s args gw own) (hK : va_K D classes (TY T) s) (hP : va_P D classes ws H) (hD : va_D A ws) (hS : va_S A s.heap H locs) (q0 t0 : Nat) {b : Nat} {cA : ClassId} {n : Nat} {f : Nat → UInt64} (ha : ws[q0]? = some (b, .inl (cA, n, .inr (.inr (.inr (.inl f)))))) (ht : (TY T)[t0]? = some (cA, .double)) {i : Int32} {x : UInt64} (hin : vp_in i n) (hdg : decode cc pc = .ok (.dastore, 1))
    (kk : ∀ (g : Nat → UInt64) (H1 : Heap) (locs1 : List Loc), va_P D classes (ws.set q0 (b, .inl (cA, n, .inr (.inr (.inr (.inl g)))))) H1 → va_D A (ws.set q0 (b, .inl (cA, n, .inr (.inr (.inr (.inl g)))))) → va_S A s.heap H1 locs1 → W p l e R s m args below meth c H1 locs1 cells slots Q (F0 m (pc + 1) ls rest)) : W p l e R s m args below meth c H locs cells slots Q (F0 m pc ls (.double x :: .int i :: .ref b :: rest)) :=
  va_dast F.1 F.2.1 hK hP hD hS q0 t0 ha ht hin hdg (fun H1 locs1 h1 h2 h3 => kk _ H1 locs1 h1 h2 h3)
theorem j_astq (F : CallFix p m c cc nL s args gw own) (hK : va_K D classes (TY T) s) (hP : va_P D classes ws H) (hD : va_D A ws) (hS : va_S A s.heap H locs) (q0 t0 qk ci : Nat) {b : Nat} {cA : ClassId} {r : vw_C} {n v : Nat} {vs : List Value} {f : Nat → Option Nat} (ha : ws[q0]? = some (b, .inl (cA, n, .inr (.inr (.inr (.inr f)))))) (ht : (TY T)[t0]? = some (cA, .object r.1)) (hv : ws[qk]? = some (v, .inr (ci, vs))) (hc : classes[ci]? = some r) {i : Int32} (hin : vp_in i n) (hdg : decode cc pc = .ok (.aastore, 1))
    (kk : ∀ (g : Nat → Option Nat) (H1 : Heap) (locs1 : List Loc), va_P D classes (ws.set q0 (b, .inl (cA, n, .inr (.inr (.inr (.inr g)))))) H1 → va_D A (ws.set q0 (b, .inl (cA, n, .inr (.inr (.inr (.inr g)))))) → va_S A s.heap H1 locs1 → W p l e R s m args below meth c H1 locs1 cells slots Q (F0 m (pc + 1) ls rest)) : W p l e R s m args below meth c H locs cells slots Q (F0 m pc ls (.ref v :: .int i :: .ref b :: rest)) :=
  va_astq F.1 F.2.1 hK hP hD hS q0 t0 qk ci ha ht hv hc hin hdg (fun H1 locs1 h1 h2 h3 => kk _ H1 locs1 h1 h2 h3)
/-- anewarray of the one class that has one -/
theorem j_newq {index : Nat} (F : CallFix p m c cc nL s args gw own) (hcl : Cond.classLink own index "PageScribe$Store" ∈ gw) (hover : va_AO "PageScribe$Store" s) (hK : va_K D classes (TY T) s) (hP : va_P D classes ws H) (hD : va_D A ws) (hS : va_S A s.heap H locs) (hA : ∀ q : Nat, s.heap.size ≤ q → A q)
    {n : Int32} {N' : Nat} (hn : ¬ n < 0) (hN : n.toNatClampNeg = N') (hbytes : N' * 4 ≤ 536870912) (hcells : cells + 1 ≤ R.cells) (hslots : slots + N' ≤ R.slots) (hdg : decode cc pc = .ok (.anewarray index, 3))
    (kk : ∀ (q : Nat) (H1 : Heap), va_P D classes (ws ++ [(q, .inl (T 4, N', .inr (.inr (.inr (.inr (fun _ => none))))))]) H1 → va_D A (ws ++ [(q, .inl (T 4, N', .inr (.inr (.inr (.inr (fun _ => none))))))]) → va_S A s.heap H1 locs →
      W p l e R s m args below meth c H1 locs (cells + 1) (slots + N') Q (F0 m (pc + 3) ls (.ref q :: rest))) : W p l e R s m args below meth c H locs cells slots Q (F0 m pc ls (.int n :: rest)) := by
  refine va_newq F.1 F.2.1 F.2.2.2.1 (F.2.2.2.2 _ hcl) hover hK hP hD hS hA hn hN hbytes hcells hslots hdg (fun q cA H1 hK1 hP1 hD1 hS1 => ?_)
  have e : cA = T 4 := j_cls (hK1.2 (TY T).length (cA, .object "PageScribe$Store") (by rw [List.getElem?_append_right (Nat.le_refl _)]; simp)).2 (hK.2 4 (T 4, .object "PageScribe$Store") rfl).2
  subst e
  exact kk q H1 hP1 hD1 hS1
/-- where two roads meet -/
theorem j_join {α : Type} {g0 : JFrame} (Pv : α → Prop) (g : α → JFrame) (k : ∀ v : α, Pv v → W p l e R s m args below meth c H locs cells slots Q (g v)) (kk : (∀ v : α, Pv v → W p l e R s m args below meth c H locs cells slots Q (g v)) → W p l e R s m args below meth c H locs cells slots Q g0) : W p l e R s m args below meth c H locs cells slots Q g0 := kk k
/-- a loop: a measure falls -/
theorem j_loop {α : Type} (I : Nat → α → Heap → List Loc → Array Slot → Prop) (g : Nat → α → Array Slot → JFrame)
    (step : ∀ (k : Nat) (x : α) (H : Heap) (locs : List Loc) (ls : Array Slot), I k x H locs ls → (∀ (k' : Nat) (x' : α) (H' : Heap) (locs' : List Loc) (ls' : Array Slot), k' < k → I k' x' H' locs' ls' → W p l e R s m args below meth c H' locs' cells slots Q (g k' x' ls')) → W p l e R s m args below meth c H locs cells slots Q (g k x ls)) :
    ∀ (k : Nat) (x : α) (H : Heap) (locs : List Loc) (ls : Array Slot), I k x H locs ls → W p l e R s m args below meth c H locs cells slots Q (g k x ls) := by
  intro k
  induction k using Nat.strongRecOn with
  | ind k ih => exact fun x H locs ls h => step k x H locs ls h (fun k' x' H' locs' ls' hk h' => ih k' hk x' H' locs' ls' h')
/-- the words of a call of an inherited method -/
theorem j_cU {C owner : String} {x y : MethodName} {b : ByteArray} {n k index : Nat} {ret : Option FieldType} {rm : Room} (hts : ∀ w ∈ gw, w.before args s = true) (hc : Cond.code y b n ret ∈ gw) (h1 : Cond.methodLink own index x ∈ gw) (h2 : Cond.sameMethod x.cls owner x.name x.desc ∈ gw) (h3 : Cond.selects C x y ∈ gw) (h4 : Cond.instanceMethod y ∈ gw) (h5 : Cond.initialized y.cls ∈ gw)
    (hyx : y = ⟨owner, x.name, x.desc⟩) (hd : owner ≠ "java/lang/invoke/MethodHandle" ∧ owner ≠ "java/lang/invoke/VarHandle" ∧ (parseMethodDescriptor x.desc).map (fun d => d.parameters.length) = some k) (hR : rm.frames + 1 ≤ R.frames ∧ 8 + (n + 11) + rm.locals ≤ R.locals) :
    va_CU R s args own C owner index x y b n ret (wy y b n ret) rm rm.cells rm.slots k := by
  refine va_cwU k hts (fun w h => ?_) rfl rfl rfl hyx hd hR
  have hw : w ∈ gw := by
    unfold va_wsU at h
    rcases List.mem_append.mp h with h | h
    · simp only [List.mem_cons, List.not_mem_nil, or_false] at h
      rcases h with rfl | rfl | rfl | rfl | rfl
      · exact h1
      · exact h2
      · exact h3
      · exact h4
      · exact h5
    · rcases List.mem_cons.mp h with rfl | h
      · exact hc
      · exact h
  exact ⟨hw, (gw_in hw).2⟩
theorem j_dret {S : Type} {post : UInt64 → S → Prop} {w1 : S → va_W} {v : UInt64} (F : CallFix p m c cc nL s args gw own) (hr : meth.sig.returnType = some .double) (hlocks : meth.locks = false) (hK : va_K D classes (TY T) s) (hS : va_S A s.heap H locs) (u : S) (hp : post v u) (hP : va_P D classes (w1 u) H) (hD : va_D A (w1 u)) (hdg : decode cc pc = .ok (.dreturn, 1)) :
    W p l e R s m args below meth c H locs cells slots (MQ below (va_Qd post (fun u t => Bw D T A (w1 u) t) A) args s cells slots A) (F0 m pc ls [.double v]) :=
  W.dret F.1 F.2.1 hr (fun t ht hW => ⟨⟨v, u, rfl, hp, by rw [ht]; exact hP, va_K.moved hW.alike hK, hD⟩, hS.F ht⟩) hS.2.2 hdg
end JN
