/-! THE LAW'S OWN METHODS: the out array's cell ahead of the class' world -/
abbrev xW (T : Nat → ClassId) (ad : Nat → Nat) (S : CS) (o : Nat × va_E) : va_W := o :: cW T ad S
abbrev oJ (T : Nat → ClassId) (ou : Nat) (f : Nat → Int64) : Nat × va_E := (ou, .inl (T 1, 1, .inr (.inl f)))
abbrev oD (T : Nat → ClassId) (ou : Nat) (f : Nat → UInt64) : Nat × va_E := (ou, .inl (T 3, 1, .inr (.inr (.inr (.inl f)))))
def csd : List Nat := [1, 2, 3, 4, 5, 6, 7, 8, 9, 10, 11, 12, 13, 14, 15, 16, 17, 18, 19, 20, 21, 22, 23, 24, 25, 26, 27, 28, 29, 30, 31, 32, 33, 34, 35, 36, 37, 38, 39, 40, 41, 42, 43, 44, 45, 46, 47, 48, 49, 50, 51, 52, 53, 54, 55, 56, 57, 58, 59, 60, 61, 62, 63, 64, 65, 66, 67, 68, 69, 70, 71, 72, 73, 74, 75]
def csx : List Nat := [0, 1, 2, 3, 4, 5, 6, 7, 8, 9, 10, 11, 12, 13, 14, 15, 16, 17, 18, 19, 20, 21, 22, 23, 24, 25, 26, 27, 28, 29, 30, 31, 32, 33, 34, 35, 36, 37, 38, 39, 40, 41, 42, 43, 44, 45, 46, 47, 48, 49, 50, 51, 52, 53, 54, 55, 56, 57, 58, 59, 60, 61, 62, 63, 64, 65, 66, 67, 68, 69, 70, 71, 72, 73, 74, 75]
theorem csd_nd : va_nd csd = true := by decide +kernel
theorem csx_nd : va_nd csx = true := by decide +kernel
theorem csd_all {T : Nat → ClassId} {ad : Nat → Nat} {S0 : CS} {o : Nat × va_E} : csd.map (fun i => (xW T ad S0 o)[i]?) = (cW T ad S0).map some := rfl
theorem csx_all {T : Nat → ClassId} {ad : Nat → Nat} {S0 : CS} {o : Nat × va_E} : csx.map (fun i => (xW T ad S0 o)[i]?) = (xW T ad S0 o).map some := rfl
theorem cx_0 {T : Nat → ClassId} {ad : Nat → Nat} {S0 : CS} {o : Nat × va_E} : (xW T ad S0 o)[1]? = (cW T ad S0)[0]? := rfl
theorem cw_ad {T : Nat → ClassId} {ad : Nat → Nat} {S : CS} {k q : Nat} {e : va_E} (he : (cW T ad S)[k]? = some (q, e)) : ∃ j : Nat, j < 75 ∧ q = ad j := by
  have hk : k < 75 := by
    rcases Nat.lt_or_ge k 75 with z | z
    · exact z
    · exfalso
      have hlen : (cW T ad S).length = 75 := rfl
      rw [List.getElem?_eq_none (by omega)] at he
      cases he
  have h3 : ((cW T ad S)[k]?).map (fun x => x.1) = some (ad k) := by
    have hall : ∀ j : Nat, j < 75 → ((cW T ad S).map (fun x => x.1))[j]? = (((List.range 75).map ad) : List Nat)[j]? := fun j _ => rfl
    have h4 := hall k hk
    rw [List.getElem?_map, List.getElem?_map, List.getElem?_range hk] at h4
    exact h4
  rw [he] at h3
  exact ⟨k, hk, Option.some.inj h3⟩
theorem xW_ab {T : Nat → ClassId} {ad : Nat → Nat} {S : CS} {o : Nat × va_E} {g : GE} {Bq : Nat → Prop} {s : State} (h : EC g Bq ad s) (ho : Bq o.1) {q : Nat} (hq : va_A (xW T ad S o) s.heap.size q) : Bq q := by
  rcases hq with ⟨k, e, he⟩ | hq
  · cases k with
    | zero => cases he; exact ho
    | succ k =>
      have he2 : (cW T ad S)[k]? = some (q, e) := he
      obtain ⟨j, hj, e2⟩ := cw_ad he2
      rw [e2]
      exact h.2.2.1 j hj
  · exact h.2.1 q hq
theorem MetT.wk {l : Launch} {y : MethodName} {ws : List Cond} {rm : Room} {Pc : Array Value → State → Prop} {Qt : State → Addr → State → Prop} {mc ms sz : Nat} (h : MetT l y ws rm Pc Qt mc ms (Rn sz)) : MetT l y ws rm Pc Qt mc ms (va_A [] sz) := by
  intro p e ha hc hk s m args below hf hap hP hKK
  obtain ⟨n, o, h1, h2, h3, x, h4, h5, L, h6, h7⟩ := h p e ha hc hk s m args below hf hap hP hKK
  exact ⟨n, o, h1, h2, h3, x, h4, h5, L, h6, fun q hq => Or.inr (h7 q hq)⟩
theorem j_metW2 {l : Launch} {y : MethodName} {b : ByteArray} {n : Nat} {ret : Option FieldType} {hh : List (Nat × Nat × Nat × Nat)} {rm : Room} {D : va_G} {T : Nat → ClassId} {ws : va_W} {sz : Nat} {E : State → Prop} {av : List Value} {Qc : (Nat → Prop) → Array Value → State → Outcome → State → Prop} {mc ms : Nat}
    (hy : plainName y.cls = true) (hn : (lg_sl av).length ≤ n)
    (body : ∀ (p : Program) (e : Env) (s : State) (m : MethodId) (args : Array Value) (below : List Frame) (meth : Method) (c : Code) (A : Nat → Prop) (ls : Array Slot),
      CallFix p m c b n s args gw y.cls → meth.sig.returnType = ret → meth.locks = false → c.exceptionTable.toList = tableOf hh → va_K D classes (TY T) s → va_P D classes ws s.heap → va_D A ws → va_S A s.heap s.heap [] → (∀ q : Nat, s.heap.size ≤ q → A q) → (∀ q : Nat, A q → va_A ws s.heap.size q) → (∀ q, A q → ∀ cell : Cell, s.heap[q]? = some cell → cell.vm.isStatics = false) → E s → lv_has ls n (lv_args 0 av) →
      W p l e rm s m args below meth c s.heap [] 0 0 (MQ below (Qc A) args s mc ms A) (F0 m 0 ls [])) :
    Met l y (wyH y b n ret hh) rm (va_Pc av (Pw D T ws sz E)) (Qc (va_A ws sz)) mc ms (va_A ws sz) := by
  refine va_MetW (cc := b) (maxL := n) (ret := ret) (hh := hh) hy rfl ?_
  intro p e s m args below meth c s₁ B hml hv
  obtain ⟨rfl, hsz, hP, hK, hD0, hE⟩ := hv
  have hts := atoms_spec (ws := wyH y b n ret hh) B.pre
  have hown : s.vm.findClass y.cls = some m.cls := findClass_of_methodNamed B.named
  have htab : c.exceptionTable.toList = tableOf hh := by
    obtain ⟨m9, meth', c', hn9, hm', hc', -, -, he', -⟩ := Cond.codeWith_spec (hts _ List.mem_cons_self)
    cases B.named.symm.trans hn9
    cases B.method.symm.trans hm'
    cases (Stand.of_body B).code.symm.trans hc'
    rw [← he', table_eq]
  subst hsz
  rw [lg_entry_eq]
  exact body p e s m _ below meth c _ _ ⟨B.exec, B.bytes, hml, hown, fun w h => hts w (List.mem_cons_of_mem _ h)⟩ B.returns B.notSynchronized htab hK hP (hD0.self (sz := s.heap.size)) va_S.rf (fun q h => Or.inr h) (fun q h => h) (st_of hP) hE (lv_entry av hn)
section JX
variable {p : Program} {l : Launch} {e : Env} {R : Room} {s : State} {m : MethodId} {args : Array Value} {below : List Frame} {meth : Method} {c : Code} {H : Heap} {locs : List Loc} {cells slots nL : Nat} {Q : State → Prop}
variable {cc : ByteArray} {pc : Nat} {ls : Array Slot} {rest st0 : List Value} {A : Nat → Prop} {D : va_G} {T : Nat → ClassId} {own : String} {a : Array Value} {mc ms : Nat} {ad : Nat → Nat} {S0 : CS} {o : Nat × va_E}
theorem jx_ci {S : Type} {post : Int32 → S → Prop} {w : S → CS} (hK : va_K D classes (TY T) s) (hP : va_P D classes (xW T ad S0 o) H) (hD : va_D A (xW T ad S0 o)) (hS : va_S A s.heap H locs) (hA : ∀ q : Nat, s.heap.size ≤ q → A q)
    (hr : va_Run p l e R s m args below meth c H locs cells slots mc ms (F0 m pc ls st0) rest (va_Qi post (fun u t => Bw D T (va_A (cW T ad S0) H.size) (cW T ad (w u)) t) (va_A (cW T ad S0) H.size) a) (va_A (cW T ad S0) H.size))
    (kk : ∀ (r : Int32) (u : S) (H1 : Heap) (locs1 : List Loc), post r u → va_P D classes (xW T ad (w u) o) H1 → va_D A (xW T ad (w u) o) → va_S A s.heap H1 locs1 → W p l e R s m args below meth c H1 locs1 (cells + mc) (slots + ms) Q (F0 m (pc + 3) ls (.int r :: rest))) : W p l e R s m args below meth c H locs cells slots Q (F0 m pc ls st0) :=
  j_ci (ws := xW T ad S0 o) (wr := [o]) hK hP hD hS hA csd [0] csd_all rfl (by decide) (by decide) hr kk
theorem jx_cd {S : Type} {post : UInt64 → S → Prop} {w : S → CS} (hK : va_K D classes (TY T) s) (hP : va_P D classes (xW T ad S0 o) H) (hD : va_D A (xW T ad S0 o)) (hS : va_S A s.heap H locs) (hA : ∀ q : Nat, s.heap.size ≤ q → A q)
    (hr : va_Run p l e R s m args below meth c H locs cells slots mc ms (F0 m pc ls st0) rest (va_Qd post (fun u t => Bw D T (va_A (cW T ad S0) H.size) (cW T ad (w u)) t) (va_A (cW T ad S0) H.size) a) (va_A (cW T ad S0) H.size))
    (kk : ∀ (r : UInt64) (u : S) (H1 : Heap) (locs1 : List Loc), post r u → va_P D classes (xW T ad (w u) o) H1 → va_D A (xW T ad (w u) o) → va_S A s.heap H1 locs1 → W p l e R s m args below meth c H1 locs1 (cells + mc) (slots + ms) Q (F0 m (pc + 3) ls (.double r :: rest))) : W p l e R s m args below meth c H locs cells slots Q (F0 m pc ls st0) :=
  j_cd (ws := xW T ad S0 o) (wr := [o]) hK hP hD hS hA csd [0] csd_all rfl (by decide) (by decide) hr kk
end JX
