/-! THE SURROUNDINGS: the operators' constants, their tables and texts; calls over the class' world -/
abbrev GE : Type := (Nat → Nat) × (Nat → Nat) × (Nat → Nat) × (Nat → Nat) × (Nat → Int32) × (Nat → Int32) × Nat × Nat
abbrev g_en (g : GE) : Nat → Nat := g.1
abbrev g_K (g : GE) : Nat → Nat := g.2.1
abbrev g_V (g : GE) : Nat → Nat := g.2.2.1
abbrev g_tk (g : GE) : Nat → Nat := g.2.2.2.1
abbrev g_sw (g : GE) : Nat → Int32 := g.2.2.2.2.1
abbrev g_gr (g : GE) : Nat → Int32 := g.2.2.2.2.2.1
abbrev g_tO (g : GE) : Nat := g.2.2.2.2.2.2.1
abbrev g_tS (g : GE) : Nat := g.2.2.2.2.2.2.2
def opNm : List String := ["POP", "EXCH", "DUP", "COPY", "INDEX", "ROLL", "CLEAR", "COUNT", "MARK", "OPEN", "CLEARTOMARK", "CLOSE", "ADD", "SUB", "MUL", "DIV", "IDIV", "MOD", "NEG", "FLOOR", "ROUND", "CVI", "CVR", "BITSHIFT", "TRUE", "FALSE", "EQ", "NE", "GT", "GE", "LT", "LE", "AND", "OR", "NOT", "CVX", "CVLIT", "XCHECK", "KIND", "ARRAY", "LENGTH", "GET", "PUT", "GETINTERVAL", "ALOAD", "DICT", "BEGIN", "END", "DEF", "LOAD", "KNOWN", "CURRENTDICT", "EXEC", "IF", "IFELSE", "FOR", "REPEAT", "LOOP", "FORALL", "EXIT", "STOP", "CATCH", "FAULT", "SAVE", "RESTORE", "SETGRAY", "NEWPATH", "MOVETO", "LINETO", "CLOSEPATH", "FILL", "EOFILL"]
def txL : List Nat := [3, 4, 3, 4, 5, 4, 5, 5, 4, 1, 11, 1, 3, 3, 3, 3, 4, 3, 3, 5, 5, 3, 3, 8, 4, 5, 2, 2, 2, 2, 2, 2, 3, 2, 3, 3, 5, 6, 4, 5, 6, 3, 3, 11, 5, 4, 5, 3, 3, 4, 5, 11, 4, 2, 6, 3, 6, 4, 6, 4, 4, 7, 5, 4, 7, 7, 7, 6, 6, 9, 4, 6, 1, 2, 1, 2, 0, 2, 1, 5, 3, 3, 5, 7, 3, 1, 1, 2, 1, 2, 2, 3, 4, 2, 1, 2, 1]
def txB : List (List Int32) := [[112, 111, 112], [101, 120, 99, 104], [100, 117, 112], [99, 111, 112, 121], [105, 110, 100, 101, 120], [114, 111, 108, 108], [99, 108, 101, 97, 114], [99, 111, 117, 110, 116], [109, 97, 114, 107], [91], [99, 108, 101, 97, 114, 116, 111, 109, 97, 114, 107], [93], [97, 100, 100], [115, 117, 98], [109, 117, 108], [100, 105, 118], [105, 100, 105, 118], [109, 111, 100], [110, 101, 103], [102, 108, 111, 111, 114], [114, 111, 117, 110, 100], [99, 118, 105], [99, 118, 114], [98, 105, 116, 115, 104, 105, 102, 116], [116, 114, 117, 101], [102, 97, 108, 115, 101], [101, 113], [110, 101], [103, 116], [103, 101], [108, 116], [108, 101], [97, 110, 100], [111, 114], [110, 111, 116], [99, 118, 120], [99, 118, 108, 105, 116], [120, 99, 104, 101, 99, 107], [107, 105, 110, 100], [97, 114, 114, 97, 121], [108, 101, 110, 103, 116, 104], [103, 101, 116], [112, 117, 116], [103, 101, 116, 105, 110, 116, 101, 114, 118, 97, 108], [97, 108, 111, 97, 100], [100, 105, 99, 116], [98, 101, 103, 105, 110], [101, 110, 100], [100, 101, 102], [108, 111, 97, 100], [107, 110, 111, 119, 110], [99, 117, 114, 114, 101, 110, 116, 100, 105, 99, 116], [101, 120, 101, 99], [105, 102], [105, 102, 101, 108, 115, 101], [102, 111, 114], [114, 101, 112, 101, 97, 116], [108, 111, 111, 112], [102, 111, 114, 97, 108, 108], [101, 120, 105, 116], [115, 116, 111, 112], [115, 116, 111, 112, 112, 101, 100], [102, 97, 117, 108, 116], [115, 97, 118, 101], [114, 101, 115, 116, 111, 114, 101], [115, 101, 116, 103, 114, 97, 121], [110, 101, 119, 112, 97, 116, 104], [109, 111, 118, 101, 116, 111], [108, 105, 110, 101, 116, 111], [99, 108, 111, 115, 101, 112, 97, 116, 104], [102, 105, 108, 108], [101, 111, 102, 105, 108, 108], [120], [120, 120], [105], [105, 105], [], [110, 110], [110], [98, 98, 124, 105, 105], [98, 124, 105], [97, 124, 100], [97, 105, 124, 100, 119], [97, 105, 120, 124, 100, 119, 120], [97, 105, 105], [97], [100], [119, 120], [119], [100, 119], [98, 112], [98, 112, 112], [105, 105, 105, 112], [105, 112], [112], [97, 112], [115]]
def nestL : List Cond := [.methodLinkNest "PageScribe" 18 ⟨"PageScribe$Words", "<init>", "()V"⟩ "PageScribe", .fieldLinkNest "PageScribe$Words" 23 "PageScribe" "OPERATORS" "[LPageScribe$Op;" "PageScribe", .methodLinkNest "PageScribe$Store" 55 ⟨"PageScribe", "arrayOf", "(II)I"⟩ "PageScribe", .methodLinkNest "PageScribe" 97 ⟨"PageScribe$Engine", "doValue", "(IID)I"⟩ "PageScribe", .fieldLinkNest "PageScribe$Engine" 129 "PageScribe" "OPERATORS" "[LPageScribe$Op;" "PageScribe", .methodLinkNest "PageScribe$Truths" 82 ⟨"PageScribe", "lengthOf", "(I)I"⟩ "PageScribe", .methodLinkNest "PageScribe$Memory" 120 ⟨"PageScribe", "arrayOf", "(II)I"⟩ "PageScribe", .methodLinkNest "PageScribe$Memory" 127 ⟨"PageScribe", "lengthOf", "(I)I"⟩ "PageScribe", .methodLinkNest "PageScribe$Memory" 133 ⟨"PageScribe", "firstOf", "(I)I"⟩ "PageScribe", .methodLinkNest "PageScribe$Memory" 207 ⟨"PageScribe", "endOf", "(I)I"⟩ "PageScribe", .methodLinkNest "PageScribe$Engine" 112 ⟨"PageScribe", "endOf", "(I)I"⟩ "PageScribe", .methodLinkNest "PageScribe$Engine" 123 ⟨"PageScribe", "firstOf", "(I)I"⟩ "PageScribe", .methodLinkNest "PageScribe$Engine" 126 ⟨"PageScribe", "lengthOf", "(I)I"⟩ "PageScribe"]
def opO (g : GE) (B : Nat → Prop) (U : State) (H : Heap) (i : Nat) : Prop := (va_O "PageScribe$Op" (g_en g i) B U H ∧ va_Z "PageScribe$Op" (opNm.getD i "") "LPageScribe$Op;" (.ref (g_en g i)) B U H) ∧ va_OF "java/lang/Enum" "ordinal" "I" (.int (nI i)) (g_en g i) B U H ∧ va_OF "PageScribe$Op" "group" "I" (.int (g_gr g i)) (g_en g i) B U H ∧ va_OF "PageScribe$Op" "word" "Ljava/lang/String;" (.ref (g_K g i)) (g_en g i) B U H ∧ va_OF "PageScribe$Op" "takes" "Ljava/lang/String;" (.ref (g_K g (g_tk g i))) (g_en g i) B U H
theorem opO.moved {g : GE} {B : Nat → Prop} {u U : State} {H : Heap} {i : Nat} (hvm : u.vm.Alike U.vm) (h : opO g B u H i) : opO g B U H i :=
  ⟨⟨va_O.moved hvm h.1.1, va_Z.moved hvm h.1.2⟩, va_OF.moved hvm h.2.1, va_OF.moved hvm h.2.2.1, va_OF.moved hvm h.2.2.2.1, va_OF.moved hvm h.2.2.2.2⟩
theorem opO.kept {g : GE} {B : Nat → Prop} {U : State} {H H1 : Heap} {i : Nat} (h : opO g B U H i) (hq : ∀ a : Nat, a < H.size → ¬ B a → H1[a]? = H[a]?) : opO g B U H1 i :=
  ⟨⟨h.1.1.kept hq, h.1.2.kept hq⟩, h.2.1.kept hq, h.2.2.1.kept hq, h.2.2.2.1.kept hq, h.2.2.2.2.kept hq⟩
theorem opO.narrow {g : GE} {A B : Nat → Prop} {U : State} {H : Heap} {i : Nat} (h : opO g A U H i) (hAB : ∀ q, B q → A q) : opO g B U H i :=
  ⟨⟨h.1.1.narrow hAB, h.1.2.narrow hAB⟩, h.2.1.narrow hAB, h.2.2.1.narrow hAB, h.2.2.2.1.narrow hAB, h.2.2.2.2.narrow hAB⟩
def EV (g : GE) (B : Nat → Prop) (U : State) (H : Heap) : Prop :=
  (∀ i : Nat, i < 72 → opO g B U H i) ∧ (va_Z "PageScribe" "OPERATORS" "[LPageScribe$Op;" (.ref (g_tO g)) B U H ∧ va_T (.object "PageScribe$Op") (g_tO g) 72 (fun k => .ref (g_en g k)) B U H) ∧
  (va_Z "PageScribe$1" "$SwitchMap$PageScribe$Op" "[I" (.ref (g_tS g)) B U H ∧ va_T .int (g_tS g) 72 (fun k => .int (g_sw g k)) B U H) ∧ (va_Z "java/lang/String" "COMPACT_STRINGS" "Z" (.int 1) B U H ∧ va_Zq "jdk/internal/util/Preconditions" "SIOOBE_FORMATTER" "Ljava/util/function/BiFunction;" B U H) ∧
  vk_S 97 txL txB (g_K g) (g_V g) B U H ∧ ∀ i : Nat, i < 72 → g_tk g i < 97
theorem EV.moved {g : GE} {B : Nat → Prop} {u U : State} {H : Heap} (hvm : u.vm.Alike U.vm) (h : EV g B u H) : EV g B U H :=
  ⟨fun i hi => (h.1 i hi).moved hvm, ⟨va_Z.moved hvm h.2.1.1, va_T.moved hvm h.2.1.2⟩, ⟨va_Z.moved hvm h.2.2.1.1, va_T.moved hvm h.2.2.1.2⟩, ⟨va_Z.moved hvm h.2.2.2.1.1, va_Zq.moved hvm h.2.2.2.1.2⟩, vk_S.moved hvm h.2.2.2.2.1, h.2.2.2.2.2⟩
theorem EV.kept {g : GE} {B : Nat → Prop} {U : State} {H H1 : Heap} (h : EV g B U H) (hq : ∀ a : Nat, a < H.size → ¬ B a → H1[a]? = H[a]?) : EV g B U H1 :=
  ⟨fun i hi => (h.1 i hi).kept hq, ⟨h.2.1.1.kept hq, h.2.1.2.kept hq⟩, ⟨h.2.2.1.1.kept hq, h.2.2.1.2.kept hq⟩, ⟨h.2.2.2.1.1.kept hq, h.2.2.2.1.2.kept hq⟩, h.2.2.2.2.1.kept hq, h.2.2.2.2.2⟩
theorem EV.narrow {g : GE} {A B : Nat → Prop} {U : State} {H : Heap} (h : EV g A U H) (hAB : ∀ q, B q → A q) : EV g B U H :=
  ⟨fun i hi => (h.1 i hi).narrow hAB, ⟨h.2.1.1.narrow hAB, h.2.1.2.narrow hAB⟩, ⟨h.2.2.1.1.narrow hAB, h.2.2.1.2.narrow hAB⟩, ⟨h.2.2.2.1.1.narrow hAB, h.2.2.2.1.2.narrow hAB⟩, h.2.2.2.2.1.narrow hAB, h.2.2.2.2.2⟩
/-- the surroundings of a call: what may be written (Bq) holds the class' cells and all that is new -/
def EC (g : GE) (Bq : Nat → Prop) (ad : Nat → Nat) (U : State) : Prop := EV g Bq U U.heap ∧ (∀ q : Nat, U.heap.size ≤ q → Bq q) ∧ (∀ k : Nat, k < 75 → Bq (ad k)) ∧ ∀ w ∈ nestL, va_Nw w U
theorem EC.calling {g : GE} {Bq : Nat → Prop} {ad : Nat → Nat} {U : State} {gf : JFrame} {mk : MethodId} {a : Array Value} (h : EC g Bq ad U) : EC g Bq ad (U.calling gf mk a) :=
  ⟨EV.moved (u := U) (U := U.calling gf mk a) (Vm.Alike.refl U.vm) h.1, h.2.1, h.2.2.1, fun w hw => va_Nw.same (u := U) (by revert w; decide +kernel) rfl (h.2.2.2 w hw)⟩
theorem nest_warm {w : Cond} (hw : w ∈ nestL) {s U : State} (hW : s.WarmedH U.vm) (h : va_Nw w s) : va_Nw w U := by
  simp only [nestL, List.mem_cons, List.not_mem_nil, or_false] at hw
  rcases hw with e | e | e | e | e | e | e | e | e | e | e | e | e <;> subst e <;> first | exact va_Nw.warmM hW h | exact va_Nw.warmF hW h
theorem EC.at {g : GE} {Bq A : Nat → Prop} {ad : Nat → Nat} {s U : State} {H : Heap} {locs : List Loc} (hS : va_S A s.heap H locs) (hAB : ∀ q, A q → Bq q) (hU : U.heap = H) (hW : s.WarmedH U.vm) (h : EC g Bq ad s) : EC g Bq ad U := by
  refine ⟨?_, fun q hq => h.2.1 q (by rw [hU] at hq; exact Nat.le_trans hS.1 hq), h.2.2.1, fun w hw => nest_warm hw hW (h.2.2.2 w hw)⟩
  rw [hU]
  exact (EV.moved hW.alike h.1).kept (fun a h1 h2 => hS.2.1 a h1 (fun q => h2 (hAB a q)))
theorem EC.ab {g : GE} {Bq A : Nat → Prop} {ad : Nat → Nat} {T : Nat → ClassId} {S : CS} {s : State} (h : EC g Bq ad s) (hN : ∀ q : Nat, q < s.heap.size → (∀ (k : Nat) (e : va_E), ¬ (cW T ad S)[k]? = some (q, e)) → ¬ A q) : ∀ q, A q → Bq q := by
  intro q hq
  rcases Nat.lt_or_ge q s.heap.size with c | c
  · apply Classical.byContradiction
    intro hb
    refine hN q c (fun k e he => hb ?_) hq
    have hk : k < 75 := by
      rcases Nat.lt_or_ge k 75 with z | z
      · exact z
      · exfalso
        have hlen : (cW T ad S).length = 75 := rfl
        rw [List.getElem?_eq_none (by omega)] at he
        cases he
    have h3 : ((cW T ad S)[k]?).map (fun x => x.1) = some (ad k) := by
      have hall : ∀ j : Nat, j < 75 → ((cW T ad S).map (fun x => x.1))[j]? = (((List.range 75).map ad) : List Nat)[j]? := fun j _ => rfl
      have h4 := hall k hk
      rw [List.getElem?_map, List.getElem?_map, List.getElem?_range hk] at h4
      exact h4
    rw [he] at h3
    have h5 : q = ad k := Option.some.inj h3
    rw [h5]
    exact h.2.2.1 k hk
  · exact h.2.1 q c
section JC
variable {p : Program} {l : Launch} {e : Env} {R : Room} {s : State} {m : MethodId} {args : Array Value} {below : List Frame} {meth : Method} {c : Code} {H : Heap} {locs : List Loc} {cells slots nL : Nat} {Q : State → Prop}
variable {cc : ByteArray} {pc : Nat} {ls : Array Slot} {rest st0 : List Value} {A : Nat → Prop} {D : va_G} {T : Nat → ClassId} {own : String} {ws wc wr : va_W} {a : Array Value} {mc ms : Nat}
variable {ad : Nat → Nat} {S0 : CS}
theorem jc_ci {S : Type} {post : Int32 → S → Prop} {w : S → CS} (hK : va_K D classes (TY T) s) (hP : va_P D classes (cW T ad S0) H) (hD : va_D A (cW T ad S0)) (hS : va_S A s.heap H locs) (hA : ∀ q : Nat, s.heap.size ≤ q → A q)
    (hr : va_Run p l e R s m args below meth c H locs cells slots mc ms (F0 m pc ls st0) rest (va_Qi post (fun u t => Bw D T (va_A (cW T ad S0) H.size) (cW T ad (w u)) t) (va_A (cW T ad S0) H.size) a) (va_A (cW T ad S0) H.size))
    (kk : ∀ (r : Int32) (u : S) (H1 : Heap) (locs1 : List Loc), post r u → va_P D classes (cW T ad (w u)) H1 → va_D A (cW T ad (w u)) → va_S A s.heap H1 locs1 → W p l e R s m args below meth c H1 locs1 (cells + mc) (slots + ms) Q (F0 m (pc + 3) ls (.int r :: rest))) : W p l e R s m args below meth c H locs cells slots Q (F0 m pc ls st0) :=
  j_ci (wr := []) hK hP hD hS hA csc [] csc_all rfl rfl (fun _ h => absurd h List.not_mem_nil) hr kk
theorem jc_cv {S : Type} {post : S → Prop} {w : S → CS} (hK : va_K D classes (TY T) s) (hP : va_P D classes (cW T ad S0) H) (hD : va_D A (cW T ad S0)) (hS : va_S A s.heap H locs) (hA : ∀ q : Nat, s.heap.size ≤ q → A q)
    (hr : va_Run p l e R s m args below meth c H locs cells slots mc ms (F0 m pc ls st0) rest (va_Qv post (fun u t => Bw D T (va_A (cW T ad S0) H.size) (cW T ad (w u)) t) (va_A (cW T ad S0) H.size) a) (va_A (cW T ad S0) H.size))
    (kk : ∀ (u : S) (H1 : Heap) (locs1 : List Loc), post u → va_P D classes (cW T ad (w u)) H1 → va_D A (cW T ad (w u)) → va_S A s.heap H1 locs1 → W p l e R s m args below meth c H1 locs1 (cells + mc) (slots + ms) Q (F0 m (pc + 3) ls rest)) : W p l e R s m args below meth c H locs cells slots Q (F0 m pc ls st0) :=
  j_cv (wr := []) hK hP hD hS hA csc [] csc_all rfl rfl (fun _ h => absurd h List.not_mem_nil) hr kk
theorem jc_cd {S : Type} {post : UInt64 → S → Prop} {w : S → CS} (hK : va_K D classes (TY T) s) (hP : va_P D classes (cW T ad S0) H) (hD : va_D A (cW T ad S0)) (hS : va_S A s.heap H locs) (hA : ∀ q : Nat, s.heap.size ≤ q → A q)
    (hr : va_Run p l e R s m args below meth c H locs cells slots mc ms (F0 m pc ls st0) rest (va_Qd post (fun u t => Bw D T (va_A (cW T ad S0) H.size) (cW T ad (w u)) t) (va_A (cW T ad S0) H.size) a) (va_A (cW T ad S0) H.size))
    (kk : ∀ (r : UInt64) (u : S) (H1 : Heap) (locs1 : List Loc), post r u → va_P D classes (cW T ad (w u)) H1 → va_D A (cW T ad (w u)) → va_S A s.heap H1 locs1 → W p l e R s m args below meth c H1 locs1 (cells + mc) (slots + ms) Q (F0 m (pc + 3) ls (.double r :: rest))) : W p l e R s m args below meth c H locs cells slots Q (F0 m pc ls st0) :=
  j_cd (wr := []) hK hP hD hS hA csc [] csc_all rfl rfl (fun _ h => absurd h List.not_mem_nil) hr kk
/-- a static method of a nest mate -/
theorem j_cSN {host : String} {y : MethodName} {b : ByteArray} {n k index : Nat} {ret : Option FieldType} {rm : Room} (hts : ∀ w ∈ gw, w.before args s = true) (hc : Cond.code y b n ret ∈ gw) (hi : Cond.initialized y.cls ∈ gw) (hl : va_Nw (.methodLinkNest own index y host) s) (hst : Cond.static y ∈ gw)
    (hd : y.cls ≠ "java/lang/invoke/MethodHandle" ∧ y.cls ≠ "java/lang/invoke/VarHandle" ∧ (parseMethodDescriptor y.desc).map (fun d => d.parameters.length) = some k) (hR : rm.frames + 1 ≤ R.frames ∧ 8 + (n + 11) + rm.locals ≤ R.locals) :
    va_CN R s args own index y host b n ret (wy y b n ret) rm rm.cells rm.slots k ∧ (Cond.static y).before args s = true ∧ True := by
  refine ⟨⟨⟨rfl, rfl, hR.1, hR.2, wy_pay hts hc, List.mem_cons_self⟩, hts _ hc, hts _ hi, ⟨hd.1, hd.2.1⟩, fun sig h => ?_, va_Nw.use rfl hl⟩, hts _ hst, trivial⟩
  have h2 := hd.2.2
  rw [h] at h2
  exact (Option.some.inj h2).symm
theorem j_cVN {C host : String} {y : MethodName} {b : ByteArray} {n k index : Nat} {ret : Option FieldType} {rm : Room} (hts : ∀ w ∈ gw, w.before args s = true) (hc : Cond.code y b n ret ∈ gw) (hi : Cond.initialized y.cls ∈ gw) (hl : va_Nw (.methodLinkNest own index y host) s) (him : Cond.instanceMethod y ∈ gw) (hse : Cond.selects C y y ∈ gw)
    (hd : y.cls ≠ "java/lang/invoke/MethodHandle" ∧ y.cls ≠ "java/lang/invoke/VarHandle" ∧ (parseMethodDescriptor y.desc).map (fun d => d.parameters.length) = some k) (hR : rm.frames + 1 ≤ R.frames ∧ 8 + (n + 11) + rm.locals ≤ R.locals) :
    va_CN R s args own index y host b n ret (wy y b n ret) rm rm.cells rm.slots k ∧ (Cond.instanceMethod y).before args s = true ∧ (Cond.selects C y y).before args s = true := by
  refine ⟨⟨⟨rfl, rfl, hR.1, hR.2, wy_pay hts hc, List.mem_cons_self⟩, hts _ hc, hts _ hi, ⟨hd.1, hd.2.1⟩, fun sig h => ?_, va_Nw.use rfl hl⟩, hts _ him, hts _ hse⟩
  have h2 := hd.2.2
  rw [h] at h2
  exact (Option.some.inj h2).symm
end JC
