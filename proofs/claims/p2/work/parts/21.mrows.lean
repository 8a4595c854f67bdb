/-! ROWS: calls and returns of longs; divisors -/
theorem zt_n0 {y : Int32} {b : Int} (hy : y.toInt = b) (h : ¬ b = 0) : ¬ y = 0 := fun q => h (by rw [← hy, q]; decide +kernel)
theorem zu_n0 {y : Int64} {b : Int} (hy : y.toInt = b) (h : ¬ b = 0) : ¬ y = 0 := fun q => h (by rw [← hy, q]; decide +kernel)
section JQ
variable {p : Program} {l : Launch} {e : Env} {R : Room} {s : State} {m : MethodId} {args : Array Value} {below : List Frame} {meth : Method} {c : Code} {H : Heap} {locs : List Loc} {cells slots nL : Nat} {Q : State → Prop}
variable {cc : ByteArray} {pc : Nat} {ls : Array Slot} {rest st0 : List Value} {A : Nat → Prop} {D : va_G} {T : Nat → ClassId} {own : String} {ws wc wr : va_W} {a : Array Value} {mc ms : Nat}
theorem j_cl {S : Type} {post : Int64 → S → Prop} {w1 : S → va_W} (hK : va_K D classes (TY T) s) (hP : va_P D classes ws H) (hD : va_D A ws) (hS : va_S A s.heap H locs) (hA : ∀ q : Nat, s.heap.size ≤ q → A q) (isC isR : List Nat) (hC : isC.map (fun i => ws[i]?) = wc.map some) (hR : isR.map (fun i => ws[i]?) = wr.map some) (hn : va_nd isR = true) (hdis : ∀ i ∈ isR, i ∉ isC)
    (hr : va_Run p l e R s m args below meth c H locs cells slots mc ms (F0 m pc ls st0) rest (va_Ql post (fun u t => Bw D T (va_A wc H.size) (w1 u) t) (va_A wc H.size) a) (va_A wc H.size))
    (kk : ∀ (r : Int64) (u : S) (H1 : Heap) (locs1 : List Loc), post r u → va_P D classes (wr ++ w1 u) H1 → va_D A (wr ++ w1 u) → va_S A s.heap H1 locs1 → W p l e R s m args below meth c H1 locs1 (cells + mc) (slots + ms) Q (F0 m (pc + 3) ls (.long r :: rest))) : W p l e R s m args below meth c H locs cells slots Q (F0 m pc ls st0) := by
  have hF := va_free hD hS hA isC hC
  refine va_calll hr hS (fun q _ h => hF q h) hF (fun r u t H1 locs1 ht hvm hp hB hz hk hS1 => ?_)
  obtain ⟨b1, b2, b3⟩ := hB
  rw [ht] at b1
  obtain ⟨hP1, hD1⟩ := va_join hP hD isC isR hC hR hn hdis hk hF b1 b3
  exact kk r u H1 locs1 hp hP1 hD1 hS1
theorem j_lret {S : Type} {post : Int64 → S → Prop} {w1 : S → va_W} {v : Int64} (F : CallFix p m c cc nL s args gw own) (hr : meth.sig.returnType = some .long) (hlocks : meth.locks = false) (hK : va_K D classes (TY T) s) (hS : va_S A s.heap H locs) (u : S) (hp : post v u) (hP : va_P D classes (w1 u) H) (hD : va_D A (w1 u)) (hdg : decode cc pc = .ok (.lreturn, 1)) :
    W p l e R s m args below meth c H locs cells slots (MQ below (va_Ql post (fun u t => Bw D T A (w1 u) t) A) args s cells slots A) (F0 m pc ls [.long v]) :=
  W.lret F.1 F.2.1 hr (fun t ht hW => ⟨⟨v, u, rfl, hp, by rw [ht]; exact hP, va_K.moved hW.alike hK, hD⟩, hS.F ht⟩) hS.2.2 hdg
theorem j_joinH {α : Type} {g0 : JFrame} (I : α → Heap → List Loc → Array Slot → Prop) (g : α → Array Slot → JFrame) (k : ∀ (v : α) (H1 : Heap) (locs1 : List Loc) (ls1 : Array Slot), I v H1 locs1 ls1 → W p l e R s m args below meth c H1 locs1 cells slots Q (g v ls1)) (kk : (∀ (v : α) (H1 : Heap) (locs1 : List Loc) (ls1 : Array Slot), I v H1 locs1 ls1 → W p l e R s m args below meth c H1 locs1 cells slots Q (g v ls1)) → W p l e R s m args below meth c H locs cells slots Q g0) : W p l e R s m args below meth c H locs cells slots Q g0 := kk k
def isc : List Nat := [0, 1, 2, 3, 4, 5, 6, 7, 8, 9, 10, 11, 12, 13, 14, 15, 16, 17, 18, 19, 20, 21, 22, 23, 24, 25]
theorem isc_nd : va_nd isc = true := by decide +kernel
variable {h0 : Nat} {ar : Nat → Nat} {S0 : MS}
theorem isc_all : isc.map (fun i => (mW T h0 ar S0)[i]?) = (mW T h0 ar S0).map some := rfl
theorem mW_0 : (mW T h0 ar S0)[0]? = some (h0, .inr (11, mOb ar S0)) := rfl
theorem cl_11 : classes[11]? = some ("PageScribeModel", F_Mo, 45) := rfl
theorem jm_pre {av : List Value} (hK : va_K D classes (TY T) s) (hP : va_P D classes (mW T h0 ar S0) H) (hD : va_D A (mW T h0 ar S0)) : PreV s H "PageScribeModel" h0 (va_Pc (.ref h0 :: av) (Pw D T (mW T h0 ar S0) H.size E0)) av :=
  j_preV (q0 := 0) (ci := 11) hK hP hD isc isc_all isc_nd cl_11 mW_0 (fun _ _ _ _ h => h) (fun _ _ _ => trivial)
theorem jm_ci {S : Type} {post : Int32 → S → Prop} {w : S → MS} (hK : va_K D classes (TY T) s) (hP : va_P D classes (mW T h0 ar S0) H) (hD : va_D A (mW T h0 ar S0)) (hS : va_S A s.heap H locs) (hA : ∀ q : Nat, s.heap.size ≤ q → A q)
    (hr : va_Run p l e R s m args below meth c H locs cells slots mc ms (F0 m pc ls st0) rest (va_Qi post (fun u t => Bw D T (va_A (mW T h0 ar S0) H.size) (mW T h0 ar (w u)) t) (va_A (mW T h0 ar S0) H.size) a) (va_A (mW T h0 ar S0) H.size))
    (kk : ∀ (r : Int32) (u : S) (H1 : Heap) (locs1 : List Loc), post r u → va_P D classes (mW T h0 ar (w u)) H1 → va_D A (mW T h0 ar (w u)) → va_S A s.heap H1 locs1 → W p l e R s m args below meth c H1 locs1 (cells + mc) (slots + ms) Q (F0 m (pc + 3) ls (.int r :: rest))) : W p l e R s m args below meth c H locs cells slots Q (F0 m pc ls st0) :=
  j_ci (wr := []) hK hP hD hS hA isc [] isc_all rfl rfl (fun _ h => absurd h List.not_mem_nil) hr kk
theorem jm_cv {S : Type} {post : S → Prop} {w : S → MS} (hK : va_K D classes (TY T) s) (hP : va_P D classes (mW T h0 ar S0) H) (hD : va_D A (mW T h0 ar S0)) (hS : va_S A s.heap H locs) (hA : ∀ q : Nat, s.heap.size ≤ q → A q)
    (hr : va_Run p l e R s m args below meth c H locs cells slots mc ms (F0 m pc ls st0) rest (va_Qv post (fun u t => Bw D T (va_A (mW T h0 ar S0) H.size) (mW T h0 ar (w u)) t) (va_A (mW T h0 ar S0) H.size) a) (va_A (mW T h0 ar S0) H.size))
    (kk : ∀ (u : S) (H1 : Heap) (locs1 : List Loc), post u → va_P D classes (mW T h0 ar (w u)) H1 → va_D A (mW T h0 ar (w u)) → va_S A s.heap H1 locs1 → W p l e R s m args below meth c H1 locs1 (cells + mc) (slots + ms) Q (F0 m (pc + 3) ls rest)) : W p l e R s m args below meth c H locs cells slots Q (F0 m pc ls st0) :=
  j_cv (wr := []) hK hP hD hS hA isc [] isc_all rfl rfl (fun _ h => absurd h List.not_mem_nil) hr kk
theorem jm_cd {S : Type} {post : UInt64 → S → Prop} {w : S → MS} (hK : va_K D classes (TY T) s) (hP : va_P D classes (mW T h0 ar S0) H) (hD : va_D A (mW T h0 ar S0)) (hS : va_S A s.heap H locs) (hA : ∀ q : Nat, s.heap.size ≤ q → A q)
    (hr : va_Run p l e R s m args below meth c H locs cells slots mc ms (F0 m pc ls st0) rest (va_Qd post (fun u t => Bw D T (va_A (mW T h0 ar S0) H.size) (mW T h0 ar (w u)) t) (va_A (mW T h0 ar S0) H.size) a) (va_A (mW T h0 ar S0) H.size))
    (kk : ∀ (r : UInt64) (u : S) (H1 : Heap) (locs1 : List Loc), post r u → va_P D classes (mW T h0 ar (w u)) H1 → va_D A (mW T h0 ar (w u)) → va_S A s.heap H1 locs1 → W p l e R s m args below meth c H1 locs1 (cells + mc) (slots + ms) Q (F0 m (pc + 3) ls (.double r :: rest))) : W p l e R s m args below meth c H locs cells slots Q (F0 m pc ls st0) :=
  j_cd (wr := []) hK hP hD hS hA isc [] isc_all rfl rfl (fun _ h => absurd h List.not_mem_nil) hr kk
theorem jm_cl {S : Type} {post : Int64 → S → Prop} {w : S → MS} (hK : va_K D classes (TY T) s) (hP : va_P D classes (mW T h0 ar S0) H) (hD : va_D A (mW T h0 ar S0)) (hS : va_S A s.heap H locs) (hA : ∀ q : Nat, s.heap.size ≤ q → A q)
    (hr : va_Run p l e R s m args below meth c H locs cells slots mc ms (F0 m pc ls st0) rest (va_Ql post (fun u t => Bw D T (va_A (mW T h0 ar S0) H.size) (mW T h0 ar (w u)) t) (va_A (mW T h0 ar S0) H.size) a) (va_A (mW T h0 ar S0) H.size))
    (kk : ∀ (r : Int64) (u : S) (H1 : Heap) (locs1 : List Loc), post r u → va_P D classes (mW T h0 ar (w u)) H1 → va_D A (mW T h0 ar (w u)) → va_S A s.heap H1 locs1 → W p l e R s m args below meth c H1 locs1 (cells + mc) (slots + ms) Q (F0 m (pc + 3) ls (.long r :: rest))) : W p l e R s m args below meth c H locs cells slots Q (F0 m pc ls st0) :=
  j_cl (wr := []) hK hP hD hS hA isc [] isc_all rfl rfl (fun _ h => absurd h List.not_mem_nil) hr kk
end JQ
theorem mg_thrown (ar : Nat → Nat) (S : MS) : (mOb ar S)[0]? = some (.int (f_thrown S)) := rfl
theorem mp_thrown (T : Nat → ClassId) (h0 : Nat) (ar : Nat → Nat) (S : MS) (x : Int32) : (mW T h0 ar S).set 0 (h0, .inr (11, (mOb ar S).set 0 (.int x))) = mW T h0 ar (((x, (a_kinds S), (a_codes S), (a_reals S), (f_size S), (f_taken S), (a_words S), (a_many S)), S.2.1, S.2.2.1, S.2.2.2.1, S.2.2.2.2.1, S.2.2.2.2.2) : MS) := rfl
theorem mg_kinds (ar : Nat → Nat) (S : MS) : (mOb ar S)[1]? = some (.ref (ar 0)) := rfl
theorem ma_kinds (T : Nat → ClassId) (h0 : Nat) (ar : Nat → Nat) (S : MS) : (mW T h0 ar S)[1]? = some (ar 0, .inl (T 0, 1300, .inl (a_kinds S))) := rfl
theorem ms_kinds (T : Nat → ClassId) (h0 : Nat) (ar : Nat → Nat) (S : MS) (x : Nat → Int32) : (mW T h0 ar S).set 1 (ar 0, .inl (T 0, 1300, .inl x)) = mW T h0 ar ((((f_thrown S), x, (a_codes S), (a_reals S), (f_size S), (f_taken S), (a_words S), (a_many S)), S.2.1, S.2.2.1, S.2.2.2.1, S.2.2.2.2.1, S.2.2.2.2.2) : MS) := rfl
theorem mg_codes (ar : Nat → Nat) (S : MS) : (mOb ar S)[2]? = some (.ref (ar 1)) := rfl
theorem ma_codes (T : Nat → ClassId) (h0 : Nat) (ar : Nat → Nat) (S : MS) : (mW T h0 ar S)[2]? = some (ar 1, .inl (T 1, 1300, .inr (.inl (a_codes S)))) := rfl
theorem ms_codes (T : Nat → ClassId) (h0 : Nat) (ar : Nat → Nat) (S : MS) (x : Nat → Int64) : (mW T h0 ar S).set 2 (ar 1, .inl (T 1, 1300, .inr (.inl x))) = mW T h0 ar ((((f_thrown S), (a_kinds S), x, (a_reals S), (f_size S), (f_taken S), (a_words S), (a_many S)), S.2.1, S.2.2.1, S.2.2.2.1, S.2.2.2.2.1, S.2.2.2.2.2) : MS) := rfl
theorem mg_reals (ar : Nat → Nat) (S : MS) : (mOb ar S)[3]? = some (.ref (ar 2)) := rfl
theorem ma_reals (T : Nat → ClassId) (h0 : Nat) (ar : Nat → Nat) (S : MS) : (mW T h0 ar S)[3]? = some (ar 2, .inl (T 3, 1300, .inr (.inr (.inr (.inl (a_reals S)))))) := rfl
theorem ms_reals (T : Nat → ClassId) (h0 : Nat) (ar : Nat → Nat) (S : MS) (x : Nat → UInt64) : (mW T h0 ar S).set 3 (ar 2, .inl (T 3, 1300, .inr (.inr (.inr (.inl x))))) = mW T h0 ar ((((f_thrown S), (a_kinds S), (a_codes S), x, (f_size S), (f_taken S), (a_words S), (a_many S)), S.2.1, S.2.2.1, S.2.2.2.1, S.2.2.2.2.1, S.2.2.2.2.2) : MS) := rfl
theorem mg_size (ar : Nat → Nat) (S : MS) : (mOb ar S)[4]? = some (.int (f_size S)) := rfl
theorem mp_size (T : Nat → ClassId) (h0 : Nat) (ar : Nat → Nat) (S : MS) (x : Int32) : (mW T h0 ar S).set 0 (h0, .inr (11, (mOb ar S).set 4 (.int x))) = mW T h0 ar ((((f_thrown S), (a_kinds S), (a_codes S), (a_reals S), x, (f_taken S), (a_words S), (a_many S)), S.2.1, S.2.2.1, S.2.2.2.1, S.2.2.2.2.1, S.2.2.2.2.2) : MS) := rfl
theorem mg_taken (ar : Nat → Nat) (S : MS) : (mOb ar S)[5]? = some (.int (f_taken S)) := rfl
theorem mp_taken (T : Nat → ClassId) (h0 : Nat) (ar : Nat → Nat) (S : MS) (x : Int32) : (mW T h0 ar S).set 0 (h0, .inr (11, (mOb ar S).set 5 (.int x))) = mW T h0 ar ((((f_thrown S), (a_kinds S), (a_codes S), (a_reals S), (f_size S), x, (a_words S), (a_many S)), S.2.1, S.2.2.1, S.2.2.2.1, S.2.2.2.2.1, S.2.2.2.2.2) : MS) := rfl
theorem mg_words (ar : Nat → Nat) (S : MS) : (mOb ar S)[6]? = some (.ref (ar 3)) := rfl
theorem ma_words (T : Nat → ClassId) (h0 : Nat) (ar : Nat → Nat) (S : MS) : (mW T h0 ar S)[4]? = some (ar 3, .inl (T 1, 320, .inr (.inl (a_words S)))) := rfl
theorem ms_words (T : Nat → ClassId) (h0 : Nat) (ar : Nat → Nat) (S : MS) (x : Nat → Int64) : (mW T h0 ar S).set 4 (ar 3, .inl (T 1, 320, .inr (.inl x))) = mW T h0 ar ((((f_thrown S), (a_kinds S), (a_codes S), (a_reals S), (f_size S), (f_taken S), x, (a_many S)), S.2.1, S.2.2.1, S.2.2.2.1, S.2.2.2.2.1, S.2.2.2.2.2) : MS) := rfl
theorem mg_many (ar : Nat → Nat) (S : MS) : (mOb ar S)[7]? = some (.ref (ar 4)) := rfl
theorem ma_many (T : Nat → ClassId) (h0 : Nat) (ar : Nat → Nat) (S : MS) : (mW T h0 ar S)[5]? = some (ar 4, .inl (T 0, 28, .inl (a_many S))) := rfl
theorem ms_many (T : Nat → ClassId) (h0 : Nat) (ar : Nat → Nat) (S : MS) (x : Nat → Int32) : (mW T h0 ar S).set 5 (ar 4, .inl (T 0, 28, .inl x)) = mW T h0 ar ((((f_thrown S), (a_kinds S), (a_codes S), (a_reals S), (f_size S), (f_taken S), (a_words S), x), S.2.1, S.2.2.1, S.2.2.2.1, S.2.2.2.2.1, S.2.2.2.2.2) : MS) := rfl
theorem mg_room (ar : Nat → Nat) (S : MS) : (mOb ar S)[8]? = some (.ref (ar 5)) := rfl
theorem ma_room (T : Nat → ClassId) (h0 : Nat) (ar : Nat → Nat) (S : MS) : (mW T h0 ar S)[6]? = some (ar 5, .inl (T 0, 28, .inl (a_room S))) := rfl
theorem ms_room (T : Nat → ClassId) (h0 : Nat) (ar : Nat → Nat) (S : MS) (x : Nat → Int32) : (mW T h0 ar S).set 6 (ar 5, .inl (T 0, 28, .inl x)) = mW T h0 ar ((S.1, (x, (a_dicts S), (f_deep S), (f_saves S), (f_open S), (a_numbers S), (a_cells S), (f_frames S)), S.2.2.1, S.2.2.2.1, S.2.2.2.2.1, S.2.2.2.2.2) : MS) := rfl
theorem mg_dicts (ar : Nat → Nat) (S : MS) : (mOb ar S)[9]? = some (.ref (ar 6)) := rfl
theorem ma_dicts (T : Nat → ClassId) (h0 : Nat) (ar : Nat → Nat) (S : MS) : (mW T h0 ar S)[7]? = some (ar 6, .inl (T 0, 6, .inl (a_dicts S))) := rfl
theorem ms_dicts (T : Nat → ClassId) (h0 : Nat) (ar : Nat → Nat) (S : MS) (x : Nat → Int32) : (mW T h0 ar S).set 7 (ar 6, .inl (T 0, 6, .inl x)) = mW T h0 ar ((S.1, ((a_room S), x, (f_deep S), (f_saves S), (f_open S), (a_numbers S), (a_cells S), (f_frames S)), S.2.2.1, S.2.2.2.1, S.2.2.2.2.1, S.2.2.2.2.2) : MS) := rfl
theorem mg_deep (ar : Nat → Nat) (S : MS) : (mOb ar S)[10]? = some (.int (f_deep S)) := rfl
theorem mp_deep (T : Nat → ClassId) (h0 : Nat) (ar : Nat → Nat) (S : MS) (x : Int32) : (mW T h0 ar S).set 0 (h0, .inr (11, (mOb ar S).set 10 (.int x))) = mW T h0 ar ((S.1, ((a_room S), (a_dicts S), x, (f_saves S), (f_open S), (a_numbers S), (a_cells S), (f_frames S)), S.2.2.1, S.2.2.2.1, S.2.2.2.2.1, S.2.2.2.2.2) : MS) := rfl
theorem mg_saves (ar : Nat → Nat) (S : MS) : (mOb ar S)[11]? = some (.int (f_saves S)) := rfl
theorem mp_saves (T : Nat → ClassId) (h0 : Nat) (ar : Nat → Nat) (S : MS) (x : Int32) : (mW T h0 ar S).set 0 (h0, .inr (11, (mOb ar S).set 11 (.int x))) = mW T h0 ar ((S.1, ((a_room S), (a_dicts S), (f_deep S), x, (f_open S), (a_numbers S), (a_cells S), (f_frames S)), S.2.2.1, S.2.2.2.1, S.2.2.2.2.1, S.2.2.2.2.2) : MS) := rfl
theorem mg_open (ar : Nat → Nat) (S : MS) : (mOb ar S)[12]? = some (.int (f_open S)) := rfl
theorem mp_open (T : Nat → ClassId) (h0 : Nat) (ar : Nat → Nat) (S : MS) (x : Int32) : (mW T h0 ar S).set 0 (h0, .inr (11, (mOb ar S).set 12 (.int x))) = mW T h0 ar ((S.1, ((a_room S), (a_dicts S), (f_deep S), (f_saves S), x, (a_numbers S), (a_cells S), (f_frames S)), S.2.2.1, S.2.2.2.1, S.2.2.2.2.1, S.2.2.2.2.2) : MS) := rfl
theorem mg_numbers (ar : Nat → Nat) (S : MS) : (mOb ar S)[13]? = some (.ref (ar 7)) := rfl
theorem ma_numbers (T : Nat → ClassId) (h0 : Nat) (ar : Nat → Nat) (S : MS) : (mW T h0 ar S)[8]? = some (ar 7, .inl (T 0, 3, .inl (a_numbers S))) := rfl
theorem ms_numbers (T : Nat → ClassId) (h0 : Nat) (ar : Nat → Nat) (S : MS) (x : Nat → Int32) : (mW T h0 ar S).set 8 (ar 7, .inl (T 0, 3, .inl x)) = mW T h0 ar ((S.1, ((a_room S), (a_dicts S), (f_deep S), (f_saves S), (f_open S), x, (a_cells S), (f_frames S)), S.2.2.1, S.2.2.2.1, S.2.2.2.2.1, S.2.2.2.2.2) : MS) := rfl
theorem mg_cells (ar : Nat → Nat) (S : MS) : (mOb ar S)[14]? = some (.ref (ar 8)) := rfl
theorem ma_cells (T : Nat → ClassId) (h0 : Nat) (ar : Nat → Nat) (S : MS) : (mW T h0 ar S)[9]? = some (ar 8, .inl (T 0, 3, .inl (a_cells S))) := rfl
theorem ms_cells (T : Nat → ClassId) (h0 : Nat) (ar : Nat → Nat) (S : MS) (x : Nat → Int32) : (mW T h0 ar S).set 9 (ar 8, .inl (T 0, 3, .inl x)) = mW T h0 ar ((S.1, ((a_room S), (a_dicts S), (f_deep S), (f_saves S), (f_open S), (a_numbers S), x, (f_frames S)), S.2.2.1, S.2.2.2.1, S.2.2.2.2.1, S.2.2.2.2.2) : MS) := rfl
theorem mg_frames (ar : Nat → Nat) (S : MS) : (mOb ar S)[15]? = some (.int (f_frames S)) := rfl
theorem mp_frames (T : Nat → ClassId) (h0 : Nat) (ar : Nat → Nat) (S : MS) (x : Int32) : (mW T h0 ar S).set 0 (h0, .inr (11, (mOb ar S).set 15 (.int x))) = mW T h0 ar ((S.1, ((a_room S), (a_dicts S), (f_deep S), (f_saves S), (f_open S), (a_numbers S), (a_cells S), x), S.2.2.1, S.2.2.2.1, S.2.2.2.2.1, S.2.2.2.2.2) : MS) := rfl
theorem mg_under (ar : Nat → Nat) (S : MS) : (mOb ar S)[16]? = some (.int (f_under S)) := rfl
theorem mp_under (T : Nat → ClassId) (h0 : Nat) (ar : Nat → Nat) (S : MS) (x : Int32) : (mW T h0 ar S).set 0 (h0, .inr (11, (mOb ar S).set 16 (.int x))) = mW T h0 ar ((S.1, S.2.1, (x, (a_what S), (a_array S), (a_far S), (a_value S), (a_grows S), (a_last S), (a_text S)), S.2.2.2.1, S.2.2.2.2.1, S.2.2.2.2.2) : MS) := rfl
theorem mg_what (ar : Nat → Nat) (S : MS) : (mOb ar S)[17]? = some (.ref (ar 9)) := rfl
theorem ma_what (T : Nat → ClassId) (h0 : Nat) (ar : Nat → Nat) (S : MS) : (mW T h0 ar S)[10]? = some (ar 9, .inl (T 0, 560, .inl (a_what S))) := rfl
theorem ms_what (T : Nat → ClassId) (h0 : Nat) (ar : Nat → Nat) (S : MS) (x : Nat → Int32) : (mW T h0 ar S).set 10 (ar 9, .inl (T 0, 560, .inl x)) = mW T h0 ar ((S.1, S.2.1, ((f_under S), x, (a_array S), (a_far S), (a_value S), (a_grows S), (a_last S), (a_text S)), S.2.2.2.1, S.2.2.2.2.1, S.2.2.2.2.2) : MS) := rfl
theorem mg_array (ar : Nat → Nat) (S : MS) : (mOb ar S)[18]? = some (.ref (ar 10)) := rfl
theorem ma_array (T : Nat → ClassId) (h0 : Nat) (ar : Nat → Nat) (S : MS) : (mW T h0 ar S)[11]? = some (ar 10, .inl (T 1, 560, .inr (.inl (a_array S)))) := rfl
theorem ms_array (T : Nat → ClassId) (h0 : Nat) (ar : Nat → Nat) (S : MS) (x : Nat → Int64) : (mW T h0 ar S).set 11 (ar 10, .inl (T 1, 560, .inr (.inl x))) = mW T h0 ar ((S.1, S.2.1, ((f_under S), (a_what S), x, (a_far S), (a_value S), (a_grows S), (a_last S), (a_text S)), S.2.2.2.1, S.2.2.2.2.1, S.2.2.2.2.2) : MS) := rfl
theorem mg_far (ar : Nat → Nat) (S : MS) : (mOb ar S)[19]? = some (.ref (ar 11)) := rfl
theorem ma_far (T : Nat → ClassId) (h0 : Nat) (ar : Nat → Nat) (S : MS) : (mW T h0 ar S)[12]? = some (ar 11, .inl (T 0, 560, .inl (a_far S))) := rfl
theorem ms_far (T : Nat → ClassId) (h0 : Nat) (ar : Nat → Nat) (S : MS) (x : Nat → Int32) : (mW T h0 ar S).set 12 (ar 11, .inl (T 0, 560, .inl x)) = mW T h0 ar ((S.1, S.2.1, ((f_under S), (a_what S), (a_array S), x, (a_value S), (a_grows S), (a_last S), (a_text S)), S.2.2.2.1, S.2.2.2.2.1, S.2.2.2.2.2) : MS) := rfl
theorem mg_value (ar : Nat → Nat) (S : MS) : (mOb ar S)[20]? = some (.ref (ar 12)) := rfl
theorem ma_value (T : Nat → ClassId) (h0 : Nat) (ar : Nat → Nat) (S : MS) : (mW T h0 ar S)[13]? = some (ar 12, .inl (T 1, 560, .inr (.inl (a_value S)))) := rfl
theorem ms_value (T : Nat → ClassId) (h0 : Nat) (ar : Nat → Nat) (S : MS) (x : Nat → Int64) : (mW T h0 ar S).set 13 (ar 12, .inl (T 1, 560, .inr (.inl x))) = mW T h0 ar ((S.1, S.2.1, ((f_under S), (a_what S), (a_array S), (a_far S), x, (a_grows S), (a_last S), (a_text S)), S.2.2.2.1, S.2.2.2.2.1, S.2.2.2.2.2) : MS) := rfl
theorem mg_grows (ar : Nat → Nat) (S : MS) : (mOb ar S)[21]? = some (.ref (ar 13)) := rfl
theorem ma_grows (T : Nat → ClassId) (h0 : Nat) (ar : Nat → Nat) (S : MS) : (mW T h0 ar S)[14]? = some (ar 13, .inl (T 1, 560, .inr (.inl (a_grows S)))) := rfl
theorem ms_grows (T : Nat → ClassId) (h0 : Nat) (ar : Nat → Nat) (S : MS) (x : Nat → Int64) : (mW T h0 ar S).set 14 (ar 13, .inl (T 1, 560, .inr (.inl x))) = mW T h0 ar ((S.1, S.2.1, ((f_under S), (a_what S), (a_array S), (a_far S), (a_value S), x, (a_last S), (a_text S)), S.2.2.2.1, S.2.2.2.2.1, S.2.2.2.2.2) : MS) := rfl
theorem mg_last (ar : Nat → Nat) (S : MS) : (mOb ar S)[22]? = some (.ref (ar 14)) := rfl
theorem ma_last (T : Nat → ClassId) (h0 : Nat) (ar : Nat → Nat) (S : MS) : (mW T h0 ar S)[15]? = some (ar 14, .inl (T 1, 560, .inr (.inl (a_last S)))) := rfl
theorem ms_last (T : Nat → ClassId) (h0 : Nat) (ar : Nat → Nat) (S : MS) (x : Nat → Int64) : (mW T h0 ar S).set 15 (ar 14, .inl (T 1, 560, .inr (.inl x))) = mW T h0 ar ((S.1, S.2.1, ((f_under S), (a_what S), (a_array S), (a_far S), (a_value S), (a_grows S), x, (a_text S)), S.2.2.2.1, S.2.2.2.2.1, S.2.2.2.2.2) : MS) := rfl
theorem mg_text (ar : Nat → Nat) (S : MS) : (mOb ar S)[23]? = some (.ref (ar 15)) := rfl
theorem ma_text (T : Nat → ClassId) (h0 : Nat) (ar : Nat → Nat) (S : MS) : (mW T h0 ar S)[16]? = some (ar 15, .inl (T 2, 120, .inl (a_text S))) := rfl
theorem ms_text (T : Nat → ClassId) (h0 : Nat) (ar : Nat → Nat) (S : MS) (x : Nat → Int32) : (mW T h0 ar S).set 16 (ar 15, .inl (T 2, 120, .inl x)) = mW T h0 ar ((S.1, S.2.1, ((f_under S), (a_what S), (a_array S), (a_far S), (a_value S), (a_grows S), (a_last S), x), S.2.2.2.1, S.2.2.2.2.1, S.2.2.2.2.2) : MS) := rfl
theorem mg_length (ar : Nat → Nat) (S : MS) : (mOb ar S)[24]? = some (.int (f_length S)) := rfl
theorem mp_length (T : Nat → ClassId) (h0 : Nat) (ar : Nat → Nat) (S : MS) (x : Int32) : (mW T h0 ar S).set 0 (h0, .inr (11, (mOb ar S).set 24 (.int x))) = mW T h0 ar ((S.1, S.2.1, S.2.2.1, (x, (f_at S), (f_pending S), (f_level S), (a_starts S), (a_known S), (f_knows S), (f_fuel S)), S.2.2.2.2.1, S.2.2.2.2.2) : MS) := rfl
theorem mg_at (ar : Nat → Nat) (S : MS) : (mOb ar S)[25]? = some (.int (f_at S)) := rfl
theorem mp_at (T : Nat → ClassId) (h0 : Nat) (ar : Nat → Nat) (S : MS) (x : Int32) : (mW T h0 ar S).set 0 (h0, .inr (11, (mOb ar S).set 25 (.int x))) = mW T h0 ar ((S.1, S.2.1, S.2.2.1, ((f_length S), x, (f_pending S), (f_level S), (a_starts S), (a_known S), (f_knows S), (f_fuel S)), S.2.2.2.2.1, S.2.2.2.2.2) : MS) := rfl
theorem mg_pending (ar : Nat → Nat) (S : MS) : (mOb ar S)[26]? = some (.int (f_pending S)) := rfl
theorem mp_pending (T : Nat → ClassId) (h0 : Nat) (ar : Nat → Nat) (S : MS) (x : Int32) : (mW T h0 ar S).set 0 (h0, .inr (11, (mOb ar S).set 26 (.int x))) = mW T h0 ar ((S.1, S.2.1, S.2.2.1, ((f_length S), (f_at S), x, (f_level S), (a_starts S), (a_known S), (f_knows S), (f_fuel S)), S.2.2.2.2.1, S.2.2.2.2.2) : MS) := rfl
theorem mg_level (ar : Nat → Nat) (S : MS) : (mOb ar S)[27]? = some (.int (f_level S)) := rfl
theorem mp_level (T : Nat → ClassId) (h0 : Nat) (ar : Nat → Nat) (S : MS) (x : Int32) : (mW T h0 ar S).set 0 (h0, .inr (11, (mOb ar S).set 27 (.int x))) = mW T h0 ar ((S.1, S.2.1, S.2.2.1, ((f_length S), (f_at S), (f_pending S), x, (a_starts S), (a_known S), (f_knows S), (f_fuel S)), S.2.2.2.2.1, S.2.2.2.2.2) : MS) := rfl
theorem mg_starts (ar : Nat → Nat) (S : MS) : (mOb ar S)[28]? = some (.ref (ar 16)) := rfl
theorem ma_starts (T : Nat → ClassId) (h0 : Nat) (ar : Nat → Nat) (S : MS) : (mW T h0 ar S)[17]? = some (ar 16, .inl (T 0, 4, .inl (a_starts S))) := rfl
theorem ms_starts (T : Nat → ClassId) (h0 : Nat) (ar : Nat → Nat) (S : MS) (x : Nat → Int32) : (mW T h0 ar S).set 17 (ar 16, .inl (T 0, 4, .inl x)) = mW T h0 ar ((S.1, S.2.1, S.2.2.1, ((f_length S), (f_at S), (f_pending S), (f_level S), x, (a_known S), (f_knows S), (f_fuel S)), S.2.2.2.2.1, S.2.2.2.2.2) : MS) := rfl
theorem mg_known (ar : Nat → Nat) (S : MS) : (mOb ar S)[29]? = some (.ref (ar 17)) := rfl
theorem ma_known (T : Nat → ClassId) (h0 : Nat) (ar : Nat → Nat) (S : MS) : (mW T h0 ar S)[18]? = some (ar 17, .inl (T 1, 40, .inr (.inl (a_known S)))) := rfl
theorem ms_known (T : Nat → ClassId) (h0 : Nat) (ar : Nat → Nat) (S : MS) (x : Nat → Int64) : (mW T h0 ar S).set 18 (ar 17, .inl (T 1, 40, .inr (.inl x))) = mW T h0 ar ((S.1, S.2.1, S.2.2.1, ((f_length S), (f_at S), (f_pending S), (f_level S), (a_starts S), x, (f_knows S), (f_fuel S)), S.2.2.2.2.1, S.2.2.2.2.2) : MS) := rfl
theorem mg_knows (ar : Nat → Nat) (S : MS) : (mOb ar S)[30]? = some (.int (f_knows S)) := rfl
theorem mp_knows (T : Nat → ClassId) (h0 : Nat) (ar : Nat → Nat) (S : MS) (x : Int32) : (mW T h0 ar S).set 0 (h0, .inr (11, (mOb ar S).set 30 (.int x))) = mW T h0 ar ((S.1, S.2.1, S.2.2.1, ((f_length S), (f_at S), (f_pending S), (f_level S), (a_starts S), (a_known S), x, (f_fuel S)), S.2.2.2.2.1, S.2.2.2.2.2) : MS) := rfl
theorem mg_fuel (ar : Nat → Nat) (S : MS) : (mOb ar S)[31]? = some (.int (f_fuel S)) := rfl
theorem mp_fuel (T : Nat → ClassId) (h0 : Nat) (ar : Nat → Nat) (S : MS) (x : Int32) : (mW T h0 ar S).set 0 (h0, .inr (11, (mOb ar S).set 31 (.int x))) = mW T h0 ar ((S.1, S.2.1, S.2.2.1, ((f_length S), (f_at S), (f_pending S), (f_level S), (a_starts S), (a_known S), (f_knows S), x), S.2.2.2.2.1, S.2.2.2.2.2) : MS) := rfl
theorem mg_steps (ar : Nat → Nat) (S : MS) : (mOb ar S)[32]? = some (.int (f_steps S)) := rfl
theorem mp_steps (T : Nat → ClassId) (h0 : Nat) (ar : Nat → Nat) (S : MS) (x : Int32) : (mW T h0 ar S).set 0 (h0, .inr (11, (mOb ar S).set 32 (.int x))) = mW T h0 ar ((S.1, S.2.1, S.2.2.1, S.2.2.2.1, (x, (f_failure S), (f_columns S), (f_rows S), (a_pixels S), (f_gray S), (a_across S), (a_along S)), S.2.2.2.2.2) : MS) := rfl
theorem mg_failure (ar : Nat → Nat) (S : MS) : (mOb ar S)[33]? = some (.int (f_failure S)) := rfl
theorem mp_failure (T : Nat → ClassId) (h0 : Nat) (ar : Nat → Nat) (S : MS) (x : Int32) : (mW T h0 ar S).set 0 (h0, .inr (11, (mOb ar S).set 33 (.int x))) = mW T h0 ar ((S.1, S.2.1, S.2.2.1, S.2.2.2.1, ((f_steps S), x, (f_columns S), (f_rows S), (a_pixels S), (f_gray S), (a_across S), (a_along S)), S.2.2.2.2.2) : MS) := rfl
theorem mg_columns (ar : Nat → Nat) (S : MS) : (mOb ar S)[34]? = some (.int (f_columns S)) := rfl
theorem mp_columns (T : Nat → ClassId) (h0 : Nat) (ar : Nat → Nat) (S : MS) (x : Int32) : (mW T h0 ar S).set 0 (h0, .inr (11, (mOb ar S).set 34 (.int x))) = mW T h0 ar ((S.1, S.2.1, S.2.2.1, S.2.2.2.1, ((f_steps S), (f_failure S), x, (f_rows S), (a_pixels S), (f_gray S), (a_across S), (a_along S)), S.2.2.2.2.2) : MS) := rfl
theorem mg_rows (ar : Nat → Nat) (S : MS) : (mOb ar S)[35]? = some (.int (f_rows S)) := rfl
theorem mp_rows (T : Nat → ClassId) (h0 : Nat) (ar : Nat → Nat) (S : MS) (x : Int32) : (mW T h0 ar S).set 0 (h0, .inr (11, (mOb ar S).set 35 (.int x))) = mW T h0 ar ((S.1, S.2.1, S.2.2.1, S.2.2.2.1, ((f_steps S), (f_failure S), (f_columns S), x, (a_pixels S), (f_gray S), (a_across S), (a_along S)), S.2.2.2.2.2) : MS) := rfl
theorem mg_pixels (ar : Nat → Nat) (S : MS) : (mOb ar S)[36]? = some (.ref (ar 18)) := rfl
theorem ma_pixels (T : Nat → ClassId) (h0 : Nat) (ar : Nat → Nat) (S : MS) : (mW T h0 ar S)[19]? = some (ar 18, .inl (T 0, 384, .inl (a_pixels S))) := rfl
theorem ms_pixels (T : Nat → ClassId) (h0 : Nat) (ar : Nat → Nat) (S : MS) (x : Nat → Int32) : (mW T h0 ar S).set 19 (ar 18, .inl (T 0, 384, .inl x)) = mW T h0 ar ((S.1, S.2.1, S.2.2.1, S.2.2.2.1, ((f_steps S), (f_failure S), (f_columns S), (f_rows S), x, (f_gray S), (a_across S), (a_along S)), S.2.2.2.2.2) : MS) := rfl
theorem mg_gray (ar : Nat → Nat) (S : MS) : (mOb ar S)[37]? = some (.float (f_gray S)) := rfl
theorem mp_gray (T : Nat → ClassId) (h0 : Nat) (ar : Nat → Nat) (S : MS) (x : UInt32) : (mW T h0 ar S).set 0 (h0, .inr (11, (mOb ar S).set 37 (.float x))) = mW T h0 ar ((S.1, S.2.1, S.2.2.1, S.2.2.2.1, ((f_steps S), (f_failure S), (f_columns S), (f_rows S), (a_pixels S), x, (a_across S), (a_along S)), S.2.2.2.2.2) : MS) := rfl
theorem mg_across (ar : Nat → Nat) (S : MS) : (mOb ar S)[38]? = some (.ref (ar 19)) := rfl
theorem ma_across (T : Nat → ClassId) (h0 : Nat) (ar : Nat → Nat) (S : MS) : (mW T h0 ar S)[20]? = some (ar 19, .inl (T 3, 30, .inr (.inr (.inr (.inl (a_across S)))))) := rfl
theorem ms_across (T : Nat → ClassId) (h0 : Nat) (ar : Nat → Nat) (S : MS) (x : Nat → UInt64) : (mW T h0 ar S).set 20 (ar 19, .inl (T 3, 30, .inr (.inr (.inr (.inl x))))) = mW T h0 ar ((S.1, S.2.1, S.2.2.1, S.2.2.2.1, ((f_steps S), (f_failure S), (f_columns S), (f_rows S), (a_pixels S), (f_gray S), x, (a_along S)), S.2.2.2.2.2) : MS) := rfl
theorem mg_along (ar : Nat → Nat) (S : MS) : (mOb ar S)[39]? = some (.ref (ar 20)) := rfl
theorem ma_along (T : Nat → ClassId) (h0 : Nat) (ar : Nat → Nat) (S : MS) : (mW T h0 ar S)[21]? = some (ar 20, .inl (T 3, 30, .inr (.inr (.inr (.inl (a_along S)))))) := rfl
theorem ms_along (T : Nat → ClassId) (h0 : Nat) (ar : Nat → Nat) (S : MS) (x : Nat → UInt64) : (mW T h0 ar S).set 21 (ar 20, .inl (T 3, 30, .inr (.inr (.inr (.inl x))))) = mW T h0 ar ((S.1, S.2.1, S.2.2.1, S.2.2.2.1, ((f_steps S), (f_failure S), (f_columns S), (f_rows S), (a_pixels S), (f_gray S), (a_across S), x), S.2.2.2.2.2) : MS) := rfl
theorem mg_part (ar : Nat → Nat) (S : MS) : (mOb ar S)[40]? = some (.ref (ar 21)) := rfl
theorem ma_part (T : Nat → ClassId) (h0 : Nat) (ar : Nat → Nat) (S : MS) : (mW T h0 ar S)[22]? = some (ar 21, .inl (T 0, 30, .inl (a_part S))) := rfl
theorem ms_part (T : Nat → ClassId) (h0 : Nat) (ar : Nat → Nat) (S : MS) (x : Nat → Int32) : (mW T h0 ar S).set 22 (ar 21, .inl (T 0, 30, .inl x)) = mW T h0 ar ((S.1, S.2.1, S.2.2.1, S.2.2.2.1, S.2.2.2.2.1, (x, (f_points S), (a_patterns S), (a_early S), (a_late S))) : MS) := rfl
theorem mg_points (ar : Nat → Nat) (S : MS) : (mOb ar S)[41]? = some (.int (f_points S)) := rfl
theorem mp_points (T : Nat → ClassId) (h0 : Nat) (ar : Nat → Nat) (S : MS) (x : Int32) : (mW T h0 ar S).set 0 (h0, .inr (11, (mOb ar S).set 41 (.int x))) = mW T h0 ar ((S.1, S.2.1, S.2.2.1, S.2.2.2.1, S.2.2.2.2.1, ((a_part S), x, (a_patterns S), (a_early S), (a_late S))) : MS) := rfl
theorem mg_patterns (ar : Nat → Nat) (S : MS) : (mOb ar S)[42]? = some (.ref (ar 22)) := rfl
theorem ma_patterns (T : Nat → ClassId) (h0 : Nat) (ar : Nat → Nat) (S : MS) : (mW T h0 ar S)[23]? = some (ar 22, .inl (T 0, 33, .inl (a_patterns S))) := rfl
theorem ms_patterns (T : Nat → ClassId) (h0 : Nat) (ar : Nat → Nat) (S : MS) (x : Nat → Int32) : (mW T h0 ar S).set 23 (ar 22, .inl (T 0, 33, .inl x)) = mW T h0 ar ((S.1, S.2.1, S.2.2.1, S.2.2.2.1, S.2.2.2.2.1, ((a_part S), (f_points S), x, (a_early S), (a_late S))) : MS) := rfl
theorem mg_early (ar : Nat → Nat) (S : MS) : (mOb ar S)[43]? = some (.ref (ar 23)) := rfl
theorem ma_early (T : Nat → ClassId) (h0 : Nat) (ar : Nat → Nat) (S : MS) : (mW T h0 ar S)[24]? = some (ar 23, .inl (T 1, 35, .inr (.inl (a_early S)))) := rfl
theorem ms_early (T : Nat → ClassId) (h0 : Nat) (ar : Nat → Nat) (S : MS) (x : Nat → Int64) : (mW T h0 ar S).set 24 (ar 23, .inl (T 1, 35, .inr (.inl x))) = mW T h0 ar ((S.1, S.2.1, S.2.2.1, S.2.2.2.1, S.2.2.2.2.1, ((a_part S), (f_points S), (a_patterns S), x, (a_late S))) : MS) := rfl
theorem mg_late (ar : Nat → Nat) (S : MS) : (mOb ar S)[44]? = some (.ref (ar 24)) := rfl
theorem ma_late (T : Nat → ClassId) (h0 : Nat) (ar : Nat → Nat) (S : MS) : (mW T h0 ar S)[25]? = some (ar 24, .inl (T 1, 35, .inr (.inl (a_late S)))) := rfl
theorem ms_late (T : Nat → ClassId) (h0 : Nat) (ar : Nat → Nat) (S : MS) (x : Nat → Int64) : (mW T h0 ar S).set 25 (ar 24, .inl (T 1, 35, .inr (.inl x))) = mW T h0 ar ((S.1, S.2.1, S.2.2.1, S.2.2.2.1, S.2.2.2.2.1, ((a_part S), (f_points S), (a_patterns S), (a_early S), x)) : MS) := rfl
