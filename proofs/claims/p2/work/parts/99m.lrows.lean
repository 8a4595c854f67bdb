/-! THE LAW'S WORLD: the out arrays, the class' cells, the model's -/
abbrev lW (T : Nat → ClassId) (ad : Nat → Nat) (Sc : CS) (h0 : Nat) (ar : Nat → Nat) (Sm : MS) (oj od : Nat × va_E) : va_W := oj :: od :: (cW T ad Sc ++ mW T h0 ar Sm)
def lcL : List Nat := [2, 3, 4, 5, 6, 7, 8, 9, 10, 11, 12, 13, 14, 15, 16, 17, 18, 19, 20, 21, 22, 23, 24, 25, 26, 27, 28, 29, 30, 31, 32, 33, 34, 35, 36, 37, 38, 39, 40, 41, 42, 43, 44, 45, 46, 47, 48, 49, 50, 51, 52, 53, 54, 55, 56, 57, 58, 59, 60, 61, 62, 63, 64, 65, 66, 67, 68, 69, 70, 71, 72, 73, 74, 75, 76]
theorem lc_nd : va_nd lcL = true := by decide +kernel
def lcrL : List Nat := [0, 1, 77, 78, 79, 80, 81, 82, 83, 84, 85, 86, 87, 88, 89, 90, 91, 92, 93, 94, 95, 96, 97, 98, 99, 100, 101, 102]
theorem lcr_nd : va_nd lcrL = true := by decide +kernel
def lmL : List Nat := [77, 78, 79, 80, 81, 82, 83, 84, 85, 86, 87, 88, 89, 90, 91, 92, 93, 94, 95, 96, 97, 98, 99, 100, 101, 102]
theorem lm_nd : va_nd lmL = true := by decide +kernel
def lmrL : List Nat := [0, 1, 2, 3, 4, 5, 6, 7, 8, 9, 10, 11, 12, 13, 14, 15, 16, 17, 18, 19, 20, 21, 22, 23, 24, 25, 26, 27, 28, 29, 30, 31, 32, 33, 34, 35, 36, 37, 38, 39, 40, 41, 42, 43, 44, 45, 46, 47, 48, 49, 50, 51, 52, 53, 54, 55, 56, 57, 58, 59, 60, 61, 62, 63, 64, 65, 66, 67, 68, 69, 70, 71, 72, 73, 74, 75, 76]
theorem lmr_nd : va_nd lmrL = true := by decide +kernel
def ljL : List Nat := [0, 2, 3, 4, 5, 6, 7, 8, 9, 10, 11, 12, 13, 14, 15, 16, 17, 18, 19, 20, 21, 22, 23, 24, 25, 26, 27, 28, 29, 30, 31, 32, 33, 34, 35, 36, 37, 38, 39, 40, 41, 42, 43, 44, 45, 46, 47, 48, 49, 50, 51, 52, 53, 54, 55, 56, 57, 58, 59, 60, 61, 62, 63, 64, 65, 66, 67, 68, 69, 70, 71, 72, 73, 74, 75, 76]
theorem lj_nd : va_nd ljL = true := by decide +kernel
def ljrL : List Nat := [1, 77, 78, 79, 80, 81, 82, 83, 84, 85, 86, 87, 88, 89, 90, 91, 92, 93, 94, 95, 96, 97, 98, 99, 100, 101, 102]
theorem ljr_nd : va_nd ljrL = true := by decide +kernel
def ldL : List Nat := [1, 2, 3, 4, 5, 6, 7, 8, 9, 10, 11, 12, 13, 14, 15, 16, 17, 18, 19, 20, 21, 22, 23, 24, 25, 26, 27, 28, 29, 30, 31, 32, 33, 34, 35, 36, 37, 38, 39, 40, 41, 42, 43, 44, 45, 46, 47, 48, 49, 50, 51, 52, 53, 54, 55, 56, 57, 58, 59, 60, 61, 62, 63, 64, 65, 66, 67, 68, 69, 70, 71, 72, 73, 74, 75, 76]
theorem ld_nd : va_nd ldL = true := by decide +kernel
def ldrL : List Nat := [0, 77, 78, 79, 80, 81, 82, 83, 84, 85, 86, 87, 88, 89, 90, 91, 92, 93, 94, 95, 96, 97, 98, 99, 100, 101, 102]
theorem ldr_nd : va_nd ldrL = true := by decide +kernel
def pc_L : List Nat := [0, 1, 28, 29, 30, 31, 32, 33, 34, 35, 36, 37, 38, 39, 40, 41, 42, 43, 44, 45, 46, 47, 48, 49, 50, 51, 52, 53, 54, 55, 56, 57, 58, 59, 60, 61, 62, 63, 64, 65, 66, 67, 68, 69, 70, 71, 72, 73, 74, 75, 76, 77, 78, 79, 80, 81, 82, 83, 84, 85, 86, 87, 88, 89, 90, 91, 92, 93, 94, 95, 96, 97, 98, 99, 100, 101, 102, 2, 3, 4, 5, 6, 7, 8, 9, 10, 11, 12, 13, 14, 15, 16, 17, 18, 19, 20, 21, 22, 23, 24, 25, 26, 27]
theorem pc__nd : va_nd pc_L = true := by decide +kernel
def pjL : List Nat := [27, 0, 28, 29, 30, 31, 32, 33, 34, 35, 36, 37, 38, 39, 40, 41, 42, 43, 44, 45, 46, 47, 48, 49, 50, 51, 52, 53, 54, 55, 56, 57, 58, 59, 60, 61, 62, 63, 64, 65, 66, 67, 68, 69, 70, 71, 72, 73, 74, 75, 76, 77, 78, 79, 80, 81, 82, 83, 84, 85, 86, 87, 88, 89, 90, 91, 92, 93, 94, 95, 96, 97, 98, 99, 100, 101, 102, 1, 2, 3, 4, 5, 6, 7, 8, 9, 10, 11, 12, 13, 14, 15, 16, 17, 18, 19, 20, 21, 22, 23, 24, 25, 26]
theorem pj_nd : va_nd pjL = true := by decide +kernel
def pdL : List Nat := [0, 27, 28, 29, 30, 31, 32, 33, 34, 35, 36, 37, 38, 39, 40, 41, 42, 43, 44, 45, 46, 47, 48, 49, 50, 51, 52, 53, 54, 55, 56, 57, 58, 59, 60, 61, 62, 63, 64, 65, 66, 67, 68, 69, 70, 71, 72, 73, 74, 75, 76, 77, 78, 79, 80, 81, 82, 83, 84, 85, 86, 87, 88, 89, 90, 91, 92, 93, 94, 95, 96, 97, 98, 99, 100, 101, 102, 1, 2, 3, 4, 5, 6, 7, 8, 9, 10, 11, 12, 13, 14, 15, 16, 17, 18, 19, 20, 21, 22, 23, 24, 25, 26]
theorem pd_nd : va_nd pdL = true := by decide +kernel
section JL
variable {T : Nat → ClassId} {ad : Nat → Nat} {Sc u : CS} {h0 : Nat} {ar : Nat → Nat} {Sm : MS} {oj od oj2 : Nat × va_E}
theorem lc_all : lcL.map (fun i => (lW T ad Sc h0 ar Sm oj od)[i]?) = (cW T ad Sc).map some := rfl
theorem lcr_all : lcrL.map (fun i => (lW T ad Sc h0 ar Sm oj od)[i]?) = ((oj :: od :: mW T h0 ar Sm : va_W)).map some := rfl
theorem lm_all : lmL.map (fun i => (lW T ad Sc h0 ar Sm oj od)[i]?) = (mW T h0 ar Sm).map some := rfl
theorem lmr_all : lmrL.map (fun i => (lW T ad Sc h0 ar Sm oj od)[i]?) = ((oj :: od :: cW T ad Sc : va_W)).map some := rfl
theorem lj_all : ljL.map (fun i => (lW T ad Sc h0 ar Sm oj od)[i]?) = (xW T ad Sc oj).map some := rfl
theorem ljr_all : ljrL.map (fun i => (lW T ad Sc h0 ar Sm oj od)[i]?) = ((od :: mW T h0 ar Sm : va_W)).map some := rfl
theorem ld_all : ldL.map (fun i => (lW T ad Sc h0 ar Sm oj od)[i]?) = (xW T ad Sc od).map some := rfl
theorem ldr_all : ldrL.map (fun i => (lW T ad Sc h0 ar Sm oj od)[i]?) = ((oj :: mW T h0 ar Sm : va_W)).map some := rfl
theorem lc_dis : ∀ i ∈ lcrL, i ∉ lcL := by decide +kernel
theorem lm_dis : ∀ i ∈ lmrL, i ∉ lmL := by decide +kernel
theorem lj_dis : ∀ i ∈ ljrL, i ∉ ljL := by decide +kernel
theorem ld_dis : ∀ i ∈ ldrL, i ∉ ldL := by decide +kernel
set_option maxRecDepth 100000 in
theorem pc__f : pc_L.filterMap (fun i => ((oj :: od :: mW T h0 ar Sm : va_W) ++ cW T ad u)[i]?) = lW T ad u h0 ar Sm oj od := rfl
set_option maxRecDepth 100000 in
theorem pc__m : pc_L.map (fun i => ((oj :: od :: mW T h0 ar Sm : va_W) ++ cW T ad u)[i]?) = (lW T ad u h0 ar Sm oj od).map some := rfl
set_option maxRecDepth 100000 in
theorem pj_f : pjL.filterMap (fun i => ((od :: mW T h0 ar Sm : va_W) ++ xW T ad u oj2)[i]?) = lW T ad u h0 ar Sm oj2 od := rfl
set_option maxRecDepth 100000 in
theorem pj_m : pjL.map (fun i => ((od :: mW T h0 ar Sm : va_W) ++ xW T ad u oj2)[i]?) = (lW T ad u h0 ar Sm oj2 od).map some := rfl
set_option maxRecDepth 100000 in
theorem pd_f : pdL.filterMap (fun i => ((oj :: mW T h0 ar Sm : va_W) ++ xW T ad u oj2)[i]?) = lW T ad u h0 ar Sm oj oj2 := rfl
set_option maxRecDepth 100000 in
theorem pd_m : pdL.map (fun i => ((oj :: mW T h0 ar Sm : va_W) ++ xW T ad u oj2)[i]?) = (lW T ad u h0 ar Sm oj oj2).map some := rfl
theorem lx_c : (lW T ad Sc h0 ar Sm oj od)[2]? = (cW T ad Sc)[0]? := rfl
theorem lx_m : (lW T ad Sc h0 ar Sm oj od)[77]? = (mW T h0 ar Sm)[0]? := rfl
end JL
theorem va_P.ro {D : va_G} {ws : va_W} {H H1 : Heap} (hP : va_P D classes ws H) (hk : ∀ q : Nat, q < H.size → H1[q]? = H[q]?) : va_P D classes ws H1 := by
  intro k q hq
  have h := hP k q hq
  obtain ⟨a, e⟩ := q
  cases e with
  | inl e =>
    have h1 : H[a]? = some (vp_cell e.1 e.2) := h
    have hl := (Array.getElem?_eq_some_iff.mp h1).1
    show H1[a]? = some (vp_cell e.1 e.2)
    rw [hk a hl]
    exact h1
  | inr o =>
    obtain ⟨r, h1, h2⟩ : ∃ r : vw_C, classes[o.1]? = some r ∧ t_OB a (D.1 o.1) r.2.2 (D.2 o.1) H (vp_V o.2) := h
    have h3 := h2
    obtain ⟨cell, g1, -⟩ := h3
    exact ⟨r, h1, h2.kept (hk a (Array.getElem?_eq_some_iff.mp g1).1)⟩
section JL
variable {p : Program} {l : Launch} {e : Env} {R : Room} {s : State} {m : MethodId} {args : Array Value} {below : List Frame} {meth : Method} {c : Code} {H : Heap} {locs : List Loc} {cells slots nL : Nat} {Q : State → Prop}
variable {cc : ByteArray} {pc : Nat} {ls : Array Slot} {rest st0 : List Value} {A : Nat → Prop} {D : va_G} {T : Nat → ClassId} {own : String} {ws : va_W} {a : Array Value} {mc ms : Nat}
variable {ad : Nat → Nat} {Sc : CS} {h0 : Nat} {ar : Nat → Nat} {Sm : MS} {oj od : Nat × va_E}
theorem j_ciN {S : Type} {post : Int32 → S → Prop} (hP : va_P D classes ws H) (hD : va_D A ws) (hS : va_S A s.heap H locs) (hA : ∀ q : Nat, s.heap.size ≤ q → A q)
    (hr : va_Run p l e R s m args below meth c H locs cells slots mc ms (F0 m pc ls st0) rest (va_Qi post (fun u t => Bw D T (Rn H.size) [] t) (Rn H.size) a) (Rn H.size))
    (kk : ∀ (r : Int32) (u : S) (H1 : Heap) (locs1 : List Loc), post r u → va_P D classes ws H1 → va_D A ws → va_S A s.heap H1 locs1 → W p l e R s m args below meth c H1 locs1 (cells + mc) (slots + ms) Q (F0 m (pc + 3) ls (.int r :: rest))) : W p l e R s m args below meth c H locs cells slots Q (F0 m pc ls st0) := by
  refine va_calli hr hS (fun q _ h => hA q (Nat.le_trans hS.1 h)) (fun q h => hA q (Nat.le_trans hS.1 h)) (fun r u t H1 locs1 ht hvm hp hB hz hk hS1 => ?_)
  exact kk r u H1 locs1 hp (hP.ro (fun q hq => hk q hq (Nat.not_le.mpr hq))) hD hS1
theorem jl_ci {S : Type} {post : Int32 → S → Prop} {w : S → CS} (hK : va_K D classes (TY T) s) (hP : va_P D classes (lW T ad Sc h0 ar Sm oj od) H) (hD : va_D A (lW T ad Sc h0 ar Sm oj od)) (hS : va_S A s.heap H locs) (hA : ∀ q : Nat, s.heap.size ≤ q → A q)
    (hr : va_Run p l e R s m args below meth c H locs cells slots mc ms (F0 m pc ls st0) rest (va_Qi post (fun u t => Bw D T (va_A (cW T ad Sc) H.size) (cW T ad (w u)) t) (va_A (cW T ad Sc) H.size) a) (va_A (cW T ad Sc) H.size))
    (kk : ∀ (r : Int32) (u : S) (H1 : Heap) (locs1 : List Loc), post r u → va_P D classes (lW T ad (w u) h0 ar Sm oj od) H1 → va_D A (lW T ad (w u) h0 ar Sm oj od) → va_S A s.heap H1 locs1 → W p l e R s m args below meth c H1 locs1 (cells + mc) (slots + ms) Q (F0 m (pc + 3) ls (.int r :: rest))) : W p l e R s m args below meth c H locs cells slots Q (F0 m pc ls st0) :=
  j_ci (ws := lW T ad Sc h0 ar Sm oj od) (wc := cW T ad Sc) (wr := oj :: od :: mW T h0 ar Sm) hK hP hD hS hA lcL lcrL lc_all lcr_all lcr_nd lc_dis hr (fun r u H1 locs1 hp hP1 hD1 hS1 => kk r u H1 locs1 hp (hP1.sub pc_L pc__f) (hD1.sub pc_L pc__nd pc__m) hS1)
theorem jl_mi {S : Type} {post : Int32 → S → Prop} {w : S → MS} (hK : va_K D classes (TY T) s) (hP : va_P D classes (lW T ad Sc h0 ar Sm oj od) H) (hD : va_D A (lW T ad Sc h0 ar Sm oj od)) (hS : va_S A s.heap H locs) (hA : ∀ q : Nat, s.heap.size ≤ q → A q)
    (hr : va_Run p l e R s m args below meth c H locs cells slots mc ms (F0 m pc ls st0) rest (va_Qi post (fun u t => Bw D T (va_A (mW T h0 ar Sm) H.size) (mW T h0 ar (w u)) t) (va_A (mW T h0 ar Sm) H.size) a) (va_A (mW T h0 ar Sm) H.size))
    (kk : ∀ (r : Int32) (u : S) (H1 : Heap) (locs1 : List Loc), post r u → va_P D classes (lW T ad Sc h0 ar (w u) oj od) H1 → va_D A (lW T ad Sc h0 ar (w u) oj od) → va_S A s.heap H1 locs1 → W p l e R s m args below meth c H1 locs1 (cells + mc) (slots + ms) Q (F0 m (pc + 3) ls (.int r :: rest))) : W p l e R s m args below meth c H locs cells slots Q (F0 m pc ls st0) :=
  j_ci (ws := lW T ad Sc h0 ar Sm oj od) (wc := mW T h0 ar Sm) (wr := oj :: od :: cW T ad Sc) hK hP hD hS hA lmL lmrL lm_all lmr_all lmr_nd lm_dis hr (fun r u H1 locs1 hp hP1 hD1 hS1 => kk r u H1 locs1 hp hP1 hD1 hS1)
theorem jl_md {S : Type} {post : UInt64 → S → Prop} {w : S → MS} (hK : va_K D classes (TY T) s) (hP : va_P D classes (lW T ad Sc h0 ar Sm oj od) H) (hD : va_D A (lW T ad Sc h0 ar Sm oj od)) (hS : va_S A s.heap H locs) (hA : ∀ q : Nat, s.heap.size ≤ q → A q)
    (hr : va_Run p l e R s m args below meth c H locs cells slots mc ms (F0 m pc ls st0) rest (va_Qd post (fun u t => Bw D T (va_A (mW T h0 ar Sm) H.size) (mW T h0 ar (w u)) t) (va_A (mW T h0 ar Sm) H.size) a) (va_A (mW T h0 ar Sm) H.size))
    (kk : ∀ (r : UInt64) (u : S) (H1 : Heap) (locs1 : List Loc), post r u → va_P D classes (lW T ad Sc h0 ar (w u) oj od) H1 → va_D A (lW T ad Sc h0 ar (w u) oj od) → va_S A s.heap H1 locs1 → W p l e R s m args below meth c H1 locs1 (cells + mc) (slots + ms) Q (F0 m (pc + 3) ls (.double r :: rest))) : W p l e R s m args below meth c H locs cells slots Q (F0 m pc ls st0) :=
  j_cd (ws := lW T ad Sc h0 ar Sm oj od) (wc := mW T h0 ar Sm) (wr := oj :: od :: cW T ad Sc) hK hP hD hS hA lmL lmrL lm_all lmr_all lmr_nd lm_dis hr (fun r u H1 locs1 hp hP1 hD1 hS1 => kk r u H1 locs1 hp hP1 hD1 hS1)
variable {ou : Nat} {f : Nat → Int64} {fd : Nat → UInt64}
theorem jl_hj {post : Int32 → (CS × (Nat → Int64)) → Prop} (hK : va_K D classes (TY T) s) (hP : va_P D classes (lW T ad Sc h0 ar Sm (oJ T ou f) od) H) (hD : va_D A (lW T ad Sc h0 ar Sm (oJ T ou f) od)) (hS : va_S A s.heap H locs) (hA : ∀ q : Nat, s.heap.size ≤ q → A q)
    (hr : va_Run p l e R s m args below meth c H locs cells slots mc ms (F0 m pc ls st0) rest (va_Qi post (fun u t => Bw D T (va_A (xW T ad Sc (oJ T ou f)) H.size) (xW T ad u.1 (oJ T ou u.2)) t) (va_A (xW T ad Sc (oJ T ou f)) H.size) a) (va_A (xW T ad Sc (oJ T ou f)) H.size))
    (kk : ∀ (r : Int32) (u : (CS × (Nat → Int64))) (H1 : Heap) (locs1 : List Loc), post r u → va_P D classes (lW T ad u.1 h0 ar Sm (oJ T ou u.2) od) H1 → va_D A (lW T ad u.1 h0 ar Sm (oJ T ou u.2) od) → va_S A s.heap H1 locs1 → W p l e R s m args below meth c H1 locs1 (cells + mc) (slots + ms) Q (F0 m (pc + 3) ls (.int r :: rest))) : W p l e R s m args below meth c H locs cells slots Q (F0 m pc ls st0) :=
  j_ci (ws := lW T ad Sc h0 ar Sm (oJ T ou f) od) (wc := xW T ad Sc (oJ T ou f)) (wr := od :: mW T h0 ar Sm) hK hP hD hS hA ljL ljrL lj_all ljr_all ljr_nd lj_dis hr (fun r u H1 locs1 hp hP1 hD1 hS1 => kk r u H1 locs1 hp (hP1.sub pjL pj_f) (hD1.sub pjL pj_nd pj_m) hS1)
theorem jl_hd {post : Int32 → (CS × (Nat → UInt64)) → Prop} (hK : va_K D classes (TY T) s) (hP : va_P D classes (lW T ad Sc h0 ar Sm oj (oD T ou fd)) H) (hD : va_D A (lW T ad Sc h0 ar Sm oj (oD T ou fd))) (hS : va_S A s.heap H locs) (hA : ∀ q : Nat, s.heap.size ≤ q → A q)
    (hr : va_Run p l e R s m args below meth c H locs cells slots mc ms (F0 m pc ls st0) rest (va_Qi post (fun u t => Bw D T (va_A (xW T ad Sc (oD T ou fd)) H.size) (xW T ad u.1 (oD T ou u.2)) t) (va_A (xW T ad Sc (oD T ou fd)) H.size) a) (va_A (xW T ad Sc (oD T ou fd)) H.size))
    (kk : ∀ (r : Int32) (u : (CS × (Nat → UInt64))) (H1 : Heap) (locs1 : List Loc), post r u → va_P D classes (lW T ad u.1 h0 ar Sm oj (oD T ou u.2)) H1 → va_D A (lW T ad u.1 h0 ar Sm oj (oD T ou u.2)) → va_S A s.heap H1 locs1 → W p l e R s m args below meth c H1 locs1 (cells + mc) (slots + ms) Q (F0 m (pc + 3) ls (.int r :: rest))) : W p l e R s m args below meth c H locs cells slots Q (F0 m pc ls st0) :=
  j_ci (ws := lW T ad Sc h0 ar Sm oj (oD T ou fd)) (wc := xW T ad Sc (oD T ou fd)) (wr := oj :: mW T h0 ar Sm) hK hP hD hS hA ldL ldrL ld_all ldr_all ldr_nd ld_dis hr (fun r u H1 locs1 hp hP1 hD1 hS1 => kk r u H1 locs1 hp (hP1.sub pdL pd_f) (hD1.sub pdL pd_nd pd_m) hS1)
end JL
theorem wr_eq {r q lc lc2 lm lm2 : Int32} {v : Int64} (hl : lm.toInt = lc.toInt) (h : (r.toInt = 1 ∧ wrP (byA v) lc.toInt ∧ lc2.toInt = lc.toInt + cntB (byA v) 8) ∨ (r.toInt = 0 ∧ ¬ wrP (byA v) lc.toInt ∧ lc2 = lc)) (h2 : (q.toInt = 1 ∧ wrP (byM v) lm.toInt ∧ lm2.toInt = lm.toInt + cntB (byM v) 8) ∨ (q.toInt = 0 ∧ ¬ wrP (byM v) lm.toInt ∧ lm2 = lm)) : r.toInt = q.toInt ∧ lm2.toInt = lc2.toInt := by
  rw [cn_AM, wr_AM, hl] at h2
  rcases h with ⟨a, b, c⟩ | ⟨a, b, c⟩ <;> rcases h2 with ⟨a2, b2, c2⟩ | ⟨a2, b2, c2⟩
  · omega
  · exact absurd b b2
  · exact absurd b2 b
  · rw [c, c2]; omega
theorem lw_c {a : Nat} (h : a ≤ 601024) : a ≤ room_1.cells := h
theorem lw_s {a : Nat} (h : a ≤ 7293000) : a ≤ room_1.slots := h
