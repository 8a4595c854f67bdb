set_option maxHeartbeats 4000000 in
set_option maxRecDepth 100000 in
/-- the law from its entry, the machine's words at hand: the class' object is made -/
theorem start1 {p : Program} {e : Env} {s : State} {m : MethodId} {below : List Frame} {meth : Method} {c : Code} (l : Launch) (hfl : l.flags = flags0) {b L : Nat} {xs : Nat → Int32} (hL : L ≤ 1538) (D : va_G) (T : Nat → ClassId) (g : GE) (q69 q129 q141 q148 : Nat) (F : CallFix p m c code 9 s #[Value.ref b] gw "PageScribeLaw") (hr : meth.sig.returnType = ret) (hlocks : meth.locks = false) (hK : va_K D classes (TY T) s) (hX : va_X b L xs s s.heap) (hbl : b < s.heap.size) (hEV : EV g (Rn s.heap.size) s s.heap) (hnest : ∀ w ∈ nestL, va_Nw w s) (h69 : EY 69 "the fuel is not 1 to 500" q69 s) (h129 : EY 129 "there is no such VALUE" q129 s) (h141 : EY 141 "a REAL has no number" q141 s) (h148 : EY 148 "no number" q148 s) (hNC : NCi s) (hE1 : va_AO "PageScribe$Store" s) (hE2 : va_Nw (Cond.methodLinkNest "PageScribe" 18 ⟨"PageScribe$Words", "<init>", "()V"⟩ "PageScribe") s) {ls : Array Slot} (hl : lv_has ls 9 [(0, .ref b)]) : W p l e room_1 s m #[Value.ref b] below meth c s.heap [] 0 0 (lw_Z below #[Value.ref b] s) (F0 m 0 ls []) := by
  obtain ⟨hx, hb, hml, hown, hts⟩ := id F
  have hA : ∀ q : Nat, s.heap.size ≤ q → Rn s.heap.size q := fun q h => h
  have hbA : ¬ Rn s.heap.size b := Nat.not_le.mpr hbl
  have hEX : EXs b L xs s := ⟨hX, hbl, hL⟩
  have hS : va_S (Rn s.heap.size) s.heap s.heap [] := va_S.rf
  have hP : va_P D classes [] s.heap := fun k q h => by simp at h
  have hD : va_D (Rn s.heap.size) [] := ⟨fun i j p q h => by simp at h, fun k q h => by simp at h⟩
  refine va_new (ci := 10) (fs := [.null, .null, .null, .null, .null, .null]) (C := "PageScribe") (T := F_Ps) (N := 6) hx hb hts i_Ps t_Ps t_Ps_ok hown (hts _ k_1_29) (hts _ k_1_30) (hts _ k_1_1) hK hP hD hS hA rfl z_Ps (lw_c (by omega)) (lw_s (by omega)) d_Lw_law_0 (fun q1 H hP hD hS => ?_)
  have hP : va_P D classes [(q1, .inr (10, [.null, .null, .null, .null, .null, .null]))] H := hP
  have hD : va_D (Rn s.heap.size) [(q1, .inr (10, [.null, .null, .null, .null, .null, .null]))] := hD
  refine lv_dup hx hb d_Lw_law_3 rfl ?_
  refine lv_aload_n hx hb d_Lw_law_4 rfl (lv_at hl 0 rfl) ?_
  refine lv_iconst (v := 0) hx hb d_Lw_law_5 (by decide +kernel) ?_
  refine j_ciN hP hD hS hA (va_runS (As := [.ref b, .int 0]) (rest := [.ref q1, .ref q1]) F (c_Lw_cell l D T L xs b 0 H.size (by decide +kernel)) (j_cS (k := 2) hts k_2_221 k_1_0 k_2_219 k_2_220 (by decide +kernel) ⟨Nat.le_of_ble_eq_true rfl, Nat.le_of_ble_eq_true rfl⟩) (j_preS hK hP hD [] rfl (by decide +kernel) (fun _ _ _ _ h => EXs.calling h) (fun U hU hW => EXs.at hbA hS hU hW hEX)) rfl rfl hl.1 rfl (lv_room (Nat.le_of_ble_eq_true rfl)) d_Lw_law_6 ⟨lw_c (show 0 + 1 + 0 ≤ 601024 by omega), lw_s (show 0 + 6 + 0 ≤ 7293000 by omega)⟩) (fun cv1 _ H locs _ hP hD hS => ?_)
  refine lv_aload_n hx hb d_Lw_law_9 rfl (lv_at hl 0 rfl) ?_
  refine lv_iconst (v := 1) hx hb d_Lw_law_10 (by decide +kernel) ?_
  refine j_ciN hP hD hS hA (va_runS (As := [.ref b, .int 1]) (rest := [.int cv1, .ref q1, .ref q1]) F (c_Lw_cell l D T L xs b 1 H.size (by decide +kernel)) (j_cS (k := 2) hts k_2_221 k_1_0 k_2_219 k_2_220 (by decide +kernel) ⟨Nat.le_of_ble_eq_true rfl, Nat.le_of_ble_eq_true rfl⟩) (j_preS hK hP hD [] rfl (by decide +kernel) (fun _ _ _ _ h => EXs.calling h) (fun U hU hW => EXs.at hbA hS hU hW hEX)) rfl rfl hl.1 rfl (lv_room (Nat.le_of_ble_eq_true rfl)) d_Lw_law_11 ⟨lw_c (show 0 + 1 + 0 + 0 ≤ 601024 by omega), lw_s (show 0 + 6 + 0 + 0 ≤ 7293000 by omega)⟩) (fun cv2 _ H locs _ hP hD hS => ?_)
  refine j_cv (wc := [(q1, .inr (10, [.null, .null, .null, .null, .null, .null]))]) (wr := []) hK hP hD hS hA [0] [] rfl rfl (by decide +kernel) (by decide +kernel) (va_runI (As := [.int cv1, .int cv2]) (rest := [.ref q1]) F (i_Ps_init l D T q1 cv1 cv2 H.size) (j_cI (k := 2) hts k_1_33 k_1_1 k_1_31 k_1_32 rfl (by decide +kernel) ⟨Nat.le_of_ble_eq_true rfl, Nat.le_of_ble_eq_true rfl⟩) (j_preS hK hP hD [0] rfl (by decide +kernel) (fun _ _ _ _ h => h) (fun U _ hW => ⟨hE1.moved hW.alike, va_Nw.warmM hW hE2⟩)) rfl rfl hl.1 rfl (lv_room (Nat.le_of_ble_eq_true rfl)) d_Lw_law_14 ⟨lw_c (show 0 + 1 + 0 + 0 + 74 ≤ 601024 by omega), lw_s (show 0 + 6 + 0 + 0 + 4809 ≤ 7293000 by omega)⟩) (fun u1 H locs hw hP hD hS => ?_)
  obtain ⟨pa, C1, R1⟩ := u1
  obtain ⟨hq1, hC1, hC2, hR1, hR2⟩ : pa 0 = q1 ∧ 1 ≤ C1 ∧ C1 ≤ 24 ∧ 1 ≤ R1 ∧ R1 ≤ 16 := hw
  subst hq1
  have ew := cW_s (T := T) (pa := pa) (C := C1) (Rr := R1) hC2 hR2
  have hP : va_P D classes (cW T pa (S0c C1 R1)) H := Eq.mp (congrArg (fun z => va_P D classes z H) ew) hP
  have hD : va_D (Rn s.heap.size) (cW T pa (S0c C1 R1)) := Eq.mp (congrArg (fun z => va_D (Rn s.heap.size) z) ew) hD
  exact start2 l hfl hL D T g q69 q129 q141 q148 F hr hlocks hK hX hbl hEV hnest h69 h129 h141 h148 hNC pa (Sc := S0c C1 R1) (CIv0 hC1 hC2 hR1 hR2) (by decide +kernel : (0 : Int32).toInt = 0) (show 0 + 1 + 0 + 0 + 74 ≤ 100 by omega) (show 0 + 6 + 0 + 0 + 4809 ≤ 10000 by omega) hP hD hS hl
set_option maxHeartbeats 4000000 in
set_option maxRecDepth 100000 in
/-- THE LAW, from its entry: for every script of at most 1538 ints it comes to its end with true -/
theorem whole_start {p : Program} {e : Env} {s : State} {m : MethodId} {below : List Frame} {meth : Method} {c : Code} (l : Launch) (hfl : l.flags = flags0) {b L : Nat} {xs : Nat → Int32} (hL : L ≤ 1538) (C0 : lw_At p s m meth c b L xs) : W p l e room_1 s m #[Value.ref b] below meth c s.heap [] 0 0 (lw_Z below #[Value.ref b] s) (entryFrame m ([Value.ref b] : List Value).toArray 9) := by
  obtain ⟨hx, hb, hr, hml, hown, htl, hX, hbl, hlocks, hgv⟩ := id C0
  have hts : ∀ w ∈ gw, w.before #[Value.ref b] s = true := fun w h => htl w (gw_in h).1
  have F : CallFix p m c code 9 s #[Value.ref b] gw "PageScribeLaw" := ⟨hx, hb, hml, hown, hts⟩
  obtain ⟨d0, i0, k0⟩ := u_known (C := "PageScribe$Stack") (T := F_Stack) (N := 4) (n := 4) hts i_Stack (hts _ k_1_38)
  obtain ⟨d1, i1, k1⟩ := u_known (C := "PageScribe$Words") (T := F_Words) (N := 3) (n := 3) hts i_Words (hts _ k_1_70)
  obtain ⟨d2, i2, k2⟩ := u_known (C := "PageScribe$Memory") (T := F_Memory) (N := 8) (n := 8) hts i_Memory (hts _ k_1_88)
  obtain ⟨d3, i3, k3⟩ := u_known (C := "PageScribe$Store") (T := F_Store) (N := 5) (n := 5) hts i_Store (hts _ k_1_94)
  obtain ⟨d4, i4, k4⟩ := u_known (C := "PageScribe$Row") (T := F_Row) (N := 4) (n := 4) hts i_Row (hts _ k_1_100)
  obtain ⟨d5, i5, k5⟩ := u_known (C := "PageScribe$Reader") (T := F_Reader) (N := 10) (n := 10) hts i_Reader (hts _ k_1_159)
  obtain ⟨d6, i6, k6⟩ := u_known (C := "PageScribe$Canvas") (T := F_Canvas) (N := 9) (n := 9) hts i_Canvas (hts _ k_1_202)
  obtain ⟨d7, i7, k7⟩ := u_known (C := "PageScribe$Engine") (T := F_Engine) (N := 11) (n := 11) hts i_Engine (hts _ k_1_237)
  obtain ⟨d8, i8, k8⟩ := u_known (C := "PageScribe$Sums") (T := F_Sums) (N := 1) (n := 1) hts i_Sums (hts _ k_2_3)
  obtain ⟨d9, i9, k9⟩ := u_known (C := "PageScribe$Truths") (T := F_Truths) (N := 1) (n := 1) hts i_Truths (hts _ k_2_13)
  obtain ⟨d10, i10, k10⟩ := u_known (C := "PageScribe") (T := F_Ps) (N := 6) (n := 6) hts i_Ps (hts _ k_1_30)
  obtain ⟨d11, i11, k11⟩ := u_known (C := "PageScribeModel") (T := F_Mo) (N := 45) (n := 45) hts i_Mo (hts _ k_6_85)
  obtain ⟨D, hKc⟩ : ∃ D : va_G, ∀ (k : Nat) (q : vw_C), classes[k]? = some q → u_Kn s q.1 q.2.1 q.2.2 (D.1 k) (D.2 k) := by
    refine ⟨(fun k => [d0, d1, d2, d3, d4, d5, d6, d7, d8, d9, d10, d11].getD k d0, fun k => [i0, i1, i2, i3, i4, i5, i6, i7, i8, i9, i10, i11].getD k i0), ?_⟩
    intro k q hq
    match k, hq with
    | 0, hq => cases hq; exact k0
    | 1, hq => cases hq; exact k1
    | 2, hq => cases hq; exact k2
    | 3, hq => cases hq; exact k3
    | 4, hq => cases hq; exact k4
    | 5, hq => cases hq; exact k5
    | 6, hq => cases hq; exact k6
    | 7, hq => cases hq; exact k7
    | 8, hq => cases hq; exact k8
    | 9, hq => cases hq; exact k9
    | 10, hq => cases hq; exact k10
    | 11, hq => cases hq; exact k11
    | k + 12, hq => simp [classes] at hq
  obtain ⟨aI, rI, uI⟩ := arr_of (hts _ k_1_67) (fun C h => by cases h)
  obtain ⟨aJ, rJ, uJ⟩ := arr_of (hts _ k_7_56) (fun C h => by cases h)
  obtain ⟨aC, rC, uC⟩ := arr_of (hts _ k_1_86) (fun C h => by cases h)
  obtain ⟨aDd, rDd, uDd⟩ := arr_of (hts _ k_1_68) (fun C h => by cases h)
  have hAOb : (Cond.arrayOver (.object "PageScribe$Store")).before #[Value.ref b] s = true := (htl _ (tb_1 (List.mem_of_getElem? (i := 128) (by decide +kernel))))
  obtain ⟨aS, rS, uS⟩ := arr_ofQ hAOb
  obtain ⟨T, hK⟩ : ∃ T : Nat → ClassId, va_K D classes (TY T) s := by
    refine ⟨fun k => [aI, aJ, aC, aDd, aS].getD k aI, hKc, ?_⟩
    intro k q hq
    match k, hq with
    | 0, hq => cases hq; exact ⟨rI, uI⟩
    | 1, hq => cases hq; exact ⟨rJ, uJ⟩
    | 2, hq => cases hq; exact ⟨rC, uC⟩
    | 3, hq => cases hq; exact ⟨rDd, uDd⟩
    | 4, hq => cases hq; exact ⟨rS, uS⟩
    | k + 5, hq => simp [TY] at hq
  have hE1 : va_AO "PageScribe$Store" s := va_AO.of hAOb
  have hE2 : va_Nw (Cond.methodLinkNest "PageScribe" 18 ⟨"PageScribe$Words", "<init>", "()V"⟩ "PageScribe") s := va_Nw.of rfl (htl _ (tb_1 (List.mem_of_getElem? (i := 71) (by decide +kernel))))
  obtain ⟨g, hEV⟩ := EV_of htl hgv
  obtain ⟨q69, h69⟩ := EY_69 htl hgv
  obtain ⟨q129, h129⟩ := EY_129 htl hgv
  obtain ⟨q141, h141⟩ := EY_141 htl hgv
  obtain ⟨q148, h148⟩ := EY_148 htl hgv
  have hNC := (EY_of htl hgv).2.2.2
  have hl := lv_entry ([.ref b]) (n := 9) (Nat.le_of_ble_eq_true rfl)
  rw [lg_entry_eq]
  generalize (lg_sl ([.ref b]) ++ List.replicate (9 - (lg_sl ([.ref b])).length) Slot.unset).toArray = ls at hl ⊢
  have hl : lv_has ls 9 [(0, .ref b)] := hl
  exact start1 l hfl hL D T g q69 q129 q141 q148 F hr hlocks hK hX hbl hEV (nest_of htl) h69 h129 h141 h148 hNC hE1 hE2 hl
