theorem zt_subW {x y : Int32} {a b : Int} (hx : x.toInt = a) (hy : y.toInt = b) : (x - y).toInt = a - b ∨ (x - y).toInt = a - b + 4294967296 ∨ (x - y).toInt = a - b - 4294967296 := by
  have h1 := zt_rng x
  have h2 := zt_rng y
  have h3 : (x - y).toInt = (x.toInt - y.toInt).bmod 4294967296 := Int32.toInt_sub x y
  have h4 := zt_rng (x - y)
  have h5 : (x.toInt - y.toInt).bmod 4294967296 % 4294967296 = (x.toInt - y.toInt) % 4294967296 := Int.bmod_emod
  omega
theorem ar_le {f : Nat → Int32} {i N : Nat} {x : Int32} {hi : Int} (H : ∀ k, k < N → (f k).toInt ≤ hi) (hv : x.toInt ≤ hi) : ∀ k, k < N → (upd f i x k).toInt ≤ hi := by
  intro k hk
  unfold upd
  by_cases e : k = i
  · rw [if_pos e]; exact hv
  · rw [if_neg e]; exact H k hk
theorem sd_up {m r : Nat → Int32} {i : Nat} {x : Int32} (H : ∀ k, k < 7 → 0 ≤ (m k).toInt ∧ (m k).toInt ≤ (r k).toInt ∧ (r k).toInt ≤ (if k = 0 then 20 else 10)) (hv : 0 ≤ x.toInt ∧ x.toInt ≤ (r i).toInt) : ∀ k, k < 7 → 0 ≤ (upd m i x k).toInt ∧ (upd m i x k).toInt ≤ (r k).toInt ∧ (r k).toInt ≤ (if k = 0 then 20 else 10) := by
  intro k hk
  by_cases e : k = i
  · subst e
    rw [upd_s]
    exact ⟨hv.1, hv.2, (H k hk).2.2⟩
  · unfold upd
    rw [if_neg e]
    exact H k hk
theorem sd_new {m r : Nat → Int32} {i : Nat} {x y : Int32} (H : ∀ k, k < 7 → 0 ≤ (m k).toInt ∧ (m k).toInt ≤ (r k).toInt ∧ (r k).toInt ≤ (if k = 0 then 20 else 10)) (hv : 0 ≤ y.toInt ∧ y.toInt ≤ x.toInt ∧ x.toInt ≤ 10) : ∀ k, k < 7 → 0 ≤ (upd m i y k).toInt ∧ (upd m i y k).toInt ≤ (upd r i x k).toInt ∧ (upd r i x k).toInt ≤ (if k = 0 then 20 else 10) := by
  intro k hk
  by_cases e : k = i
  · subst e
    rw [upd_s, upd_s]
    exact ⟨hv.1, hv.2.1, by split <;> omega⟩
  · unfold upd
    rw [if_neg e, if_neg e]
    exact H k hk
theorem cpy_at {α : Type} {f g : Nat → α} {n k : Nat} (h : k < n) : va_cpy f g 0 0 n k = f k := by
  unfold va_cpy
  rw [if_pos (by omega), Nat.zero_add, Nat.sub_zero]
theorem cpy_dB {f g : Nat → UInt64} {n : Nat} (H : ∀ k, k < n → dB (f k)) : ∀ k, k < n → dB (va_cpy f g 0 0 n k) := by
  intro k hk
  rw [cpy_at hk]
  exact H k hk
theorem cpy_sd {m r m2 r2 : Nat → Int32} (H : ∀ k, k < 7 → 0 ≤ (m k).toInt ∧ (m k).toInt ≤ (r k).toInt ∧ (r k).toInt ≤ (if k = 0 then 20 else 10)) : ∀ k, k < 7 → 0 ≤ (va_cpy m m2 0 0 7 k).toInt ∧ (va_cpy m m2 0 0 7 k).toInt ≤ (va_cpy r r2 0 0 7 k).toInt ∧ (va_cpy r r2 0 0 7 k).toInt ≤ (if k = 0 then 20 else 10) := by
  intro k hk
  rw [cpy_at hk, cpy_at hk]
  exact H k hk
theorem d_Words_isWord_0 : decode prog_13_method_3_code 0 = .ok (.aload_n 1, 1) := by decide +kernel
theorem d_Words_isWord_1 : decode prog_13_method_3_code 1 = .ok (.invokevirtual 41, 3) := by decide +kernel
theorem k_2_147 : Cond.methodLink "PageScribe$Words" 41 ⟨"java/lang/String", "length", "()I"⟩ ∈ gw := gw_of (tb_2 (List.mem_of_getElem? (i := 147) (by decide +kernel))) (by decide +kernel)
theorem d_Words_isWord_4 : decode prog_13_method_3_code 4 = .ok (.iload 4, 2) := by decide +kernel
theorem d_Words_isWord_6 : decode prog_13_method_3_code 6 = .ok (.if_icmp .eq 5, 3) := by decide +kernel
theorem d_Words_isWord_11 : decode prog_13_method_3_code 11 = .ok (.iconst 0, 1) := by decide +kernel
theorem d_Words_isWord_12 : decode prog_13_method_3_code 12 = .ok (.istore 5, 2) := by decide +kernel
theorem d_Words_isWord_14 : decode prog_13_method_3_code 14 = .ok (.iload 5, 2) := by decide +kernel
theorem d_Words_isWord_16 : decode prog_13_method_3_code 16 = .ok (.iload 4, 2) := by decide +kernel
theorem d_Words_isWord_18 : decode prog_13_method_3_code 18 = .ok (.if_icmp .ge 26, 3) := by decide +kernel
theorem d_Words_isWord_44 : decode prog_13_method_3_code 44 = .ok (.iconst 1, 1) := by decide +kernel
theorem d_Words_isWord_45 : decode prog_13_method_3_code 45 = .ok (.ireturn, 1) := by decide +kernel
theorem d_Words_isWord_21 : decode prog_13_method_3_code 21 = .ok (.aload_n 1, 1) := by decide +kernel
theorem d_Words_isWord_22 : decode prog_13_method_3_code 22 = .ok (.iload 5, 2) := by decide +kernel
theorem d_Words_isWord_24 : decode prog_13_method_3_code 24 = .ok (.invokevirtual 47, 3) := by decide +kernel
theorem k_2_157 : Cond.methodLink "PageScribe$Words" 47 ⟨"java/lang/String", "charAt", "(I)C"⟩ ∈ gw := gw_of (tb_2 (List.mem_of_getElem? (i := 157) (by decide +kernel))) (by decide +kernel)
theorem d_Words_isWord_27 : decode prog_13_method_3_code 27 = .ok (.aload_n 2, 1) := by decide +kernel
theorem d_Words_isWord_28 : decode prog_13_method_3_code 28 = .ok (.iload_n 3, 1) := by decide +kernel
theorem d_Words_isWord_29 : decode prog_13_method_3_code 29 = .ok (.iload 5, 2) := by decide +kernel
theorem d_Words_isWord_31 : decode prog_13_method_3_code 31 = .ok (.iadd, 1) := by decide +kernel
theorem d_Words_isWord_32 : decode prog_13_method_3_code 32 = .ok (.caload, 1) := by decide +kernel
theorem d_Words_isWord_33 : decode prog_13_method_3_code 33 = .ok (.if_icmp .eq 5, 3) := by decide +kernel
theorem d_Words_isWord_38 : decode prog_13_method_3_code 38 = .ok (.iinc 5 1, 3) := by decide +kernel
theorem d_Words_isWord_41 : decode prog_13_method_3_code 41 = .ok (.goto (-27), 3) := by decide +kernel
theorem d_Words_isWord_36 : decode prog_13_method_3_code 36 = .ok (.iconst 0, 1) := by decide +kernel
theorem d_Words_isWord_37 : decode prog_13_method_3_code 37 = .ok (.ireturn, 1) := by decide +kernel
theorem d_Words_isWord_9 : decode prog_13_method_3_code 9 = .ok (.iconst 0, 1) := by decide +kernel
theorem d_Words_isWord_10 : decode prog_13_method_3_code 10 = .ok (.ireturn, 1) := by decide +kernel
set_option maxHeartbeats 4000000 in
set_option maxRecDepth 100000 in
theorem c_Words_isWord (l : Launch) (D : va_G) (T : Nat → ClassId) (ad : Nat → Nat) (g : GE) (Bq : Nat → Prop) (S : CS) (wx : Nat) (p0 : Int32) (p1 : Int32) (sz : Nat) (hi_wx : wx < 97) (h1 : 0 ≤ p0.toInt ∧ 0 ≤ p1.toInt ∧ p1.toInt ≤ 120 - p0.toInt) : Met l ⟨"PageScribe$Words", "isWord", "(Ljava/lang/String;[CII)Z"⟩ (wy ⟨"PageScribe$Words", "isWord", "(Ljava/lang/String;[CII)Z"⟩ prog_13_method_3_code 6 (some .boolean)) ({ frames := 4, cells := 0, slots := 0, locals := 280 }) (va_Pc [.ref (ad 5), .ref (g_K g wx), .ref (ad 61), .int p0, .int p1] (Pw D T (cW T ad S) sz (EC g Bq ad))) (va_Qi (fun (r : Int32) (u : Unit) => r.toInt = 0 ∨ r.toInt = 1) (fun u t => Bw D T (va_A (cW T ad S) sz) (cW T ad S) t) (va_A (cW T ad S) sz)) 0 0 (va_A (cW T ad S) sz) := by
  refine j_met (y := ⟨"PageScribe$Words", "isWord", "(Ljava/lang/String;[CII)Z"⟩) (b := prog_13_method_3_code) (n := 6) (ret := (some .boolean)) (av := [.ref (ad 5), .ref (g_K g wx), .ref (ad 61), .int p0, .int p1]) (Qc := fun A => va_Qi (fun (r : Int32) (u : Unit) => r.toInt = 0 ∨ r.toInt = 1) (fun u t => Bw D T A (cW T ad S) t) A) (by decide +kernel) (Nat.le_of_ble_eq_true rfl) (fun p e s m args below meth c A ls F hr hlocks hnm hK hP hD hS hA hN hE hl => ?_)
  obtain ⟨hx, hb, hml, hown, hts⟩ := id F
  have hl : lv_has ls 6 [(0, .ref (ad 5)), (1, .ref (g_K g wx)), (2, .ref (ad 61)), (3, .int p0), (4, .int p1)] := hl
  have hAB : ∀ q, A q → Bq q := EC.ab hE hN
  have hEV := hE.1.narrow hAB
  have rp0 := zt_rng p0
  have rp1 := zt_rng p1
  have htl := tx_le wx
  refine lv_aload_n hx hb d_Words_isWord_0 rfl (lv_at hl 1 rfl) ?_
  refine jc_ci (w := (fun _ => S)) hK hP hD hS hA (va_runV (As := []) (rest := []) F (c_String_length l D T ad g Bq S wx  s.heap.size hi_wx) (j_cV (k := 0) (C := "java/lang/String") hts k_2_150 k_1_17 k_2_147 k_2_148 k_2_149 (by decide +kernel) ⟨Nat.le_of_ble_eq_true rfl, Nat.le_of_ble_eq_true rfl⟩) (jc_preO (j_preS hK hP hD csc csc_all csc_nd (fun _ _ _ _ h => EC.calling h) (fun U hU hW => EC.at hS hAB hU hW hE)) (hEV.2.2.2.2.1.1 _ hi_wx).1 hS) rfl rfl hl.1 rfl (lv_room (Nat.le_of_ble_eq_true rfl)) d_Words_isWord_1 ⟨Nat.le_of_ble_eq_true rfl, Nat.le_of_ble_eq_true rfl⟩) (fun rv1 u1 H locs hw1 hP hD hS => ?_)
  have hP : va_P D classes (cW T ad S) H := hP
  have hD : va_D A (cW T ad S) := hD
  have qhw1 : rv1.toInt = ((txL.getD wx 0 : Nat) : Int) := hw1
  have rrv1 := zt_rng rv1
  refine lv_iload hx hb d_Words_isWord_4 (lv_at hl 4 rfl) ?_
  refine lv_icmp_eq (tgt := 11) hx hb d_Words_isWord_6 (by decide) (fun c6_1 => ?_) (fun c6_1 => ?_)
  · have fc6_1 : rv1.toInt = p1.toInt := zt_eq (show rv1.toInt = _ from rfl) (show p1.toInt = _ from rfl) c6_1
    refine lv_iconst (v := 0) hx hb d_Words_isWord_11 (by decide) ?_
    refine lv_istore (lv' := [(5, .int 0), (0, .ref (ad 5)), (1, .ref (g_K g wx)), (2, .ref (ad 61)), (3, .int p0), (4, .int p1)]) hx hb d_Words_isWord_12 hl (by decide) rfl (fun ls hl => ?_)
    refine j_loop (α := Int32) (fun k x H locs ls => (0 ≤ x.toInt ∧ p1.toInt ≤ x.toInt + ((k : Nat) : Int)) ∧ va_P D classes (cW T ad S) H ∧ va_D A (cW T ad S) ∧ va_S A s.heap H locs ∧ lv_has ls 6 [(5, .int x), (0, .ref (ad 5)), (1, .ref (g_K g wx)), (2, .ref (ad 61)), (3, .int p0), (4, .int p1)]) (fun _ _ ls => F0 m 14 ls []) (fun k x H locs ls hI9 ih => ?_) p1.toInt.toNat (0 : Int32) _ _ _ ⟨(show 0 ≤ (0 : Int32).toInt ∧ p1.toInt ≤ (0 : Int32).toInt + ((p1.toInt.toNat : Nat) : Int) by have := tI_0; omega), hP, hD, hS, lv_sub hl [0, 1, 2, 3, 4, 5] rfl⟩
    obtain ⟨i, rfl⟩ : ∃ z, z = x := ⟨_, rfl⟩
    obtain ⟨hf1, hP, hD, hS, hl⟩ := hI9
    have hf1 : 0 ≤ i.toInt ∧ p1.toInt ≤ i.toInt + ((k : Nat) : Int) := hf1
    have hP : va_P D classes (cW T ad S) H := hP
    have hD : va_D A (cW T ad S) := hD
    have hl : lv_has ls 6 [(5, .int i), (0, .ref (ad 5)), (1, .ref (g_K g wx)), (2, .ref (ad 61)), (3, .int p0), (4, .int p1)] := hl
    refine lv_iload hx hb d_Words_isWord_14 (lv_at hl 0 rfl) ?_
    refine lv_iload hx hb d_Words_isWord_16 (lv_at hl 5 rfl) ?_
    refine lv_icmp_ge (tgt := 44) hx hb d_Words_isWord_18 (by decide) (fun c18_1 => ?_) (fun c18_1 => ?_)
    · have fc18_1 : p1.toInt ≤ i.toInt := zt_le (show p1.toInt = _ from rfl) (show i.toInt = _ from rfl) c18_1
      refine lv_iconst (v := 1) hx hb d_Words_isWord_44 (by decide) ?_
      exact j_zret F hr (by decide +kernel) hlocks hK hS () (show (1 : Int32).toInt = 0 ∨ (1 : Int32).toInt = 1 by have := tI_1; omega) hP hD d_Words_isWord_45
    · have fc18_1 : i.toInt < p1.toInt := Int.not_le.mp (zt_nle (show p1.toInt = _ from rfl) (show i.toInt = _ from rfl) c18_1)
      refine lv_aload_n hx hb d_Words_isWord_21 rfl (lv_at hl 2 rfl) ?_
      refine lv_iload hx hb d_Words_isWord_22 (lv_at hl 0 rfl) ?_
      refine jc_ci (w := (fun _ => S)) hK hP hD hS hA (va_runV (As := [.int i]) (rest := []) F (c_String_charAt l D T ad g Bq S wx i  H.size hi_wx (show 0 ≤ i.toInt ∧ i.toInt < ((txL.getD wx 0 : Nat) : Int) by omega)) (j_cV (k := 1) (C := "java/lang/String") hts k_2_160 k_1_17 k_2_157 k_2_158 k_2_159 (by decide +kernel) ⟨Nat.le_of_ble_eq_true rfl, Nat.le_of_ble_eq_true rfl⟩) (jc_preO (j_preS hK hP hD csc csc_all csc_nd (fun _ _ _ _ h => EC.calling h) (fun U hU hW => EC.at hS hAB hU hW hE)) (hEV.2.2.2.2.1.1 _ hi_wx).1 hS) rfl rfl hl.1 rfl (lv_room (Nat.le_of_ble_eq_true rfl)) d_Words_isWord_24 ⟨Nat.le_of_ble_eq_true rfl, Nat.le_of_ble_eq_true rfl⟩) (fun rv2 u2 H locs hw2 hP hD hS => ?_)
      have hP : va_P D classes (cW T ad S) H := hP
      have hD : va_D A (cW T ad S) := hD
      have qhw2 : 0 ≤ rv2.toInt ∧ rv2.toInt ≤ 65535 := hw2
      have rrv2 := zt_rng rv2
      refine lv_aload_n hx hb d_Words_isWord_27 rfl (lv_at hl 3 rfl) ?_
      refine lv_iload_n hx hb d_Words_isWord_28 rfl (lv_at hl 4 rfl) ?_
      refine lv_iload hx hb d_Words_isWord_29 (lv_at hl 0 rfl) ?_
      refine lv_iadd hx hb d_Words_isWord_31 ?_
      refine lv_topi (fun x1 ex1 => ?_)
      have fx1 : x1.toInt = (i.toInt + p0.toInt) := by rw [ex1]; exact (zt_add (show p0.toInt = _ from rfl) (show i.toInt = _ from rfl) (by omega) (by omega)).trans (by omega)
      refine va_cald hx hb hK hP 61 2 (ce_61 _ _ _) rfl (zt_in fx1 (by omega) (by omega)) d_Words_isWord_32 ?_
      refine lv_topi (fun x2 ex2 => ?_)
      have gx2 : x2 = (a_xr_text S) (i.toInt + p0.toInt).toNat := ex2.trans (congrArg _ (zt_ix fx1))
      have fx2 : x2.toInt = ((a_xr_text S) (i.toInt + p0.toInt).toNat).toInt := by rw [gx2]
      have rx2 := zt_rng x2
      refine lv_icmp_eq (tgt := 38) hx hb d_Words_isWord_33 (by decide) (fun c33_1 => ?_) (fun c33_1 => ?_)
      · have fc33_1 : rv2.toInt = x2.toInt := zt_eq (show rv2.toInt = _ from rfl) (show x2.toInt = _ from rfl) c33_1
        refine lv_iinc (v := (i + 1)) (lv' := [(5, .int (i + 1)), (0, .ref (ad 5)), (1, .ref (g_K g wx)), (2, .ref (ad 61)), (3, .int p0), (4, .int p1)]) hx hb d_Words_isWord_38 hl (k := 0) rfl (by first | rfl | decide) (by decide) rfl (fun ls hl => ?_)
        obtain ⟨x3, ex3⟩ : ∃ z, z = (i + 1) := ⟨_, rfl⟩
        rw [← ex3] at hl
        have fx3 : x3.toInt = (i.toInt + 1) := by rw [ex3]; exact (zt_add (show i.toInt = _ from rfl) tI_1 (by omega) (by omega)).trans (by omega)
        have hl : lv_has ls 6 [(5, .int x3), (0, .ref (ad 5)), (1, .ref (g_K g wx)), (2, .ref (ad 61)), (3, .int p0), (4, .int p1)] := hl
        refine lv_goto (tgt := 14) hx hb d_Words_isWord_41 (by decide) ?_
        exact ih (k - 1) x3 _ _ _ (by omega) ⟨(show 0 ≤ x3.toInt ∧ p1.toInt ≤ x3.toInt + (((k - 1) : Nat) : Int) by omega), hP, hD, hS, lv_sub hl [0, 1, 2, 3, 4, 5] rfl⟩
      · first | have fc33_1 : rv2.toInt < x2.toInt := (by have := zt_ne (show rv2.toInt = _ from rfl) (show x2.toInt = _ from rfl) c33_1; omega) | have fc33_1 : x2.toInt < rv2.toInt := (by have := zt_ne (show rv2.toInt = _ from rfl) (show x2.toInt = _ from rfl) c33_1; omega) | skip
        refine lv_iconst (v := 0) hx hb d_Words_isWord_36 (by decide) ?_
        exact j_zret F hr (by decide +kernel) hlocks hK hS () (show (0 : Int32).toInt = 0 ∨ (0 : Int32).toInt = 1 by have := tI_0; omega) hP hD d_Words_isWord_37
  · first | have fc6_1 : rv1.toInt < p1.toInt := (by have := zt_ne (show rv1.toInt = _ from rfl) (show p1.toInt = _ from rfl) c6_1; omega) | have fc6_1 : p1.toInt < rv1.toInt := (by have := zt_ne (show rv1.toInt = _ from rfl) (show p1.toInt = _ from rfl) c6_1; omega) | skip
    refine lv_iconst (v := 0) hx hb d_Words_isWord_9 (by decide) ?_
    exact j_zret F hr (by decide +kernel) hlocks hK hS () (show (0 : Int32).toInt = 0 ∨ (0 : Int32).toInt = 1 by have := tI_0; omega) hP hD d_Words_isWord_10
theorem d_Words_isKnown_0 : decode prog_13_method_4_code 0 = .ok (.aload_n 0, 1) := by decide +kernel
theorem d_Words_isKnown_1 : decode prog_13_method_4_code 1 = .ok (.getfield 15, 3) := by decide +kernel
theorem k_1_76 : Cond.fieldLink "PageScribe$Words" 15 "PageScribe$Words" "lengths" "[I" ∈ gw := gw_of (tb_1 (List.mem_of_getElem? (i := 76) (by decide +kernel))) (by decide +kernel)
theorem d_Words_isKnown_4 : decode prog_13_method_4_code 4 = .ok (.iload_n 1, 1) := by decide +kernel
theorem d_Words_isKnown_5 : decode prog_13_method_4_code 5 = .ok (.iaload, 1) := by decide +kernel
theorem d_Words_isKnown_6 : decode prog_13_method_4_code 6 = .ok (.iload 4, 2) := by decide +kernel
theorem d_Words_isKnown_8 : decode prog_13_method_4_code 8 = .ok (.if_icmp .eq 5, 3) := by decide +kernel
theorem d_Words_isKnown_13 : decode prog_13_method_4_code 13 = .ok (.iconst 0, 1) := by decide +kernel
theorem d_Words_isKnown_14 : decode prog_13_method_4_code 14 = .ok (.istore 5, 2) := by decide +kernel
theorem d_Words_isKnown_16 : decode prog_13_method_4_code 16 = .ok (.iload 5, 2) := by decide +kernel
theorem d_Words_isKnown_18 : decode prog_13_method_4_code 18 = .ok (.iload 4, 2) := by decide +kernel
theorem d_Words_isKnown_20 : decode prog_13_method_4_code 20 = .ok (.if_icmp .ge 32, 3) := by decide +kernel
theorem d_Words_isKnown_52 : decode prog_13_method_4_code 52 = .ok (.iconst 1, 1) := by decide +kernel
theorem d_Words_isKnown_53 : decode prog_13_method_4_code 53 = .ok (.ireturn, 1) := by decide +kernel
theorem d_Words_isKnown_23 : decode prog_13_method_4_code 23 = .ok (.aload_n 0, 1) := by decide +kernel
theorem d_Words_isKnown_24 : decode prog_13_method_4_code 24 = .ok (.getfield 9, 3) := by decide +kernel
theorem k_1_75 : Cond.fieldLink "PageScribe$Words" 9 "PageScribe$Words" "letters" "[C" ∈ gw := gw_of (tb_1 (List.mem_of_getElem? (i := 75) (by decide +kernel))) (by decide +kernel)
theorem d_Words_isKnown_27 : decode prog_13_method_4_code 27 = .ok (.iload_n 1, 1) := by decide +kernel
theorem d_Words_isKnown_28 : decode prog_13_method_4_code 28 = .ok (.bipush 8, 2) := by decide +kernel
theorem d_Words_isKnown_30 : decode prog_13_method_4_code 30 = .ok (.imul, 1) := by decide +kernel
theorem d_Words_isKnown_31 : decode prog_13_method_4_code 31 = .ok (.iload 5, 2) := by decide +kernel
theorem d_Words_isKnown_33 : decode prog_13_method_4_code 33 = .ok (.iadd, 1) := by decide +kernel
theorem d_Words_isKnown_34 : decode prog_13_method_4_code 34 = .ok (.caload, 1) := by decide +kernel
theorem d_Words_isKnown_35 : decode prog_13_method_4_code 35 = .ok (.aload_n 2, 1) := by decide +kernel
theorem d_Words_isKnown_36 : decode prog_13_method_4_code 36 = .ok (.iload_n 3, 1) := by decide +kernel
theorem d_Words_isKnown_37 : decode prog_13_method_4_code 37 = .ok (.iload 5, 2) := by decide +kernel
theorem d_Words_isKnown_39 : decode prog_13_method_4_code 39 = .ok (.iadd, 1) := by decide +kernel
theorem d_Words_isKnown_40 : decode prog_13_method_4_code 40 = .ok (.caload, 1) := by decide +kernel
theorem d_Words_isKnown_41 : decode prog_13_method_4_code 41 = .ok (.if_icmp .eq 5, 3) := by decide +kernel
theorem d_Words_isKnown_46 : decode prog_13_method_4_code 46 = .ok (.iinc 5 1, 3) := by decide +kernel
theorem d_Words_isKnown_49 : decode prog_13_method_4_code 49 = .ok (.goto (-33), 3) := by decide +kernel
theorem d_Words_isKnown_44 : decode prog_13_method_4_code 44 = .ok (.iconst 0, 1) := by decide +kernel
theorem d_Words_isKnown_45 : decode prog_13_method_4_code 45 = .ok (.ireturn, 1) := by decide +kernel
theorem d_Words_isKnown_11 : decode prog_13_method_4_code 11 = .ok (.iconst 0, 1) := by decide +kernel
theorem d_Words_isKnown_12 : decode prog_13_method_4_code 12 = .ok (.ireturn, 1) := by decide +kernel
set_option maxHeartbeats 4000000 in
set_option maxRecDepth 100000 in
theorem c_Words_isKnown (l : Launch) (D : va_G) (T : Nat → ClassId) (ad : Nat → Nat) (S : CS) (p0 : Int32) (p1 : Int32) (p2 : Int32) (sz : Nat)  (hI : CIv S) (h1 : 0 ≤ p1.toInt ∧ 0 ≤ p2.toInt ∧ p2.toInt ≤ 120 - p1.toInt) (h2 : 0 ≤ p0.toInt ∧ p0.toInt < 40) : Met l ⟨"PageScribe$Words", "isKnown", "(I[CII)Z"⟩ (wy ⟨"PageScribe$Words", "isKnown", "(I[CII)Z"⟩ prog_13_method_4_code 6 (some .boolean)) ({ frames := 0, cells := 0, slots := 0, locals := 0 }) (va_Pc [.ref (ad 5), .int p0, .ref (ad 61), .int p1, .int p2] (Pw D T (cW T ad S) sz E0)) (va_Qi (fun (r : Int32) (u : Unit) => r.toInt = 0 ∨ r.toInt = 1) (fun u t => Bw D T (va_A (cW T ad S) sz) (cW T ad S) t) (va_A (cW T ad S) sz)) 0 0 (va_A (cW T ad S) sz) := by
  refine j_met (y := ⟨"PageScribe$Words", "isKnown", "(I[CII)Z"⟩) (b := prog_13_method_4_code) (n := 6) (ret := (some .boolean)) (av := [.ref (ad 5), .int p0, .ref (ad 61), .int p1, .int p2]) (Qc := fun A => va_Qi (fun (r : Int32) (u : Unit) => r.toInt = 0 ∨ r.toInt = 1) (fun u t => Bw D T A (cW T ad S) t) A) (by decide +kernel) (Nat.le_of_ble_eq_true rfl) (fun p e s m args below meth c A ls F hr hlocks hnm hK hP hD hS hA hN hE hl => ?_)
  obtain ⟨hx, hb, hml, hown, hts⟩ := id F
  have hl : lv_has ls 6 [(0, .ref (ad 5)), (1, .int p0), (2, .ref (ad 61)), (3, .int p1), (4, .int p2)] := hl
  obtain ⟨i_vst, i_vc0, i_vc1, i_vc2, i_vc3, i_vv0, i_vv1, i_vv2, i_vv3, i_vg, i_wct, i_wln, i_sd0, i_sd1, i_sd2, i_sd3, i_rln, i_rtx, i_rpl, i_rtk, i_cnv, i_pts, i_cik, i_und⟩ := id hI
  have rp0 := zt_rng p0
  have rp1 := zt_rng p1
  have rp2 := zt_rng p2
  refine lv_aload_n hx hb d_Words_isKnown_0 rfl (lv_at hl 0 rfl) ?_
  refine va_get (D := D) (ci := 1) (v := .ref (ad 7)) (C := "PageScribe$Words") (T := F_Words) (N := 3) hx hb hts i_Words hown hK hP 5 (ce_5 _ _ _) cl_1 1 (by decide) (hts _ k_1_76) (fun _ h9 => h9) rfl d_Words_isKnown_1 ?_
  refine lv_iload_n hx hb d_Words_isKnown_4 rfl (lv_at hl 1 rfl) ?_
  refine va_iald hx hb hK hP 7 0 (ce_7 _ _ _) rfl (zt_in (show p0.toInt = _ from rfl) (by omega) (by omega)) d_Words_isKnown_5 ?_
  refine lv_topi (fun x1 ex1 => ?_)
  have gx1 : x1 = (a_xw_lengths S) p0.toInt.toNat := ex1.trans (congrArg _ (zt_ix (show p0.toInt = _ from rfl)))
  have fx1 : x1.toInt = ((a_xw_lengths S) p0.toInt.toNat).toInt := by rw [gx1]
  have rx1 := zt_rng x1
  have kx1 := i_wln (p0.toInt.toNat) (by omega)
  refine lv_iload hx hb d_Words_isKnown_6 (lv_at hl 4 rfl) ?_
  refine lv_icmp_eq (tgt := 13) hx hb d_Words_isKnown_8 (by decide) (fun c8_1 => ?_) (fun c8_1 => ?_)
  · have fc8_1 : x1.toInt = p2.toInt := zt_eq (show x1.toInt = _ from rfl) (show p2.toInt = _ from rfl) c8_1
    refine lv_iconst (v := 0) hx hb d_Words_isKnown_13 (by decide) ?_
    refine lv_istore (lv' := [(5, .int 0), (0, .ref (ad 5)), (1, .int p0), (2, .ref (ad 61)), (3, .int p1), (4, .int p2)]) hx hb d_Words_isKnown_14 hl (by decide) rfl (fun ls hl => ?_)
    refine j_loop (α := Int32) (fun k x H locs ls => (0 ≤ x.toInt ∧ p2.toInt ≤ x.toInt + ((k : Nat) : Int)) ∧ va_P D classes (cW T ad S) H ∧ va_D A (cW T ad S) ∧ va_S A s.heap H locs ∧ lv_has ls 6 [(5, .int x), (0, .ref (ad 5)), (1, .int p0), (2, .ref (ad 61)), (3, .int p1), (4, .int p2)]) (fun _ _ ls => F0 m 16 ls []) (fun k x H locs ls hI9 ih => ?_) p2.toInt.toNat (0 : Int32) _ _ _ ⟨(show 0 ≤ (0 : Int32).toInt ∧ p2.toInt ≤ (0 : Int32).toInt + ((p2.toInt.toNat : Nat) : Int) by have := tI_0; omega), hP, hD, hS, lv_sub hl [0, 1, 2, 3, 4, 5] rfl⟩
    obtain ⟨i, rfl⟩ : ∃ z, z = x := ⟨_, rfl⟩
    obtain ⟨hf1, hP, hD, hS, hl⟩ := hI9
    have hf1 : 0 ≤ i.toInt ∧ p2.toInt ≤ i.toInt + ((k : Nat) : Int) := hf1
    have hP : va_P D classes (cW T ad S) H := hP
    have hD : va_D A (cW T ad S) := hD
    have hl : lv_has ls 6 [(5, .int i), (0, .ref (ad 5)), (1, .int p0), (2, .ref (ad 61)), (3, .int p1), (4, .int p2)] := hl
    refine lv_iload hx hb d_Words_isKnown_16 (lv_at hl 0 rfl) ?_
    refine lv_iload hx hb d_Words_isKnown_18 (lv_at hl 5 rfl) ?_
    refine lv_icmp_ge (tgt := 52) hx hb d_Words_isKnown_20 (by decide) (fun c20_1 => ?_) (fun c20_1 => ?_)
    · have fc20_1 : p2.toInt ≤ i.toInt := zt_le (show p2.toInt = _ from rfl) (show i.toInt = _ from rfl) c20_1
      refine lv_iconst (v := 1) hx hb d_Words_isKnown_52 (by decide) ?_
      exact j_zret F hr (by decide +kernel) hlocks hK hS () (show (1 : Int32).toInt = 0 ∨ (1 : Int32).toInt = 1 by have := tI_1; omega) hP hD d_Words_isKnown_53
    · have fc20_1 : i.toInt < p2.toInt := Int.not_le.mp (zt_nle (show p2.toInt = _ from rfl) (show i.toInt = _ from rfl) c20_1)
      refine lv_aload_n hx hb d_Words_isKnown_23 rfl (lv_at hl 1 rfl) ?_
      refine va_get (D := D) (ci := 1) (v := .ref (ad 6)) (C := "PageScribe$Words") (T := F_Words) (N := 3) hx hb hts i_Words hown hK hP 5 (ce_5 _ _ _) cl_1 0 (by decide) (hts _ k_1_75) (fun _ h9 => h9) rfl d_Words_isKnown_24 ?_
      refine lv_iload_n hx hb d_Words_isKnown_27 rfl (lv_at hl 2 rfl) ?_
      refine lv_bipush (v := 8) hx hb d_Words_isKnown_28 (by decide) ?_
      refine lv_imul hx hb d_Words_isKnown_30 ?_
      refine lv_topi (fun x2 ex2 => ?_)
      have fx2 : x2.toInt = (8 * p0.toInt) := by rw [ex2]; exact (zt_mul (show p0.toInt = _ from rfl) tI_8 rfl (by omega) (by omega)).trans (by omega)
      refine lv_iload hx hb d_Words_isKnown_31 (lv_at hl 0 rfl) ?_
      refine lv_iadd hx hb d_Words_isKnown_33 ?_
      refine lv_topi (fun x3 ex3 => ?_)
      have fx3 : x3.toInt = (i.toInt + 8 * p0.toInt) := by rw [ex3]; exact (zt_add fx2 (show i.toInt = _ from rfl) (by omega) (by omega)).trans (by omega)
      refine va_cald hx hb hK hP 6 2 (ce_6 _ _ _) rfl (zt_in fx3 (by omega) (by omega)) d_Words_isKnown_34 ?_
      refine lv_topi (fun x4 ex4 => ?_)
      have gx4 : x4 = (a_xw_letters S) (i.toInt + 8 * p0.toInt).toNat := ex4.trans (congrArg _ (zt_ix fx3))
      have fx4 : x4.toInt = ((a_xw_letters S) (i.toInt + 8 * p0.toInt).toNat).toInt := by rw [gx4]
      have rx4 := zt_rng x4
      refine lv_aload_n hx hb d_Words_isKnown_35 rfl (lv_at hl 3 rfl) ?_
      refine lv_iload_n hx hb d_Words_isKnown_36 rfl (lv_at hl 4 rfl) ?_
      refine lv_iload hx hb d_Words_isKnown_37 (lv_at hl 0 rfl) ?_
      refine lv_iadd hx hb d_Words_isKnown_39 ?_
      refine lv_topi (fun x5 ex5 => ?_)
      have fx5 : x5.toInt = (i.toInt + p1.toInt) := by rw [ex5]; exact (zt_add (show p1.toInt = _ from rfl) (show i.toInt = _ from rfl) (by omega) (by omega)).trans (by omega)
      refine va_cald hx hb hK hP 61 2 (ce_61 _ _ _) rfl (zt_in fx5 (by omega) (by omega)) d_Words_isKnown_40 ?_
      refine lv_topi (fun x6 ex6 => ?_)
      have gx6 : x6 = (a_xr_text S) (i.toInt + p1.toInt).toNat := ex6.trans (congrArg _ (zt_ix fx5))
      have fx6 : x6.toInt = ((a_xr_text S) (i.toInt + p1.toInt).toNat).toInt := by rw [gx6]
      have rx6 := zt_rng x6
      refine lv_icmp_eq (tgt := 46) hx hb d_Words_isKnown_41 (by decide) (fun c41_1 => ?_) (fun c41_1 => ?_)
      · have fc41_1 : x4.toInt = x6.toInt := zt_eq (show x4.toInt = _ from rfl) (show x6.toInt = _ from rfl) c41_1
        refine lv_iinc (v := (i + 1)) (lv' := [(5, .int (i + 1)), (0, .ref (ad 5)), (1, .int p0), (2, .ref (ad 61)), (3, .int p1), (4, .int p2)]) hx hb d_Words_isKnown_46 hl (k := 0) rfl (by first | rfl | decide) (by decide) rfl (fun ls hl => ?_)
        obtain ⟨x7, ex7⟩ : ∃ z, z = (i + 1) := ⟨_, rfl⟩
        rw [← ex7] at hl
        have fx7 : x7.toInt = (i.toInt + 1) := by rw [ex7]; exact (zt_add (show i.toInt = _ from rfl) tI_1 (by omega) (by omega)).trans (by omega)
        have hl : lv_has ls 6 [(5, .int x7), (0, .ref (ad 5)), (1, .int p0), (2, .ref (ad 61)), (3, .int p1), (4, .int p2)] := hl
        refine lv_goto (tgt := 16) hx hb d_Words_isKnown_49 (by decide) ?_
        exact ih (k - 1) x7 _ _ _ (by omega) ⟨(show 0 ≤ x7.toInt ∧ p2.toInt ≤ x7.toInt + (((k - 1) : Nat) : Int) by omega), hP, hD, hS, lv_sub hl [0, 1, 2, 3, 4, 5] rfl⟩
      · first | have fc41_1 : x4.toInt < x6.toInt := (by have := zt_ne (show x4.toInt = _ from rfl) (show x6.toInt = _ from rfl) c41_1; omega) | have fc41_1 : x6.toInt < x4.toInt := (by have := zt_ne (show x4.toInt = _ from rfl) (show x6.toInt = _ from rfl) c41_1; omega) | skip
        refine lv_iconst (v := 0) hx hb d_Words_isKnown_44 (by decide) ?_
        exact j_zret F hr (by decide +kernel) hlocks hK hS () (show (0 : Int32).toInt = 0 ∨ (0 : Int32).toInt = 1 by have := tI_0; omega) hP hD d_Words_isKnown_45
  · first | have fc8_1 : x1.toInt < p2.toInt := (by have := zt_ne (show x1.toInt = _ from rfl) (show p2.toInt = _ from rfl) c8_1; omega) | have fc8_1 : p2.toInt < x1.toInt := (by have := zt_ne (show x1.toInt = _ from rfl) (show p2.toInt = _ from rfl) c8_1; omega) | skip
    refine lv_iconst (v := 0) hx hb d_Words_isKnown_11 (by decide) ?_
    exact j_zret F hr (by decide +kernel) hlocks hK hS () (show (0 : Int32).toInt = 0 ∨ (0 : Int32).toInt = 1 by have := tI_0; omega) hP hD d_Words_isKnown_12
theorem d_Words_find_0 : decode prog_13_method_2_code 0 = .ok (.iload_n 2, 1) := by decide +kernel
theorem d_Words_find_1 : decode prog_13_method_2_code 1 = .ok (.ifCond .lt 15, 3) := by decide +kernel
theorem d_Words_find_16 : decode prog_13_method_2_code 16 = .ok (.iconst (-1), 1) := by decide +kernel
theorem d_Words_find_17 : decode prog_13_method_2_code 17 = .ok (.ireturn, 1) := by decide +kernel
theorem d_Words_find_4 : decode prog_13_method_2_code 4 = .ok (.iload_n 3, 1) := by decide +kernel
theorem d_Words_find_5 : decode prog_13_method_2_code 5 = .ok (.ifCond .lt 11, 3) := by decide +kernel
theorem d_Words_find_8 : decode prog_13_method_2_code 8 = .ok (.iload_n 3, 1) := by decide +kernel
theorem d_Words_find_9 : decode prog_13_method_2_code 9 = .ok (.aload_n 1, 1) := by decide +kernel
theorem d_Words_find_10 : decode prog_13_method_2_code 10 = .ok (.arraylength, 1) := by decide +kernel
theorem d_Words_find_11 : decode prog_13_method_2_code 11 = .ok (.iload_n 2, 1) := by decide +kernel
theorem d_Words_find_12 : decode prog_13_method_2_code 12 = .ok (.isub, 1) := by decide +kernel
theorem d_Words_find_13 : decode prog_13_method_2_code 13 = .ok (.if_icmp .le 5, 3) := by decide +kernel
theorem d_Words_find_18 : decode prog_13_method_2_code 18 = .ok (.iconst 0, 1) := by decide +kernel
theorem d_Words_find_19 : decode prog_13_method_2_code 19 = .ok (.istore 4, 2) := by decide +kernel
theorem d_Words_find_21 : decode prog_13_method_2_code 21 = .ok (.iload 4, 2) := by decide +kernel
theorem d_Words_find_23 : decode prog_13_method_2_code 23 = .ok (.getstatic 23, 3) := by decide +kernel
theorem d_Words_find_26 : decode prog_13_method_2_code 26 = .ok (.arraylength, 1) := by decide +kernel
theorem d_Words_find_27 : decode prog_13_method_2_code 27 = .ok (.if_icmp .ge 31, 3) := by decide +kernel
theorem tI_72 : (72 : Int32).toInt = 72 := by decide +kernel
theorem d_Words_find_58 : decode prog_13_method_2_code 58 = .ok (.iconst 0, 1) := by decide +kernel
theorem d_Words_find_59 : decode prog_13_method_2_code 59 = .ok (.istore 4, 2) := by decide +kernel
theorem d_Words_find_61 : decode prog_13_method_2_code 61 = .ok (.iload 4, 2) := by decide +kernel
theorem d_Words_find_63 : decode prog_13_method_2_code 63 = .ok (.aload_n 0, 1) := by decide +kernel
theorem d_Words_find_64 : decode prog_13_method_2_code 64 = .ok (.getfield 19, 3) := by decide +kernel
theorem k_1_77 : Cond.fieldLink "PageScribe$Words" 19 "PageScribe$Words" "count" "I" ∈ gw := gw_of (tb_1 (List.mem_of_getElem? (i := 77) (by decide +kernel))) (by decide +kernel)
theorem d_Words_find_67 : decode prog_13_method_2_code 67 = .ok (.if_icmp .ge 29, 3) := by decide +kernel
theorem d_Words_find_96 : decode prog_13_method_2_code 96 = .ok (.iconst (-1), 1) := by decide +kernel
theorem d_Words_find_97 : decode prog_13_method_2_code 97 = .ok (.ireturn, 1) := by decide +kernel
theorem d_Words_find_70 : decode prog_13_method_2_code 70 = .ok (.aload_n 0, 1) := by decide +kernel
theorem d_Words_find_71 : decode prog_13_method_2_code 71 = .ok (.iload 4, 2) := by decide +kernel
theorem d_Words_find_73 : decode prog_13_method_2_code 73 = .ok (.aload_n 1, 1) := by decide +kernel
theorem d_Words_find_74 : decode prog_13_method_2_code 74 = .ok (.iload_n 2, 1) := by decide +kernel
theorem d_Words_find_75 : decode prog_13_method_2_code 75 = .ok (.iload_n 3, 1) := by decide +kernel
theorem d_Words_find_76 : decode prog_13_method_2_code 76 = .ok (.invokevirtual 37, 3) := by decide +kernel
theorem k_3_158 : Cond.code ⟨"PageScribe$Words", "isKnown", "(I[CII)Z"⟩ prog_13_method_4_code 6 (some .boolean) ∈ gw := gw_of (tb_3 (List.mem_of_getElem? (i := 158) (by decide +kernel))) (by decide +kernel)
theorem k_1_4 : Cond.initialized "PageScribe$Words" ∈ gw := gw_of (tb_1 (List.mem_of_getElem? (i := 4) (by decide +kernel))) (by decide +kernel)
theorem k_3_155 : Cond.methodLink "PageScribe$Words" 37 ⟨"PageScribe$Words", "isKnown", "(I[CII)Z"⟩ ∈ gw := gw_of (tb_3 (List.mem_of_getElem? (i := 155) (by decide +kernel))) (by decide +kernel)
theorem k_3_157 : Cond.instanceMethod ⟨"PageScribe$Words", "isKnown", "(I[CII)Z"⟩ ∈ gw := gw_of (tb_3 (List.mem_of_getElem? (i := 157) (by decide +kernel))) (by decide +kernel)
theorem k_0_12 : Cond.selects "PageScribe$Words" ⟨"PageScribe$Words", "isKnown", "(I[CII)Z"⟩ ⟨"PageScribe$Words", "isKnown", "(I[CII)Z"⟩ ∈ gw := gw_of (tb_0 (List.mem_of_getElem? (i := 12) (by decide +kernel))) (by decide +kernel)
theorem d_Words_find_79 : decode prog_13_method_2_code 79 = .ok (.ifCond .eq 11, 3) := by decide +kernel
theorem d_Words_find_90 : decode prog_13_method_2_code 90 = .ok (.iinc 4 1, 3) := by decide +kernel
theorem d_Words_find_93 : decode prog_13_method_2_code 93 = .ok (.goto (-32), 3) := by decide +kernel
theorem d_Words_find_82 : decode prog_13_method_2_code 82 = .ok (.getstatic 23, 3) := by decide +kernel
theorem d_Words_find_85 : decode prog_13_method_2_code 85 = .ok (.arraylength, 1) := by decide +kernel
theorem d_Words_find_86 : decode prog_13_method_2_code 86 = .ok (.iload 4, 2) := by decide +kernel
theorem d_Words_find_88 : decode prog_13_method_2_code 88 = .ok (.iadd, 1) := by decide +kernel
theorem d_Words_find_89 : decode prog_13_method_2_code 89 = .ok (.ireturn, 1) := by decide +kernel
theorem d_Words_find_30 : decode prog_13_method_2_code 30 = .ok (.aload_n 0, 1) := by decide +kernel
theorem d_Words_find_31 : decode prog_13_method_2_code 31 = .ok (.getstatic 23, 3) := by decide +kernel
theorem d_Words_find_34 : decode prog_13_method_2_code 34 = .ok (.iload 4, 2) := by decide +kernel
theorem d_Words_find_36 : decode prog_13_method_2_code 36 = .ok (.aaload, 1) := by decide +kernel
theorem d_Words_find_37 : decode prog_13_method_2_code 37 = .ok (.getfield 27, 3) := by decide +kernel
theorem k_8_184 : Cond.fieldLink "PageScribe$Words" 27 "PageScribe$Op" "word" "Ljava/lang/String;" ∈ gw := gw_of (tb_8 (List.mem_of_getElem? (i := 184) (by decide +kernel))) (by decide +kernel)
theorem d_Words_find_40 : decode prog_13_method_2_code 40 = .ok (.aload_n 1, 1) := by decide +kernel
theorem d_Words_find_41 : decode prog_13_method_2_code 41 = .ok (.iload_n 2, 1) := by decide +kernel
theorem d_Words_find_42 : decode prog_13_method_2_code 42 = .ok (.iload_n 3, 1) := by decide +kernel
theorem d_Words_find_43 : decode prog_13_method_2_code 43 = .ok (.invokevirtual 33, 3) := by decide +kernel
theorem k_3_154 : Cond.code ⟨"PageScribe$Words", "isWord", "(Ljava/lang/String;[CII)Z"⟩ prog_13_method_3_code 6 (some .boolean) ∈ gw := gw_of (tb_3 (List.mem_of_getElem? (i := 154) (by decide +kernel))) (by decide +kernel)
theorem k_3_151 : Cond.methodLink "PageScribe$Words" 33 ⟨"PageScribe$Words", "isWord", "(Ljava/lang/String;[CII)Z"⟩ ∈ gw := gw_of (tb_3 (List.mem_of_getElem? (i := 151) (by decide +kernel))) (by decide +kernel)
theorem k_3_153 : Cond.instanceMethod ⟨"PageScribe$Words", "isWord", "(Ljava/lang/String;[CII)Z"⟩ ∈ gw := gw_of (tb_3 (List.mem_of_getElem? (i := 153) (by decide +kernel))) (by decide +kernel)
theorem k_0_11 : Cond.selects "PageScribe$Words" ⟨"PageScribe$Words", "isWord", "(Ljava/lang/String;[CII)Z"⟩ ⟨"PageScribe$Words", "isWord", "(Ljava/lang/String;[CII)Z"⟩ ∈ gw := gw_of (tb_0 (List.mem_of_getElem? (i := 11) (by decide +kernel))) (by decide +kernel)
theorem d_Words_find_46 : decode prog_13_method_2_code 46 = .ok (.ifCond .eq 6, 3) := by decide +kernel
theorem d_Words_find_52 : decode prog_13_method_2_code 52 = .ok (.iinc 4 1, 3) := by decide +kernel
theorem d_Words_find_55 : decode prog_13_method_2_code 55 = .ok (.goto (-34), 3) := by decide +kernel
theorem d_Words_find_49 : decode prog_13_method_2_code 49 = .ok (.iload 4, 2) := by decide +kernel
theorem d_Words_find_51 : decode prog_13_method_2_code 51 = .ok (.ireturn, 1) := by decide +kernel
set_option maxHeartbeats 4000000 in
set_option maxRecDepth 100000 in
theorem c_Words_find (l : Launch) (D : va_G) (T : Nat → ClassId) (ad : Nat → Nat) (g : GE) (Bq : Nat → Prop) (S : CS) (p0 : Int32) (p1 : Int32) (sz : Nat)  (hI : CIv S) : Met l ⟨"PageScribe$Words", "find", "([CII)I"⟩ (wy ⟨"PageScribe$Words", "find", "([CII)I"⟩ prog_13_method_2_code 5 (some .int)) ({ frames := 5, cells := 0, slots := 0, locals := 350 }) (va_Pc [.ref (ad 5), .ref (ad 61), .int p0, .int p1] (Pw D T (cW T ad S) sz (EC g Bq ad))) (va_Qi (fun (r : Int32) (u : Unit) => True) (fun u t => Bw D T (va_A (cW T ad S) sz) (cW T ad S) t) (va_A (cW T ad S) sz)) 0 0 (va_A (cW T ad S) sz) := by
  refine j_met (y := ⟨"PageScribe$Words", "find", "([CII)I"⟩) (b := prog_13_method_2_code) (n := 5) (ret := (some .int)) (av := [.ref (ad 5), .ref (ad 61), .int p0, .int p1]) (Qc := fun A => va_Qi (fun (r : Int32) (u : Unit) => True) (fun u t => Bw D T A (cW T ad S) t) A) (by decide +kernel) (Nat.le_of_ble_eq_true rfl) (fun p e s m args below meth c A ls F hr hlocks hnm hK hP hD hS hA hN hE hl => ?_)
  obtain ⟨hx, hb, hml, hown, hts⟩ := id F
  have hl : lv_has ls 5 [(0, .ref (ad 5)), (1, .ref (ad 61)), (2, .int p0), (3, .int p1)] := hl
  obtain ⟨i_vst, i_vc0, i_vc1, i_vc2, i_vc3, i_vv0, i_vv1, i_vv2, i_vv3, i_vg, i_wct, i_wln, i_sd0, i_sd1, i_sd2, i_sd3, i_rln, i_rtx, i_rpl, i_rtk, i_cnv, i_pts, i_cik, i_und⟩ := id hI
  have hAB : ∀ q, A q → Bq q := EC.ab hE hN
  have hEV := hE.1.narrow hAB
  have rp0 := zt_rng p0
  have rp1 := zt_rng p1
  refine lv_iload_n hx hb d_Words_find_0 rfl (lv_at hl 2 rfl) ?_
  refine lv_if_lt (tgt := 16) hx hb d_Words_find_1 (by decide) (fun c1_1 => ?_) (fun c1_1 => ?_)
  · have fc1_1 : p0.toInt < 0 := zt_lt (show p0.toInt = _ from rfl) tI_0 c1_1
    refine lv_iconst (v := (-1)) hx hb d_Words_find_16 (by decide) ?_
    exact j_iret F hr hlocks hK hS () trivial hP hD d_Words_find_17
  · have fc1_1 : 0 ≤ p0.toInt := Int.not_lt.mp (zt_nlt (show p0.toInt = _ from rfl) tI_0 c1_1)
    refine lv_iload_n hx hb d_Words_find_4 rfl (lv_at hl 3 rfl) ?_
    refine lv_if_lt (tgt := 16) hx hb d_Words_find_5 (by decide) (fun c5_1 => ?_) (fun c5_1 => ?_)
    · have fc5_1 : p1.toInt < 0 := zt_lt (show p1.toInt = _ from rfl) tI_0 c5_1
      refine lv_iconst (v := (-1)) hx hb d_Words_find_16 (by decide) ?_
      exact j_iret F hr hlocks hK hS () trivial hP hD d_Words_find_17
    · have fc5_1 : 0 ≤ p1.toInt := Int.not_lt.mp (zt_nlt (show p1.toInt = _ from rfl) tI_0 c5_1)
      refine lv_iload_n hx hb d_Words_find_8 rfl (lv_at hl 3 rfl) ?_
      refine lv_aload_n hx hb d_Words_find_9 rfl (lv_at hl 1 rfl) ?_
      refine va_alen (v := 120) hx hb hK hP 61 2 (ce_61 _ _ _) rfl (show Int32.ofNat 120 = 120 from by decide +kernel) d_Words_find_10 ?_
      refine lv_iload_n hx hb d_Words_find_11 rfl (lv_at hl 2 rfl) ?_
      refine lv_isub hx hb d_Words_find_12 ?_
      refine lv_topi (fun x1 ex1 => ?_)
      have fx1 : x1.toInt = (-p0.toInt + 120) := by rw [ex1]; exact (zt_sub tI_120 (show p0.toInt = _ from rfl) (by omega) (by omega)).trans (by omega)
      refine lv_icmp_le (tgt := 18) hx hb d_Words_find_13 (by decide) (fun c13_1 => ?_) (fun c13_1 => ?_)
      · have fc13_1 : p1.toInt ≤ (-p0.toInt + 120) := zt_le (show p1.toInt = _ from rfl) fx1 c13_1
        refine lv_iconst (v := 0) hx hb d_Words_find_18 (by decide) ?_
        refine lv_istore (lv' := [(4, .int 0), (0, .ref (ad 5)), (1, .ref (ad 61)), (2, .int p0), (3, .int p1)]) hx hb d_Words_find_19 hl (by decide) rfl (fun ls hl => ?_)
        refine j_loop (α := Int32) (fun k x H locs ls => (0 ≤ x.toInt ∧ x.toInt ≤ 72 ∧ 72 ≤ x.toInt + ((k : Nat) : Int)) ∧ va_P D classes (cW T ad S) H ∧ va_D A (cW T ad S) ∧ va_S A s.heap H locs ∧ lv_has ls 5 [(4, .int x), (0, .ref (ad 5)), (1, .ref (ad 61)), (2, .int p0), (3, .int p1)]) (fun _ _ ls => F0 m 21 ls []) (fun k x H locs ls hI9 ih => ?_) 72 (0 : Int32) _ _ _ ⟨(show 0 ≤ (0 : Int32).toInt ∧ (0 : Int32).toInt ≤ 72 ∧ 72 ≤ (0 : Int32).toInt + ((72 : Nat) : Int) by have := tI_0; omega), hP, hD, hS, lv_sub hl [0, 1, 2, 3, 4] rfl⟩
        obtain ⟨i, rfl⟩ : ∃ z, z = x := ⟨_, rfl⟩
        obtain ⟨hf1, hP, hD, hS, hl⟩ := hI9
        have hf1 : 0 ≤ i.toInt ∧ i.toInt ≤ 72 ∧ 72 ≤ i.toInt + ((k : Nat) : Int) := hf1
        have hP : va_P D classes (cW T ad S) H := hP
        have hD : va_D A (cW T ad S) := hD
        have hl : lv_has ls 5 [(4, .int i), (0, .ref (ad 5)), (1, .ref (ad 61)), (2, .int p0), (3, .int p1)] := hl
        refine lv_iload hx hb d_Words_find_21 (lv_at hl 0 rfl) ?_
        refine va_getsN hx hb hEV.2.1.1 hS hown (va_Nw.use rfl (hE.2.2.2 (Cond.fieldLinkNest "PageScribe$Words" 23 "PageScribe" "OPERATORS" "[LPageScribe$Op;" "PageScribe") (List.mem_of_getElem? (i := 1) rfl))) (fun _ h9 => h9) d_Words_find_23 ?_
        refine va_tlen hx hb hEV.2.1.2 hS (v := 72) (by decide +kernel) d_Words_find_26 ?_
        refine lv_icmp_ge (tgt := 58) hx hb d_Words_find_27 (by decide) (fun c27_1 => ?_) (fun c27_1 => ?_)
        · have fc27_1 : 72 ≤ i.toInt := zt_le tI_72 (show i.toInt = _ from rfl) c27_1
          refine lv_iconst (v := 0) hx hb d_Words_find_58 (by decide) ?_
          refine lv_istore (lv' := [(4, .int 0), (0, .ref (ad 5)), (1, .ref (ad 61)), (2, .int p0), (3, .int p1)]) hx hb d_Words_find_59 hl (by decide) rfl (fun ls hl => ?_)
          refine j_loop (α := Int32) (fun k x H locs ls => (0 ≤ x.toInt ∧ x.toInt ≤ 40 ∧ 40 ≤ x.toInt + ((k : Nat) : Int)) ∧ va_P D classes (cW T ad S) H ∧ va_D A (cW T ad S) ∧ va_S A s.heap H locs ∧ lv_has ls 5 [(4, .int x), (0, .ref (ad 5)), (1, .ref (ad 61)), (2, .int p0), (3, .int p1)]) (fun _ _ ls => F0 m 61 ls []) (fun k2 x H locs ls hI9 ih2 => ?_) 40 (0 : Int32) _ _ _ ⟨(show 0 ≤ (0 : Int32).toInt ∧ (0 : Int32).toInt ≤ 40 ∧ 40 ≤ (0 : Int32).toInt + ((40 : Nat) : Int) by have := tI_0; omega), hP, hD, hS, lv_sub hl [0, 1, 2, 3, 4] rfl⟩
          obtain ⟨i, rfl⟩ : ∃ z, z = x := ⟨_, rfl⟩
          obtain ⟨hf2, hP, hD, hS, hl⟩ := hI9
          have hf2 : 0 ≤ i.toInt ∧ i.toInt ≤ 40 ∧ 40 ≤ i.toInt + ((k2 : Nat) : Int) := hf2
          have hP : va_P D classes (cW T ad S) H := hP
          have hD : va_D A (cW T ad S) := hD
          have hl : lv_has ls 5 [(4, .int i), (0, .ref (ad 5)), (1, .ref (ad 61)), (2, .int p0), (3, .int p1)] := hl
          refine lv_iload hx hb d_Words_find_61 (lv_at hl 0 rfl) ?_
          refine lv_aload_n hx hb d_Words_find_63 rfl (lv_at hl 1 rfl) ?_
          refine va_get (D := D) (ci := 1) (v := .int (f_xw_count S)) (C := "PageScribe$Words") (T := F_Words) (N := 3) hx hb hts i_Words hown hK hP 5 (ce_5 _ _ _) cl_1 2 (by decide) (hts _ k_1_77) (fun _ h9 => h9) rfl d_Words_find_64 ?_
          refine lv_icmp_ge (tgt := 96) hx hb d_Words_find_67 (by decide) (fun c67_1 => ?_) (fun c67_1 => ?_)
          · have fc67_1 : (f_xw_count S).toInt ≤ i.toInt := zt_le (show (f_xw_count S).toInt = _ from rfl) (show i.toInt = _ from rfl) c67_1
            refine lv_iconst (v := (-1)) hx hb d_Words_find_96 (by decide) ?_
            exact j_iret F hr hlocks hK hS () trivial hP hD d_Words_find_97
          · have fc67_1 : i.toInt < (f_xw_count S).toInt := Int.not_le.mp (zt_nle (show (f_xw_count S).toInt = _ from rfl) (show i.toInt = _ from rfl) c67_1)
            refine lv_aload_n hx hb d_Words_find_70 rfl (lv_at hl 1 rfl) ?_
            refine lv_iload hx hb d_Words_find_71 (lv_at hl 0 rfl) ?_
            refine lv_aload_n hx hb d_Words_find_73 rfl (lv_at hl 2 rfl) ?_
            refine lv_iload_n hx hb d_Words_find_74 rfl (lv_at hl 3 rfl) ?_
            refine lv_iload_n hx hb d_Words_find_75 rfl (lv_at hl 4 rfl) ?_
            refine jc_ci (w := (fun _ => S)) hK hP hD hS hA (va_runV (As := [.int i, .ref (ad 61), .int p0, .int p1]) (rest := []) F (c_Words_isKnown l D T ad S i p0 p1  H.size ⟨i_vst, i_vc0, i_vc1, i_vc2, i_vc3, i_vv0, i_vv1, i_vv2, i_vv3, i_vg, i_wct, i_wln, i_sd0, i_sd1, i_sd2, i_sd3, i_rln, i_rtx, i_rpl, i_rtk, i_cnv, i_pts, i_cik, i_und⟩ (show 0 ≤ p0.toInt ∧ 0 ≤ p1.toInt ∧ p1.toInt ≤ 120 - p0.toInt by omega) (show 0 ≤ i.toInt ∧ i.toInt < 40 by omega)) (j_cV (k := 4) (C := "PageScribe$Words") hts k_3_158 k_1_4 k_3_155 k_3_157 k_0_12 (by decide +kernel) ⟨Nat.le_of_ble_eq_true rfl, Nat.le_of_ble_eq_true rfl⟩) (j_preV (q0 := 5) (ci := 1) hK hP hD csc csc_all csc_nd cl_1 (ce_5 _ _ _) (fun _ _ _ _ h => h) (fun _ _ _ => trivial)) rfl rfl hl.1 rfl (lv_room (Nat.le_of_ble_eq_true rfl)) d_Words_find_76 ⟨Nat.le_of_ble_eq_true rfl, Nat.le_of_ble_eq_true rfl⟩) (fun rv1 u1 H locs hw1 hP hD hS => ?_)
            have hP : va_P D classes (cW T ad S) H := hP
            have hD : va_D A (cW T ad S) := hD
            have qhw1 : rv1.toInt = 0 ∨ rv1.toInt = 1 := hw1
            have rrv1 := zt_rng rv1
            refine lv_if_eq (tgt := 90) hx hb d_Words_find_79 (by decide) (fun c79_1 => ?_) (fun c79_1 => ?_)
            · have fc79_1 : rv1.toInt = 0 := zt_eq (show rv1.toInt = _ from rfl) tI_0 c79_1
              refine lv_iinc (v := (i + 1)) (lv' := [(4, .int (i + 1)), (0, .ref (ad 5)), (1, .ref (ad 61)), (2, .int p0), (3, .int p1)]) hx hb d_Words_find_90 hl (k := 0) rfl (by first | rfl | decide) (by decide) rfl (fun ls hl => ?_)
              obtain ⟨x2, ex2⟩ : ∃ z, z = (i + 1) := ⟨_, rfl⟩
              rw [← ex2] at hl
              have fx2 : x2.toInt = (i.toInt + 1) := by rw [ex2]; exact (zt_add (show i.toInt = _ from rfl) tI_1 (by omega) (by omega)).trans (by omega)
              have hl : lv_has ls 5 [(4, .int x2), (0, .ref (ad 5)), (1, .ref (ad 61)), (2, .int p0), (3, .int p1)] := hl
              refine lv_goto (tgt := 61) hx hb d_Words_find_93 (by decide) ?_
              exact ih2 (k2 - 1) x2 _ _ _ (by omega) ⟨(show 0 ≤ x2.toInt ∧ x2.toInt ≤ 40 ∧ 40 ≤ x2.toInt + (((k2 - 1) : Nat) : Int) by omega), hP, hD, hS, lv_sub hl [0, 1, 2, 3, 4] rfl⟩
            · first | have fc79_1 : rv1.toInt < 0 := (by have := zt_ne (show rv1.toInt = _ from rfl) tI_0 c79_1; omega) | have fc79_1 : 0 < rv1.toInt := (by have := zt_ne (show rv1.toInt = _ from rfl) tI_0 c79_1; omega) | skip
              refine va_getsN hx hb hEV.2.1.1 hS hown (va_Nw.use rfl (hE.2.2.2 (Cond.fieldLinkNest "PageScribe$Words" 23 "PageScribe" "OPERATORS" "[LPageScribe$Op;" "PageScribe") (List.mem_of_getElem? (i := 1) rfl))) (fun _ h9 => h9) d_Words_find_82 ?_
              refine va_tlen hx hb hEV.2.1.2 hS (v := 72) (by decide +kernel) d_Words_find_85 ?_
              refine lv_iload hx hb d_Words_find_86 (lv_at hl 0 rfl) ?_
              refine lv_iadd hx hb d_Words_find_88 ?_
              refine lv_topi (fun x3 ex3 => ?_)
              have rx3 := zt_rng x3
              exact j_iret F hr hlocks hK hS () trivial hP hD d_Words_find_89
        · have fc27_1 : i.toInt < 72 := Int.not_le.mp (zt_nle tI_72 (show i.toInt = _ from rfl) c27_1)
          refine lv_aload_n hx hb d_Words_find_30 rfl (lv_at hl 1 rfl) ?_
          refine va_getsN hx hb hEV.2.1.1 hS hown (va_Nw.use rfl (hE.2.2.2 (Cond.fieldLinkNest "PageScribe$Words" 23 "PageScribe" "OPERATORS" "[LPageScribe$Op;" "PageScribe") (List.mem_of_getElem? (i := 1) rfl))) (fun _ h9 => h9) d_Words_find_31 ?_
          refine lv_iload hx hb d_Words_find_34 (lv_at hl 0 rfl) ?_
          have hi1 : i.toInt.toNat < 72 := by omega
          refine vb_tq hx hb hEV.2.1.2 hS (zt_in (show i.toInt = _ from rfl) (by omega) (by omega)) (v := .ref (g_en g (i.toInt.toNat))) (by rw [zt_ix (show i.toInt = _ from rfl)]) d_Words_find_36 ?_
          refine vk_getf hx hb (hEV.1 (i.toInt.toNat) hi1).2.2.2.1 hS hown (hts _ k_8_184) (fun _ h9 => h9) d_Words_find_37 ?_
          refine lv_aload_n hx hb d_Words_find_40 rfl (lv_at hl 2 rfl) ?_
          refine lv_iload_n hx hb d_Words_find_41 rfl (lv_at hl 3 rfl) ?_
          refine lv_iload_n hx hb d_Words_find_42 rfl (lv_at hl 4 rfl) ?_
          refine jc_ci (w := (fun _ => S)) hK hP hD hS hA (va_runV (As := [.ref (g_K g (i.toInt.toNat)), .ref (ad 61), .int p0, .int p1]) (rest := []) F (c_Words_isWord l D T ad g Bq S (i.toInt.toNat) p0 p1  H.size (Nat.lt_trans hi1 (by decide)) (show 0 ≤ p0.toInt ∧ 0 ≤ p1.toInt ∧ p1.toInt ≤ 120 - p0.toInt by omega)) (j_cV (k := 4) (C := "PageScribe$Words") hts k_3_154 k_1_4 k_3_151 k_3_153 k_0_11 (by decide +kernel) ⟨Nat.le_of_ble_eq_true rfl, Nat.le_of_ble_eq_true rfl⟩) (j_preV (q0 := 5) (ci := 1) hK hP hD csc csc_all csc_nd cl_1 (ce_5 _ _ _) (fun _ _ _ _ h => EC.calling h) (fun U hU hW => EC.at hS hAB hU hW hE)) rfl rfl hl.1 rfl (lv_room (Nat.le_of_ble_eq_true rfl)) d_Words_find_43 ⟨Nat.le_of_ble_eq_true rfl, Nat.le_of_ble_eq_true rfl⟩) (fun rv2 u2 H locs hw2 hP hD hS => ?_)
          have hP : va_P D classes (cW T ad S) H := hP
          have hD : va_D A (cW T ad S) := hD
          have qhw2 : rv2.toInt = 0 ∨ rv2.toInt = 1 := hw2
          have rrv2 := zt_rng rv2
          refine lv_if_eq (tgt := 52) hx hb d_Words_find_46 (by decide) (fun c46_1 => ?_) (fun c46_1 => ?_)
          · have fc46_1 : rv2.toInt = 0 := zt_eq (show rv2.toInt = _ from rfl) tI_0 c46_1
            refine lv_iinc (v := (i + 1)) (lv' := [(4, .int (i + 1)), (0, .ref (ad 5)), (1, .ref (ad 61)), (2, .int p0), (3, .int p1)]) hx hb d_Words_find_52 hl (k := 0) rfl (by first | rfl | decide) (by decide) rfl (fun ls hl => ?_)
            obtain ⟨x4, ex4⟩ : ∃ z, z = (i + 1) := ⟨_, rfl⟩
            rw [← ex4] at hl
            have fx4 : x4.toInt = (i.toInt + 1) := by rw [ex4]; exact (zt_add (show i.toInt = _ from rfl) tI_1 (by omega) (by omega)).trans (by omega)
            have hl : lv_has ls 5 [(4, .int x4), (0, .ref (ad 5)), (1, .ref (ad 61)), (2, .int p0), (3, .int p1)] := hl
            refine lv_goto (tgt := 21) hx hb d_Words_find_55 (by decide) ?_
            exact ih (k - 1) x4 _ _ _ (by omega) ⟨(show 0 ≤ x4.toInt ∧ x4.toInt ≤ 72 ∧ 72 ≤ x4.toInt + (((k - 1) : Nat) : Int) by omega), hP, hD, hS, lv_sub hl [0, 1, 2, 3, 4] rfl⟩
          · first | have fc46_1 : rv2.toInt < 0 := (by have := zt_ne (show rv2.toInt = _ from rfl) tI_0 c46_1; omega) | have fc46_1 : 0 < rv2.toInt := (by have := zt_ne (show rv2.toInt = _ from rfl) tI_0 c46_1; omega) | skip
            refine lv_iload hx hb d_Words_find_49 (lv_at hl 0 rfl) ?_
            exact j_iret F hr hlocks hK hS () trivial hP hD d_Words_find_51
      · have fc13_1 : (-p0.toInt + 120) < p1.toInt := Int.not_le.mp (zt_nle (show p1.toInt = _ from rfl) fx1 c13_1)
        refine lv_iconst (v := (-1)) hx hb d_Words_find_16 (by decide) ?_
        exact j_iret F hr hlocks hK hS () trivial hP hD d_Words_find_17
theorem d_Words_learn_0 : decode prog_13_method_5_code 0 = .ok (.aload_n 0, 1) := by decide +kernel
theorem d_Words_learn_1 : decode prog_13_method_5_code 1 = .ok (.getfield 19, 3) := by decide +kernel
theorem d_Words_learn_4 : decode prog_13_method_5_code 4 = .ok (.bipush 40, 2) := by decide +kernel
theorem d_Words_learn_6 : decode prog_13_method_5_code 6 = .ok (.if_icmp .ge 21, 3) := by decide +kernel
theorem d_Words_learn_27 : decode prog_13_method_5_code 27 = .ok (.iconst (-1), 1) := by decide +kernel
theorem d_Words_learn_28 : decode prog_13_method_5_code 28 = .ok (.ireturn, 1) := by decide +kernel
theorem d_Words_learn_9 : decode prog_13_method_5_code 9 = .ok (.iload_n 3, 1) := by decide +kernel
theorem d_Words_learn_10 : decode prog_13_method_5_code 10 = .ok (.bipush 8, 2) := by decide +kernel
theorem d_Words_learn_12 : decode prog_13_method_5_code 12 = .ok (.if_icmp .gt 15, 3) := by decide +kernel
theorem d_Words_learn_15 : decode prog_13_method_5_code 15 = .ok (.iload_n 2, 1) := by decide +kernel
theorem d_Words_learn_16 : decode prog_13_method_5_code 16 = .ok (.ifCond .lt 11, 3) := by decide +kernel
theorem d_Words_learn_19 : decode prog_13_method_5_code 19 = .ok (.iload_n 3, 1) := by decide +kernel
theorem d_Words_learn_20 : decode prog_13_method_5_code 20 = .ok (.aload_n 1, 1) := by decide +kernel
theorem d_Words_learn_21 : decode prog_13_method_5_code 21 = .ok (.arraylength, 1) := by decide +kernel
theorem d_Words_learn_22 : decode prog_13_method_5_code 22 = .ok (.iload_n 2, 1) := by decide +kernel
theorem d_Words_learn_23 : decode prog_13_method_5_code 23 = .ok (.isub, 1) := by decide +kernel
theorem d_Words_learn_24 : decode prog_13_method_5_code 24 = .ok (.if_icmp .le 5, 3) := by decide +kernel
theorem d_Words_learn_29 : decode prog_13_method_5_code 29 = .ok (.iconst 0, 1) := by decide +kernel
theorem d_Words_learn_30 : decode prog_13_method_5_code 30 = .ok (.istore 4, 2) := by decide +kernel
theorem d_Words_learn_32 : decode prog_13_method_5_code 32 = .ok (.iload 4, 2) := by decide +kernel
theorem d_Words_learn_34 : decode prog_13_method_5_code 34 = .ok (.iload_n 3, 1) := by decide +kernel
theorem d_Words_learn_35 : decode prog_13_method_5_code 35 = .ok (.if_icmp .ge 30, 3) := by decide +kernel
theorem d_Words_learn_65 : decode prog_13_method_5_code 65 = .ok (.aload_n 0, 1) := by decide +kernel
theorem d_Words_learn_66 : decode prog_13_method_5_code 66 = .ok (.getfield 15, 3) := by decide +kernel
theorem d_Words_learn_69 : decode prog_13_method_5_code 69 = .ok (.aload_n 0, 1) := by decide +kernel
theorem d_Words_learn_70 : decode prog_13_method_5_code 70 = .ok (.getfield 19, 3) := by decide +kernel
theorem d_Words_learn_73 : decode prog_13_method_5_code 73 = .ok (.iload_n 3, 1) := by decide +kernel
theorem d_Words_learn_74 : decode prog_13_method_5_code 74 = .ok (.iastore, 1) := by decide +kernel
theorem d_Words_learn_75 : decode prog_13_method_5_code 75 = .ok (.aload_n 0, 1) := by decide +kernel
theorem d_Words_learn_76 : decode prog_13_method_5_code 76 = .ok (.dup, 1) := by decide +kernel
theorem d_Words_learn_77 : decode prog_13_method_5_code 77 = .ok (.getfield 19, 3) := by decide +kernel
theorem d_Words_learn_80 : decode prog_13_method_5_code 80 = .ok (.iconst 1, 1) := by decide +kernel
theorem d_Words_learn_81 : decode prog_13_method_5_code 81 = .ok (.iadd, 1) := by decide +kernel
theorem d_Words_learn_82 : decode prog_13_method_5_code 82 = .ok (.putfield 19, 3) := by decide +kernel
theorem d_Words_learn_85 : decode prog_13_method_5_code 85 = .ok (.getstatic 23, 3) := by decide +kernel
theorem d_Words_learn_88 : decode prog_13_method_5_code 88 = .ok (.arraylength, 1) := by decide +kernel
theorem d_Words_learn_89 : decode prog_13_method_5_code 89 = .ok (.aload_n 0, 1) := by decide +kernel
theorem d_Words_learn_90 : decode prog_13_method_5_code 90 = .ok (.getfield 19, 3) := by decide +kernel
theorem d_Words_learn_93 : decode prog_13_method_5_code 93 = .ok (.iadd, 1) := by decide +kernel
theorem d_Words_learn_94 : decode prog_13_method_5_code 94 = .ok (.iconst 1, 1) := by decide +kernel
theorem d_Words_learn_95 : decode prog_13_method_5_code 95 = .ok (.isub, 1) := by decide +kernel
theorem d_Words_learn_96 : decode prog_13_method_5_code 96 = .ok (.ireturn, 1) := by decide +kernel
theorem d_Words_learn_38 : decode prog_13_method_5_code 38 = .ok (.aload_n 0, 1) := by decide +kernel
theorem d_Words_learn_39 : decode prog_13_method_5_code 39 = .ok (.getfield 9, 3) := by decide +kernel
theorem d_Words_learn_42 : decode prog_13_method_5_code 42 = .ok (.aload_n 0, 1) := by decide +kernel
theorem d_Words_learn_43 : decode prog_13_method_5_code 43 = .ok (.getfield 19, 3) := by decide +kernel
theorem d_Words_learn_46 : decode prog_13_method_5_code 46 = .ok (.bipush 8, 2) := by decide +kernel
theorem d_Words_learn_48 : decode prog_13_method_5_code 48 = .ok (.imul, 1) := by decide +kernel
theorem d_Words_learn_49 : decode prog_13_method_5_code 49 = .ok (.iload 4, 2) := by decide +kernel
theorem d_Words_learn_51 : decode prog_13_method_5_code 51 = .ok (.iadd, 1) := by decide +kernel
theorem d_Words_learn_52 : decode prog_13_method_5_code 52 = .ok (.aload_n 1, 1) := by decide +kernel
theorem d_Words_learn_53 : decode prog_13_method_5_code 53 = .ok (.iload_n 2, 1) := by decide +kernel
theorem d_Words_learn_54 : decode prog_13_method_5_code 54 = .ok (.iload 4, 2) := by decide +kernel
theorem d_Words_learn_56 : decode prog_13_method_5_code 56 = .ok (.iadd, 1) := by decide +kernel
theorem d_Words_learn_57 : decode prog_13_method_5_code 57 = .ok (.caload, 1) := by decide +kernel
theorem d_Words_learn_58 : decode prog_13_method_5_code 58 = .ok (.castore, 1) := by decide +kernel
theorem d_Words_learn_59 : decode prog_13_method_5_code 59 = .ok (.iinc 4 1, 3) := by decide +kernel
theorem d_Words_learn_62 : decode prog_13_method_5_code 62 = .ok (.goto (-30), 3) := by decide +kernel
set_option maxHeartbeats 4000000 in
set_option maxRecDepth 100000 in
theorem c_Words_learn (l : Launch) (D : va_G) (T : Nat → ClassId) (ad : Nat → Nat) (g : GE) (Bq : Nat → Prop) (S : CS) (p0 : Int32) (p1 : Int32) (sz : Nat)  (hI : CIv S) : Met l ⟨"PageScribe$Words", "learn", "([CII)I"⟩ (wy ⟨"PageScribe$Words", "learn", "([CII)I"⟩ prog_13_method_5_code 5 (some .int)) ({ frames := 0, cells := 0, slots := 0, locals := 0 }) (va_Pc [.ref (ad 5), .ref (ad 61), .int p0, .int p1] (Pw D T (cW T ad S) sz (EC g Bq ad))) (va_Qi (fun (r : Int32) (u : CS) => CIv u ∧ kcL S u ∧ kcP S u ∧ kcU S u ∧ kcW S u) (fun u t => Bw D T (va_A (cW T ad S) sz) (cW T ad u) t) (va_A (cW T ad S) sz)) 0 0 (va_A (cW T ad S) sz) := by
  refine j_met (y := ⟨"PageScribe$Words", "learn", "([CII)I"⟩) (b := prog_13_method_5_code) (n := 5) (ret := (some .int)) (av := [.ref (ad 5), .ref (ad 61), .int p0, .int p1]) (Qc := fun A => va_Qi (fun (r : Int32) (u : CS) => CIv u ∧ kcL S u ∧ kcP S u ∧ kcU S u ∧ kcW S u) (fun u t => Bw D T A (cW T ad u) t) A) (by decide +kernel) (Nat.le_of_ble_eq_true rfl) (fun p e s m args below meth c A ls F hr hlocks hnm hK hP hD hS hA hN hE hl => ?_)
  obtain ⟨hx, hb, hml, hown, hts⟩ := id F
  have hl : lv_has ls 5 [(0, .ref (ad 5)), (1, .ref (ad 61)), (2, .int p0), (3, .int p1)] := hl
  obtain ⟨i_vst, i_vc0, i_vc1, i_vc2, i_vc3, i_vv0, i_vv1, i_vv2, i_vv3, i_vg, i_wct, i_wln, i_sd0, i_sd1, i_sd2, i_sd3, i_rln, i_rtx, i_rpl, i_rtk, i_cnv, i_pts, i_cik, i_und⟩ := id hI
  have hAB : ∀ q, A q → Bq q := EC.ab hE hN
  have hEV := hE.1.narrow hAB
  have rp0 := zt_rng p0
  have rp1 := zt_rng p1
  refine lv_aload_n hx hb d_Words_learn_0 rfl (lv_at hl 0 rfl) ?_
  refine va_get (D := D) (ci := 1) (v := .int (f_xw_count S)) (C := "PageScribe$Words") (T := F_Words) (N := 3) hx hb hts i_Words hown hK hP 5 (ce_5 _ _ _) cl_1 2 (by decide) (hts _ k_1_77) (fun _ h9 => h9) rfl d_Words_learn_1 ?_
  refine lv_bipush (v := 40) hx hb d_Words_learn_4 (by decide) ?_
  refine lv_icmp_ge (tgt := 27) hx hb d_Words_learn_6 (by decide) (fun c6_1 => ?_) (fun c6_1 => ?_)
  · have fc6_1 : 40 ≤ (f_xw_count S).toInt := zt_le tI_40 (show (f_xw_count S).toInt = _ from rfl) c6_1
    refine lv_iconst (v := (-1)) hx hb d_Words_learn_27 (by decide) ?_
    exact j_iret F hr hlocks hK hS S ⟨⟨i_vst, i_vc0, i_vc1, i_vc2, i_vc3, i_vv0, i_vv1, i_vv2, i_vv3, i_vg, i_wct, i_wln, i_sd0, i_sd1, i_sd2, i_sd3, i_rln, i_rtx, i_rpl, i_rtk, i_cnv, i_pts, i_cik, i_und⟩, (kcL_r S), (kcP_r S), (kcU_r S), (kcW_r S)⟩ hP hD d_Words_learn_28
  · have fc6_1 : (f_xw_count S).toInt < 40 := Int.not_le.mp (zt_nle tI_40 (show (f_xw_count S).toInt = _ from rfl) c6_1)
    refine lv_iload_n hx hb d_Words_learn_9 rfl (lv_at hl 3 rfl) ?_
    refine lv_bipush (v := 8) hx hb d_Words_learn_10 (by decide) ?_
    refine lv_icmp_gt (tgt := 27) hx hb d_Words_learn_12 (by decide) (fun c12_1 => ?_) (fun c12_1 => ?_)
    · have fc12_1 : 8 < p1.toInt := zt_lt tI_8 (show p1.toInt = _ from rfl) c12_1
      refine lv_iconst (v := (-1)) hx hb d_Words_learn_27 (by decide) ?_
      exact j_iret F hr hlocks hK hS S ⟨⟨i_vst, i_vc0, i_vc1, i_vc2, i_vc3, i_vv0, i_vv1, i_vv2, i_vv3, i_vg, i_wct, i_wln, i_sd0, i_sd1, i_sd2, i_sd3, i_rln, i_rtx, i_rpl, i_rtk, i_cnv, i_pts, i_cik, i_und⟩, (kcL_r S), (kcP_r S), (kcU_r S), (kcW_r S)⟩ hP hD d_Words_learn_28
    · have fc12_1 : p1.toInt ≤ 8 := Int.not_lt.mp (zt_nlt tI_8 (show p1.toInt = _ from rfl) c12_1)
      refine lv_iload_n hx hb d_Words_learn_15 rfl (lv_at hl 2 rfl) ?_
      refine lv_if_lt (tgt := 27) hx hb d_Words_learn_16 (by decide) (fun c16_1 => ?_) (fun c16_1 => ?_)
      · have fc16_1 : p0.toInt < 0 := zt_lt (show p0.toInt = _ from rfl) tI_0 c16_1
        refine lv_iconst (v := (-1)) hx hb d_Words_learn_27 (by decide) ?_
        exact j_iret F hr hlocks hK hS S ⟨⟨i_vst, i_vc0, i_vc1, i_vc2, i_vc3, i_vv0, i_vv1, i_vv2, i_vv3, i_vg, i_wct, i_wln, i_sd0, i_sd1, i_sd2, i_sd3, i_rln, i_rtx, i_rpl, i_rtk, i_cnv, i_pts, i_cik, i_und⟩, (kcL_r S), (kcP_r S), (kcU_r S), (kcW_r S)⟩ hP hD d_Words_learn_28
      · have fc16_1 : 0 ≤ p0.toInt := Int.not_lt.mp (zt_nlt (show p0.toInt = _ from rfl) tI_0 c16_1)
        refine lv_iload_n hx hb d_Words_learn_19 rfl (lv_at hl 3 rfl) ?_
        refine lv_aload_n hx hb d_Words_learn_20 rfl (lv_at hl 1 rfl) ?_
        refine va_alen (v := 120) hx hb hK hP 61 2 (ce_61 _ _ _) rfl (show Int32.ofNat 120 = 120 from by decide +kernel) d_Words_learn_21 ?_
        refine lv_iload_n hx hb d_Words_learn_22 rfl (lv_at hl 2 rfl) ?_
        refine lv_isub hx hb d_Words_learn_23 ?_
        refine lv_topi (fun x1 ex1 => ?_)
        have fx1 : x1.toInt = (-p0.toInt + 120) := by rw [ex1]; exact (zt_sub tI_120 (show p0.toInt = _ from rfl) (by omega) (by omega)).trans (by omega)
        refine lv_icmp_le (tgt := 29) hx hb d_Words_learn_24 (by decide) (fun c24_1 => ?_) (fun c24_1 => ?_)
        · have fc24_1 : p1.toInt ≤ (-p0.toInt + 120) := zt_le (show p1.toInt = _ from rfl) fx1 c24_1
          refine lv_iconst (v := 0) hx hb d_Words_learn_29 (by decide) ?_
          refine lv_istore (lv' := [(4, .int 0), (0, .ref (ad 5)), (1, .ref (ad 61)), (2, .int p0), (3, .int p1)]) hx hb d_Words_learn_30 hl (by decide) rfl (fun ls hl => ?_)
          refine j_loop (α := CS × Int32) (fun k x H locs ls => (0 ≤ x.2.toInt ∧ p1.toInt ≤ x.2.toInt + ((k : Nat) : Int) ∧ (f_xw_count x.1).toInt = (f_xw_count S).toInt) ∧ CIv x.1 ∧ kcL S x.1 ∧ kcP S x.1 ∧ kcU S x.1 ∧ kcW S x.1 ∧ va_P D classes (cW T ad x.1) H ∧ va_D A (cW T ad x.1) ∧ va_S A s.heap H locs ∧ lv_has ls 5 [(4, .int x.2), (0, .ref (ad 5)), (1, .ref (ad 61)), (2, .int p0), (3, .int p1)]) (fun _ _ ls => F0 m 32 ls []) (fun k x H locs ls hI9 ih => ?_) p1.toInt.toNat (S, (0 : Int32)) _ _ _ ⟨(show 0 ≤ (0 : Int32).toInt ∧ p1.toInt ≤ (0 : Int32).toInt + ((p1.toInt.toNat : Nat) : Int) ∧ (f_xw_count S).toInt = (f_xw_count S).toInt by have := tI_0; omega), ⟨i_vst, i_vc0, i_vc1, i_vc2, i_vc3, i_vv0, i_vv1, i_vv2, i_vv3, i_vg, i_wct, i_wln, i_sd0, i_sd1, i_sd2, i_sd3, i_rln, i_rtx, i_rpl, i_rtk, i_cnv, i_pts, i_cik, i_und⟩, (show kcL S S from (kcL_r S)), (show kcP S S from (kcP_r S)), (show kcU S S from (kcU_r S)), (show kcW S S from (kcW_r S)), hP, hD, hS, lv_sub hl [0, 1, 2, 3, 4] rfl⟩
          obtain ⟨S1, i⟩ := x
          obtain ⟨hf1, hIx, klcL_S1, klcP_S1, klcU_S1, klcW_S1, hP, hD, hS, hl⟩ := hI9
          obtain ⟨i_vst, i_vc0, i_vc1, i_vc2, i_vc3, i_vv0, i_vv1, i_vv2, i_vv3, i_vg, i_wct, i_wln, i_sd0, i_sd1, i_sd2, i_sd3, i_rln, i_rtx, i_rpl, i_rtk, i_cnv, i_pts, i_cik, i_und⟩ := (show CIv S1 from hIx)
          have klcL_S1 : kcL S S1 := klcL_S1
          have klcP_S1 : kcP S S1 := klcP_S1
          have klcU_S1 : kcU S S1 := klcU_S1
          have klcW_S1 : kcW S S1 := klcW_S1
          have hf1 : 0 ≤ i.toInt ∧ p1.toInt ≤ i.toInt + ((k : Nat) : Int) ∧ (f_xw_count S1).toInt = (f_xw_count S).toInt := hf1
          have hP : va_P D classes (cW T ad S1) H := hP
          have hD : va_D A (cW T ad S1) := hD
          have hl : lv_has ls 5 [(4, .int i), (0, .ref (ad 5)), (1, .ref (ad 61)), (2, .int p0), (3, .int p1)] := hl
          refine lv_iload hx hb d_Words_learn_32 (lv_at hl 0 rfl) ?_
          refine lv_iload_n hx hb d_Words_learn_34 rfl (lv_at hl 4 rfl) ?_
          refine lv_icmp_ge (tgt := 65) hx hb d_Words_learn_35 (by decide) (fun c35_1 => ?_) (fun c35_1 => ?_)
          · have fc35_1 : p1.toInt ≤ i.toInt := zt_le (show p1.toInt = _ from rfl) (show i.toInt = _ from rfl) c35_1
            refine lv_aload_n hx hb d_Words_learn_65 rfl (lv_at hl 1 rfl) ?_
            refine va_get (D := D) (ci := 1) (v := .ref (ad 7)) (C := "PageScribe$Words") (T := F_Words) (N := 3) hx hb hts i_Words hown hK hP 5 (ce_5 _ _ _) cl_1 1 (by decide) (hts _ k_1_76) (fun _ h9 => h9) rfl d_Words_learn_66 ?_
            refine lv_aload_n hx hb d_Words_learn_69 rfl (lv_at hl 1 rfl) ?_
            refine va_get (D := D) (ci := 1) (v := .int (f_xw_count S1)) (C := "PageScribe$Words") (T := F_Words) (N := 3) hx hb hts i_Words hown hK hP 5 (ce_5 _ _ _) cl_1 2 (by decide) (hts _ k_1_77) (fun _ h9 => h9) rfl d_Words_learn_70 ?_
            refine lv_iload_n hx hb d_Words_learn_73 rfl (lv_at hl 4 rfl) ?_
            refine va_iast hx hb hK hP hD hS 7 0 (ce_7 _ _ _) rfl (zt_in (show (f_xw_count S1).toInt = _ from rfl) (by omega) (by omega)) d_Words_learn_74 (fun H locs hP hD hS => ?_)
            rw [cs_xw_lengths] at hP hD
            rw [zt_ix (show (f_xw_count S1).toInt = _ from rfl)] at hP hD
            have hP : va_P D classes (cW T ad ((((a_xst_k S1), (a_xst_n S1), (a_xst_r S1), (f_xst_z S1), (a_xw_letters S1), (upd (a_xw_lengths S1) ((f_xw_count S1).toInt.toNat) p1), (f_xw_count S1)), S1.2.1, S1.2.2.1, S1.2.2.2.1, S1.2.2.2.2.1, S1.2.2.2.2.2.1, S1.2.2.2.2.2.2.1, S1.2.2.2.2.2.2.2.1, S1.2.2.2.2.2.2.2.2) : CS)) H := hP
            have hD : va_D A (cW T ad ((((a_xst_k S1), (a_xst_n S1), (a_xst_r S1), (f_xst_z S1), (a_xw_letters S1), (upd (a_xw_lengths S1) ((f_xw_count S1).toInt.toNat) p1), (f_xw_count S1)), S1.2.1, S1.2.2.1, S1.2.2.2.1, S1.2.2.2.2.1, S1.2.2.2.2.2.1, S1.2.2.2.2.2.2.1, S1.2.2.2.2.2.2.2.1, S1.2.2.2.2.2.2.2.2) : CS)) := hD
            refine lv_aload_n hx hb d_Words_learn_75 rfl (lv_at hl 1 rfl) ?_
            refine lv_dup hx hb d_Words_learn_76 rfl ?_
            refine va_get (D := D) (ci := 1) (v := .int (f_xw_count S1)) (C := "PageScribe$Words") (T := F_Words) (N := 3) hx hb hts i_Words hown hK hP 5 (ce_5 _ _ _) cl_1 2 (by decide) (hts _ k_1_77) (fun _ h9 => h9) rfl d_Words_learn_77 ?_
            refine lv_iconst (v := 1) hx hb d_Words_learn_80 (by decide) ?_
            refine lv_iadd hx hb d_Words_learn_81 ?_
            refine lv_topi (fun x2 ex2 => ?_)
            have fx2 : x2.toInt = ((f_xw_count S1).toInt + 1) := by rw [ex2]; exact (zt_add (show (f_xw_count S1).toInt = _ from rfl) tI_1 (by omega) (by omega)).trans (by omega)
            refine va_put (D := D) (ci := 1) (v := .int x2) (ty := .int) (C := "PageScribe$Words") (T := F_Words) (N := 3) hx hb hts i_Words t_Words t_Words_ok n_Words hown hK hP hD hS 5 (ce_5 _ _ _) cl_1 2 (by decide) (hts _ k_1_77) (fun _ h9 => h9) rfl (by decide +kernel) rfl rfl (Nat.le_of_ble_eq_true rfl) d_Words_learn_82 (fun H locs hP hD hS => ?_)
            rw [cp_xw_count] at hP hD
            have hP : va_P D classes (cW T ad ((((a_xst_k S1), (a_xst_n S1), (a_xst_r S1), (f_xst_z S1), (a_xw_letters S1), (upd (a_xw_lengths S1) ((f_xw_count S1).toInt.toNat) p1), x2), S1.2.1, S1.2.2.1, S1.2.2.2.1, S1.2.2.2.2.1, S1.2.2.2.2.2.1, S1.2.2.2.2.2.2.1, S1.2.2.2.2.2.2.2.1, S1.2.2.2.2.2.2.2.2) : CS)) H := hP
            have hD : va_D A (cW T ad ((((a_xst_k S1), (a_xst_n S1), (a_xst_r S1), (f_xst_z S1), (a_xw_letters S1), (upd (a_xw_lengths S1) ((f_xw_count S1).toInt.toNat) p1), x2), S1.2.1, S1.2.2.1, S1.2.2.2.1, S1.2.2.2.2.1, S1.2.2.2.2.2.1, S1.2.2.2.2.2.2.1, S1.2.2.2.2.2.2.2.1, S1.2.2.2.2.2.2.2.2) : CS)) := hD
            refine va_getsN hx hb hEV.2.1.1 hS hown (va_Nw.use rfl (hE.2.2.2 (Cond.fieldLinkNest "PageScribe$Words" 23 "PageScribe" "OPERATORS" "[LPageScribe$Op;" "PageScribe") (List.mem_of_getElem? (i := 1) rfl))) (fun _ h9 => h9) d_Words_learn_85 ?_
            refine va_tlen hx hb hEV.2.1.2 hS (v := 72) (by decide +kernel) d_Words_learn_88 ?_
            refine lv_aload_n hx hb d_Words_learn_89 rfl (lv_at hl 1 rfl) ?_
            refine va_get (D := D) (ci := 1) (v := .int x2) (C := "PageScribe$Words") (T := F_Words) (N := 3) hx hb hts i_Words hown hK hP 5 (ce_5 _ _ _) cl_1 2 (by decide) (hts _ k_1_77) (fun _ h9 => h9) rfl d_Words_learn_90 ?_
            refine lv_iadd hx hb d_Words_learn_93 ?_
            refine lv_topi (fun x3 ex3 => ?_)
            have rx3 := zt_rng x3
            refine lv_iconst (v := 1) hx hb d_Words_learn_94 (by decide) ?_
            refine lv_isub hx hb d_Words_learn_95 ?_
            refine lv_topi (fun x4 ex4 => ?_)
            have rx4 := zt_rng x4
            exact j_iret F hr hlocks hK hS ((((a_xst_k S1), (a_xst_n S1), (a_xst_r S1), (f_xst_z S1), (a_xw_letters S1), (upd (a_xw_lengths S1) ((f_xw_count S1).toInt.toNat) p1), x2), S1.2.1, S1.2.2.1, S1.2.2.2.1, S1.2.2.2.2.1, S1.2.2.2.2.2.1, S1.2.2.2.2.2.2.1, S1.2.2.2.2.2.2.2.1, S1.2.2.2.2.2.2.2.2) : CS) ⟨⟨i_vst, i_vc0, i_vc1, i_vc2, i_vc3, i_vv0, i_vv1, i_vv2, i_vv3, i_vg, (show 0 ≤ x2.toInt ∧ x2.toInt ≤ 40 by omega), (ar_le i_wln (by omega)), i_sd0, i_sd1, i_sd2, i_sd3, i_rln, i_rtx, i_rpl, i_rtk, i_cnv, i_pts, i_cik, i_und⟩, klcL_S1, klcP_S1, klcU_S1, klcW_S1⟩ hP hD d_Words_learn_96
          · have fc35_1 : i.toInt < p1.toInt := Int.not_le.mp (zt_nle (show p1.toInt = _ from rfl) (show i.toInt = _ from rfl) c35_1)
            refine lv_aload_n hx hb d_Words_learn_38 rfl (lv_at hl 1 rfl) ?_
            refine va_get (D := D) (ci := 1) (v := .ref (ad 6)) (C := "PageScribe$Words") (T := F_Words) (N := 3) hx hb hts i_Words hown hK hP 5 (ce_5 _ _ _) cl_1 0 (by decide) (hts _ k_1_75) (fun _ h9 => h9) rfl d_Words_learn_39 ?_
            refine lv_aload_n hx hb d_Words_learn_42 rfl (lv_at hl 1 rfl) ?_
            refine va_get (D := D) (ci := 1) (v := .int (f_xw_count S1)) (C := "PageScribe$Words") (T := F_Words) (N := 3) hx hb hts i_Words hown hK hP 5 (ce_5 _ _ _) cl_1 2 (by decide) (hts _ k_1_77) (fun _ h9 => h9) rfl d_Words_learn_43 ?_
            refine lv_bipush (v := 8) hx hb d_Words_learn_46 (by decide) ?_
            refine lv_imul hx hb d_Words_learn_48 ?_
            refine lv_topi (fun x5 ex5 => ?_)
            have fx5 : x5.toInt = (8 * (f_xw_count S1).toInt) := by rw [ex5]; exact (zt_mul (show (f_xw_count S1).toInt = _ from rfl) tI_8 rfl (by omega) (by omega)).trans (by omega)
            refine lv_iload hx hb d_Words_learn_49 (lv_at hl 0 rfl) ?_
            refine lv_iadd hx hb d_Words_learn_51 ?_
            refine lv_topi (fun x6 ex6 => ?_)
            have fx6 : x6.toInt = (8 * (f_xw_count S1).toInt + i.toInt) := by rw [ex6]; exact (zt_add fx5 (show i.toInt = _ from rfl) (by omega) (by omega)).trans (by omega)
            refine lv_aload_n hx hb d_Words_learn_52 rfl (lv_at hl 2 rfl) ?_
            refine lv_iload_n hx hb d_Words_learn_53 rfl (lv_at hl 3 rfl) ?_
            refine lv_iload hx hb d_Words_learn_54 (lv_at hl 0 rfl) ?_
            refine lv_iadd hx hb d_Words_learn_56 ?_
            refine lv_topi (fun x7 ex7 => ?_)
            have fx7 : x7.toInt = (i.toInt + p0.toInt) := by rw [ex7]; exact (zt_add (show p0.toInt = _ from rfl) (show i.toInt = _ from rfl) (by omega) (by omega)).trans (by omega)
            refine va_cald hx hb hK hP 61 2 (ce_61 _ _ _) rfl (zt_in fx7 (by omega) (by omega)) d_Words_learn_57 ?_
            refine lv_topi (fun x8 ex8 => ?_)
            have gx8 : x8 = (a_xr_text S1) (i.toInt + p0.toInt).toNat := ex8.trans (congrArg _ (zt_ix fx7))
            have fx8 : x8.toInt = ((a_xr_text S1) (i.toInt + p0.toInt).toNat).toInt := by rw [gx8]
            have rx8 := zt_rng x8
            refine va_cast hx hb hK hP hD hS 6 2 (ce_6 _ _ _) rfl (zt_in fx6 (by omega) (by omega)) d_Words_learn_58 (fun H locs hP hD hS => ?_)
            rw [cs_xw_letters] at hP hD
            rw [zt_ix fx6] at hP hD
            have hP : va_P D classes (cW T ad ((((a_xst_k S1), (a_xst_n S1), (a_xst_r S1), (f_xst_z S1), (upd (a_xw_letters S1) ((8 * (f_xw_count S1).toInt + i.toInt).toNat) (vp_nar .char x8)), (a_xw_lengths S1), (f_xw_count S1)), S1.2.1, S1.2.2.1, S1.2.2.2.1, S1.2.2.2.2.1, S1.2.2.2.2.2.1, S1.2.2.2.2.2.2.1, S1.2.2.2.2.2.2.2.1, S1.2.2.2.2.2.2.2.2) : CS)) H := hP
            have hD : va_D A (cW T ad ((((a_xst_k S1), (a_xst_n S1), (a_xst_r S1), (f_xst_z S1), (upd (a_xw_letters S1) ((8 * (f_xw_count S1).toInt + i.toInt).toNat) (vp_nar .char x8)), (a_xw_lengths S1), (f_xw_count S1)), S1.2.1, S1.2.2.1, S1.2.2.2.1, S1.2.2.2.2.1, S1.2.2.2.2.2.1, S1.2.2.2.2.2.2.1, S1.2.2.2.2.2.2.2.1, S1.2.2.2.2.2.2.2.2) : CS)) := hD
            refine lv_iinc (v := (i + 1)) (lv' := [(4, .int (i + 1)), (0, .ref (ad 5)), (1, .ref (ad 61)), (2, .int p0), (3, .int p1)]) hx hb d_Words_learn_59 hl (k := 0) rfl (by first | rfl | decide) (by decide) rfl (fun ls hl => ?_)
            obtain ⟨x9, ex9⟩ : ∃ z, z = (i + 1) := ⟨_, rfl⟩
            rw [← ex9] at hl
            have fx9 : x9.toInt = (i.toInt + 1) := by rw [ex9]; exact (zt_add (show i.toInt = _ from rfl) tI_1 (by omega) (by omega)).trans (by omega)
            have hl : lv_has ls 5 [(4, .int x9), (0, .ref (ad 5)), (1, .ref (ad 61)), (2, .int p0), (3, .int p1)] := hl
            refine lv_goto (tgt := 32) hx hb d_Words_learn_62 (by decide) ?_
            exact ih (k - 1) (((((a_xst_k S1), (a_xst_n S1), (a_xst_r S1), (f_xst_z S1), (upd (a_xw_letters S1) ((8 * (f_xw_count S1).toInt + i.toInt).toNat) (vp_nar .char x8)), (a_xw_lengths S1), (f_xw_count S1)), S1.2.1, S1.2.2.1, S1.2.2.2.1, S1.2.2.2.2.1, S1.2.2.2.2.2.1, S1.2.2.2.2.2.2.1, S1.2.2.2.2.2.2.2.1, S1.2.2.2.2.2.2.2.2) : CS), x9) _ _ _ (by omega) ⟨(show 0 ≤ x9.toInt ∧ p1.toInt ≤ x9.toInt + (((k - 1) : Nat) : Int) ∧ (f_xw_count S1).toInt = (f_xw_count S).toInt by omega), ⟨i_vst, i_vc0, i_vc1, i_vc2, i_vc3, i_vv0, i_vv1, i_vv2, i_vv3, i_vg, i_wct, i_wln, i_sd0, i_sd1, i_sd2, i_sd3, i_rln, i_rtx, i_rpl, i_rtk, i_cnv, i_pts, i_cik, i_und⟩, (show kcL S ((((a_xst_k S1), (a_xst_n S1), (a_xst_r S1), (f_xst_z S1), (upd (a_xw_letters S1) ((8 * (f_xw_count S1).toInt + i.toInt).toNat) (vp_nar .char x8)), (a_xw_lengths S1), (f_xw_count S1)), S1.2.1, S1.2.2.1, S1.2.2.2.1, S1.2.2.2.2.1, S1.2.2.2.2.2.1, S1.2.2.2.2.2.2.1, S1.2.2.2.2.2.2.2.1, S1.2.2.2.2.2.2.2.2) : CS) from klcL_S1), (show kcP S ((((a_xst_k S1), (a_xst_n S1), (a_xst_r S1), (f_xst_z S1), (upd (a_xw_letters S1) ((8 * (f_xw_count S1).toInt + i.toInt).toNat) (vp_nar .char x8)), (a_xw_lengths S1), (f_xw_count S1)), S1.2.1, S1.2.2.1, S1.2.2.2.1, S1.2.2.2.2.1, S1.2.2.2.2.2.1, S1.2.2.2.2.2.2.1, S1.2.2.2.2.2.2.2.1, S1.2.2.2.2.2.2.2.2) : CS) from klcP_S1), (show kcU S ((((a_xst_k S1), (a_xst_n S1), (a_xst_r S1), (f_xst_z S1), (upd (a_xw_letters S1) ((8 * (f_xw_count S1).toInt + i.toInt).toNat) (vp_nar .char x8)), (a_xw_lengths S1), (f_xw_count S1)), S1.2.1, S1.2.2.1, S1.2.2.2.1, S1.2.2.2.2.1, S1.2.2.2.2.2.1, S1.2.2.2.2.2.2.1, S1.2.2.2.2.2.2.2.1, S1.2.2.2.2.2.2.2.2) : CS) from klcU_S1), (show kcW S ((((a_xst_k S1), (a_xst_n S1), (a_xst_r S1), (f_xst_z S1), (upd (a_xw_letters S1) ((8 * (f_xw_count S1).toInt + i.toInt).toNat) (vp_nar .char x8)), (a_xw_lengths S1), (f_xw_count S1)), S1.2.1, S1.2.2.1, S1.2.2.2.1, S1.2.2.2.2.1, S1.2.2.2.2.2.1, S1.2.2.2.2.2.2.1, S1.2.2.2.2.2.2.2.1, S1.2.2.2.2.2.2.2.2) : CS) from klcW_S1), hP, hD, hS, lv_sub hl [0, 1, 2, 3, 4] rfl⟩
        · have fc24_1 : (-p0.toInt + 120) < p1.toInt := Int.not_le.mp (zt_nle (show p1.toInt = _ from rfl) fx1 c24_1)
          refine lv_iconst (v := (-1)) hx hb d_Words_learn_27 (by decide) ?_
          exact j_iret F hr hlocks hK hS S ⟨⟨i_vst, i_vc0, i_vc1, i_vc2, i_vc3, i_vv0, i_vv1, i_vv2, i_vv3, i_vg, i_wct, i_wln, i_sd0, i_sd1, i_sd2, i_sd3, i_rln, i_rtx, i_rpl, i_rtk, i_cnv, i_pts, i_cik, i_und⟩, (kcL_r S), (kcP_r S), (kcU_r S), (kcW_r S)⟩ hP hD d_Words_learn_28
theorem d_Words_lengthOf_0 : decode prog_13_method_6_code 0 = .ok (.iload_n 1, 1) := by decide +kernel
theorem d_Words_lengthOf_1 : decode prog_13_method_6_code 1 = .ok (.ifCond .lt 23, 3) := by decide +kernel
theorem d_Words_lengthOf_24 : decode prog_13_method_6_code 24 = .ok (.iload_n 1, 1) := by decide +kernel
theorem d_Words_lengthOf_25 : decode prog_13_method_6_code 25 = .ok (.getstatic 23, 3) := by decide +kernel
theorem d_Words_lengthOf_28 : decode prog_13_method_6_code 28 = .ok (.arraylength, 1) := by decide +kernel
theorem d_Words_lengthOf_29 : decode prog_13_method_6_code 29 = .ok (.isub, 1) := by decide +kernel
theorem d_Words_lengthOf_30 : decode prog_13_method_6_code 30 = .ok (.istore_n 2, 1) := by decide +kernel
theorem d_Words_lengthOf_31 : decode prog_13_method_6_code 31 = .ok (.iload_n 2, 1) := by decide +kernel
theorem d_Words_lengthOf_32 : decode prog_13_method_6_code 32 = .ok (.ifCond .lt 20, 3) := by decide +kernel
theorem d_Words_lengthOf_52 : decode prog_13_method_6_code 52 = .ok (.iconst 0, 1) := by decide +kernel
theorem d_Words_lengthOf_53 : decode prog_13_method_6_code 53 = .ok (.ireturn, 1) := by decide +kernel
theorem d_Words_lengthOf_35 : decode prog_13_method_6_code 35 = .ok (.iload_n 2, 1) := by decide +kernel
theorem d_Words_lengthOf_36 : decode prog_13_method_6_code 36 = .ok (.aload_n 0, 1) := by decide +kernel
theorem d_Words_lengthOf_37 : decode prog_13_method_6_code 37 = .ok (.getfield 19, 3) := by decide +kernel
theorem d_Words_lengthOf_40 : decode prog_13_method_6_code 40 = .ok (.if_icmp .ge 12, 3) := by decide +kernel
theorem d_Words_lengthOf_43 : decode prog_13_method_6_code 43 = .ok (.aload_n 0, 1) := by decide +kernel
theorem d_Words_lengthOf_44 : decode prog_13_method_6_code 44 = .ok (.getfield 15, 3) := by decide +kernel
theorem d_Words_lengthOf_47 : decode prog_13_method_6_code 47 = .ok (.iload_n 2, 1) := by decide +kernel
theorem d_Words_lengthOf_48 : decode prog_13_method_6_code 48 = .ok (.iaload, 1) := by decide +kernel
theorem d_Words_lengthOf_49 : decode prog_13_method_6_code 49 = .ok (.goto 4, 3) := by decide +kernel
theorem d_Words_lengthOf_4 : decode prog_13_method_6_code 4 = .ok (.iload_n 1, 1) := by decide +kernel
theorem d_Words_lengthOf_5 : decode prog_13_method_6_code 5 = .ok (.getstatic 23, 3) := by decide +kernel
theorem d_Words_lengthOf_8 : decode prog_13_method_6_code 8 = .ok (.arraylength, 1) := by decide +kernel
theorem d_Words_lengthOf_9 : decode prog_13_method_6_code 9 = .ok (.if_icmp .ge 15, 3) := by decide +kernel
theorem d_Words_lengthOf_12 : decode prog_13_method_6_code 12 = .ok (.getstatic 23, 3) := by decide +kernel
theorem d_Words_lengthOf_15 : decode prog_13_method_6_code 15 = .ok (.iload_n 1, 1) := by decide +kernel
theorem d_Words_lengthOf_16 : decode prog_13_method_6_code 16 = .ok (.aaload, 1) := by decide +kernel
theorem d_Words_lengthOf_17 : decode prog_13_method_6_code 17 = .ok (.getfield 27, 3) := by decide +kernel
theorem d_Words_lengthOf_20 : decode prog_13_method_6_code 20 = .ok (.invokevirtual 41, 3) := by decide +kernel
theorem d_Words_lengthOf_23 : decode prog_13_method_6_code 23 = .ok (.ireturn, 1) := by decide +kernel
set_option maxHeartbeats 4000000 in
set_option maxRecDepth 100000 in
theorem c_Words_lengthOf (l : Launch) (D : va_G) (T : Nat → ClassId) (ad : Nat → Nat) (g : GE) (Bq : Nat → Prop) (S : CS) (p0 : Int32) (sz : Nat)  (hI : CIv S) : Met l ⟨"PageScribe$Words", "lengthOf", "(I)I"⟩ (wy ⟨"PageScribe$Words", "lengthOf", "(I)I"⟩ prog_13_method_6_code 3 (some .int)) ({ frames := 2, cells := 0, slots := 0, locals := 140 }) (va_Pc [.ref (ad 5), .int p0] (Pw D T (cW T ad S) sz (EC g Bq ad))) (va_Qi (fun (r : Int32) (u : Unit) => r.toInt ≤ 0 ∨ (0 ≤ p0.toInt ∧ p0.toInt < 72 ∧ r.toInt = ((txL.getD p0.toInt.toNat 0 : Nat) : Int)) ∨ (72 ≤ p0.toInt ∧ p0.toInt < 72 + (f_xw_count S).toInt ∧ r.toInt ≤ 8)) (fun u t => Bw D T (va_A (cW T ad S) sz) (cW T ad S) t) (va_A (cW T ad S) sz)) 0 0 (va_A (cW T ad S) sz) := by
  refine j_met (y := ⟨"PageScribe$Words", "lengthOf", "(I)I"⟩) (b := prog_13_method_6_code) (n := 3) (ret := (some .int)) (av := [.ref (ad 5), .int p0]) (Qc := fun A => va_Qi (fun (r : Int32) (u : Unit) => r.toInt ≤ 0 ∨ (0 ≤ p0.toInt ∧ p0.toInt < 72 ∧ r.toInt = ((txL.getD p0.toInt.toNat 0 : Nat) : Int)) ∨ (72 ≤ p0.toInt ∧ p0.toInt < 72 + (f_xw_count S).toInt ∧ r.toInt ≤ 8)) (fun u t => Bw D T A (cW T ad S) t) A) (by decide +kernel) (Nat.le_of_ble_eq_true rfl) (fun p e s m args below meth c A ls F hr hlocks hnm hK hP hD hS hA hN hE hl => ?_)
  obtain ⟨hx, hb, hml, hown, hts⟩ := id F
  have hl : lv_has ls 3 [(0, .ref (ad 5)), (1, .int p0)] := hl
  obtain ⟨i_vst, i_vc0, i_vc1, i_vc2, i_vc3, i_vv0, i_vv1, i_vv2, i_vv3, i_vg, i_wct, i_wln, i_sd0, i_sd1, i_sd2, i_sd3, i_rln, i_rtx, i_rpl, i_rtk, i_cnv, i_pts, i_cik, i_und⟩ := id hI
  have hAB : ∀ q, A q → Bq q := EC.ab hE hN
  have hEV := hE.1.narrow hAB
  have rp0 := zt_rng p0
  refine lv_iload_n hx hb d_Words_lengthOf_0 rfl (lv_at hl 1 rfl) ?_
  refine lv_if_lt (tgt := 24) hx hb d_Words_lengthOf_1 (by decide) (fun c1_1 => ?_) (fun c1_1 => ?_)
  · have fc1_1 : p0.toInt < 0 := zt_lt (show p0.toInt = _ from rfl) tI_0 c1_1
    refine lv_iload_n hx hb d_Words_lengthOf_24 rfl (lv_at hl 1 rfl) ?_
    refine va_getsN hx hb hEV.2.1.1 hS hown (va_Nw.use rfl (hE.2.2.2 (Cond.fieldLinkNest "PageScribe$Words" 23 "PageScribe" "OPERATORS" "[LPageScribe$Op;" "PageScribe") (List.mem_of_getElem? (i := 1) rfl))) (fun _ h9 => h9) d_Words_lengthOf_25 ?_
    refine va_tlen hx hb hEV.2.1.2 hS (v := 72) (by decide +kernel) d_Words_lengthOf_28 ?_
    refine lv_isub hx hb d_Words_lengthOf_29 ?_
    refine lv_topi (fun x1 ex1 => ?_)
    have rx1 := zt_rng x1
    have fx1 := zt_subW (show p0.toInt = _ from rfl) tI_72; rw [← ex1] at fx1
    refine lv_istore_n (lv' := [(2, .int x1), (0, .ref (ad 5)), (1, .int p0)]) hx hb d_Words_lengthOf_30 rfl hl (by decide) rfl (fun ls hl => ?_)
    refine lv_iload_n hx hb d_Words_lengthOf_31 rfl (lv_at hl 0 rfl) ?_
    refine lv_if_lt (tgt := 52) hx hb d_Words_lengthOf_32 (by decide) (fun c32_1 => ?_) (fun c32_1 => ?_)
    · have fc32_1 : x1.toInt < 0 := zt_lt (show x1.toInt = _ from rfl) tI_0 c32_1
      refine lv_iconst (v := 0) hx hb d_Words_lengthOf_52 (by decide) ?_
      exact j_iret F hr hlocks hK hS () (show (0 : Int32).toInt ≤ 0 ∨ (0 ≤ p0.toInt ∧ p0.toInt < 72 ∧ (0 : Int32).toInt = ((txL.getD p0.toInt.toNat 0 : Nat) : Int)) ∨ (72 ≤ p0.toInt ∧ p0.toInt < 72 + (f_xw_count S).toInt ∧ (0 : Int32).toInt ≤ 8) by have := tI_0; omega) hP hD d_Words_lengthOf_53
    · have fc32_1 : 0 ≤ x1.toInt := Int.not_lt.mp (zt_nlt (show x1.toInt = _ from rfl) tI_0 c32_1)
      refine lv_iload_n hx hb d_Words_lengthOf_35 rfl (lv_at hl 0 rfl) ?_
      refine lv_aload_n hx hb d_Words_lengthOf_36 rfl (lv_at hl 1 rfl) ?_
      refine va_get (D := D) (ci := 1) (v := .int (f_xw_count S)) (C := "PageScribe$Words") (T := F_Words) (N := 3) hx hb hts i_Words hown hK hP 5 (ce_5 _ _ _) cl_1 2 (by decide) (hts _ k_1_77) (fun _ h9 => h9) rfl d_Words_lengthOf_37 ?_
      refine lv_icmp_ge (tgt := 52) hx hb d_Words_lengthOf_40 (by decide) (fun c40_1 => ?_) (fun c40_1 => ?_)
      · have fc40_1 : (f_xw_count S).toInt ≤ x1.toInt := zt_le (show (f_xw_count S).toInt = _ from rfl) (show x1.toInt = _ from rfl) c40_1
        refine lv_iconst (v := 0) hx hb d_Words_lengthOf_52 (by decide) ?_
        exact j_iret F hr hlocks hK hS () (show (0 : Int32).toInt ≤ 0 ∨ (0 ≤ p0.toInt ∧ p0.toInt < 72 ∧ (0 : Int32).toInt = ((txL.getD p0.toInt.toNat 0 : Nat) : Int)) ∨ (72 ≤ p0.toInt ∧ p0.toInt < 72 + (f_xw_count S).toInt ∧ (0 : Int32).toInt ≤ 8) by have := tI_0; omega) hP hD d_Words_lengthOf_53
      · have fc40_1 : x1.toInt < (f_xw_count S).toInt := Int.not_le.mp (zt_nle (show (f_xw_count S).toInt = _ from rfl) (show x1.toInt = _ from rfl) c40_1)
        refine lv_aload_n hx hb d_Words_lengthOf_43 rfl (lv_at hl 1 rfl) ?_
        refine va_get (D := D) (ci := 1) (v := .ref (ad 7)) (C := "PageScribe$Words") (T := F_Words) (N := 3) hx hb hts i_Words hown hK hP 5 (ce_5 _ _ _) cl_1 1 (by decide) (hts _ k_1_76) (fun _ h9 => h9) rfl d_Words_lengthOf_44 ?_
        refine lv_iload_n hx hb d_Words_lengthOf_47 rfl (lv_at hl 0 rfl) ?_
        refine va_iald hx hb hK hP 7 0 (ce_7 _ _ _) rfl (zt_in (show x1.toInt = _ from rfl) (by omega) (by omega)) d_Words_lengthOf_48 ?_
        refine lv_topi (fun x2 ex2 => ?_)
        have gx2 : x2 = (a_xw_lengths S) x1.toInt.toNat := ex2.trans (congrArg _ (zt_ix (show x1.toInt = _ from rfl)))
        have fx2 : x2.toInt = ((a_xw_lengths S) x1.toInt.toNat).toInt := by rw [gx2]
        have rx2 := zt_rng x2
        have kx2 := i_wln (x1.toInt.toNat) (by omega)
        refine lv_goto (tgt := 53) hx hb d_Words_lengthOf_49 (by decide) ?_
        exact j_iret F hr hlocks hK hS () (show x2.toInt ≤ 0 ∨ (0 ≤ p0.toInt ∧ p0.toInt < 72 ∧ x2.toInt = ((txL.getD p0.toInt.toNat 0 : Nat) : Int)) ∨ (72 ≤ p0.toInt ∧ p0.toInt < 72 + (f_xw_count S).toInt ∧ x2.toInt ≤ 8) by omega) hP hD d_Words_lengthOf_53
  · have fc1_1 : 0 ≤ p0.toInt := Int.not_lt.mp (zt_nlt (show p0.toInt = _ from rfl) tI_0 c1_1)
    refine lv_iload_n hx hb d_Words_lengthOf_4 rfl (lv_at hl 1 rfl) ?_
    refine va_getsN hx hb hEV.2.1.1 hS hown (va_Nw.use rfl (hE.2.2.2 (Cond.fieldLinkNest "PageScribe$Words" 23 "PageScribe" "OPERATORS" "[LPageScribe$Op;" "PageScribe") (List.mem_of_getElem? (i := 1) rfl))) (fun _ h9 => h9) d_Words_lengthOf_5 ?_
    refine va_tlen hx hb hEV.2.1.2 hS (v := 72) (by decide +kernel) d_Words_lengthOf_8 ?_
    refine lv_icmp_ge (tgt := 24) hx hb d_Words_lengthOf_9 (by decide) (fun c9_1 => ?_) (fun c9_1 => ?_)
    · have fc9_1 : 72 ≤ p0.toInt := zt_le tI_72 (show p0.toInt = _ from rfl) c9_1
      refine lv_iload_n hx hb d_Words_lengthOf_24 rfl (lv_at hl 1 rfl) ?_
      refine va_getsN hx hb hEV.2.1.1 hS hown (va_Nw.use rfl (hE.2.2.2 (Cond.fieldLinkNest "PageScribe$Words" 23 "PageScribe" "OPERATORS" "[LPageScribe$Op;" "PageScribe") (List.mem_of_getElem? (i := 1) rfl))) (fun _ h9 => h9) d_Words_lengthOf_25 ?_
      refine va_tlen hx hb hEV.2.1.2 hS (v := 72) (by decide +kernel) d_Words_lengthOf_28 ?_
      refine lv_isub hx hb d_Words_lengthOf_29 ?_
      refine lv_topi (fun x3 ex3 => ?_)
      have rx3 := zt_rng x3
      have fx3 := zt_subW (show p0.toInt = _ from rfl) tI_72; rw [← ex3] at fx3
      refine lv_istore_n (lv' := [(2, .int x3), (0, .ref (ad 5)), (1, .int p0)]) hx hb d_Words_lengthOf_30 rfl hl (by decide) rfl (fun ls hl => ?_)
      refine lv_iload_n hx hb d_Words_lengthOf_31 rfl (lv_at hl 0 rfl) ?_
      refine lv_if_lt (tgt := 52) hx hb d_Words_lengthOf_32 (by decide) (fun c32_2 => ?_) (fun c32_2 => ?_)
      · have fc32_2 : x3.toInt < 0 := zt_lt (show x3.toInt = _ from rfl) tI_0 c32_2
        refine lv_iconst (v := 0) hx hb d_Words_lengthOf_52 (by decide) ?_
        exact j_iret F hr hlocks hK hS () (show (0 : Int32).toInt ≤ 0 ∨ (0 ≤ p0.toInt ∧ p0.toInt < 72 ∧ (0 : Int32).toInt = ((txL.getD p0.toInt.toNat 0 : Nat) : Int)) ∨ (72 ≤ p0.toInt ∧ p0.toInt < 72 + (f_xw_count S).toInt ∧ (0 : Int32).toInt ≤ 8) by have := tI_0; omega) hP hD d_Words_lengthOf_53
      · have fc32_2 : 0 ≤ x3.toInt := Int.not_lt.mp (zt_nlt (show x3.toInt = _ from rfl) tI_0 c32_2)
        refine lv_iload_n hx hb d_Words_lengthOf_35 rfl (lv_at hl 0 rfl) ?_
        refine lv_aload_n hx hb d_Words_lengthOf_36 rfl (lv_at hl 1 rfl) ?_
        refine va_get (D := D) (ci := 1) (v := .int (f_xw_count S)) (C := "PageScribe$Words") (T := F_Words) (N := 3) hx hb hts i_Words hown hK hP 5 (ce_5 _ _ _) cl_1 2 (by decide) (hts _ k_1_77) (fun _ h9 => h9) rfl d_Words_lengthOf_37 ?_
        refine lv_icmp_ge (tgt := 52) hx hb d_Words_lengthOf_40 (by decide) (fun c40_2 => ?_) (fun c40_2 => ?_)
        · have fc40_2 : (f_xw_count S).toInt ≤ x3.toInt := zt_le (show (f_xw_count S).toInt = _ from rfl) (show x3.toInt = _ from rfl) c40_2
          refine lv_iconst (v := 0) hx hb d_Words_lengthOf_52 (by decide) ?_
          exact j_iret F hr hlocks hK hS () (show (0 : Int32).toInt ≤ 0 ∨ (0 ≤ p0.toInt ∧ p0.toInt < 72 ∧ (0 : Int32).toInt = ((txL.getD p0.toInt.toNat 0 : Nat) : Int)) ∨ (72 ≤ p0.toInt ∧ p0.toInt < 72 + (f_xw_count S).toInt ∧ (0 : Int32).toInt ≤ 8) by have := tI_0; omega) hP hD d_Words_lengthOf_53
        · have fc40_2 : x3.toInt < (f_xw_count S).toInt := Int.not_le.mp (zt_nle (show (f_xw_count S).toInt = _ from rfl) (show x3.toInt = _ from rfl) c40_2)
          refine lv_aload_n hx hb d_Words_lengthOf_43 rfl (lv_at hl 1 rfl) ?_
          refine va_get (D := D) (ci := 1) (v := .ref (ad 7)) (C := "PageScribe$Words") (T := F_Words) (N := 3) hx hb hts i_Words hown hK hP 5 (ce_5 _ _ _) cl_1 1 (by decide) (hts _ k_1_76) (fun _ h9 => h9) rfl d_Words_lengthOf_44 ?_
          refine lv_iload_n hx hb d_Words_lengthOf_47 rfl (lv_at hl 0 rfl) ?_
          refine va_iald hx hb hK hP 7 0 (ce_7 _ _ _) rfl (zt_in (show x3.toInt = _ from rfl) (by omega) (by omega)) d_Words_lengthOf_48 ?_
          refine lv_topi (fun x4 ex4 => ?_)
          have gx4 : x4 = (a_xw_lengths S) x3.toInt.toNat := ex4.trans (congrArg _ (zt_ix (show x3.toInt = _ from rfl)))
          have fx4 : x4.toInt = ((a_xw_lengths S) x3.toInt.toNat).toInt := by rw [gx4]
          have rx4 := zt_rng x4
          have kx4 := i_wln (x3.toInt.toNat) (by omega)
          refine lv_goto (tgt := 53) hx hb d_Words_lengthOf_49 (by decide) ?_
          exact j_iret F hr hlocks hK hS () (show x4.toInt ≤ 0 ∨ (0 ≤ p0.toInt ∧ p0.toInt < 72 ∧ x4.toInt = ((txL.getD p0.toInt.toNat 0 : Nat) : Int)) ∨ (72 ≤ p0.toInt ∧ p0.toInt < 72 + (f_xw_count S).toInt ∧ x4.toInt ≤ 8) by omega) hP hD d_Words_lengthOf_53
    · have fc9_1 : p0.toInt < 72 := Int.not_le.mp (zt_nle tI_72 (show p0.toInt = _ from rfl) c9_1)
      refine va_getsN hx hb hEV.2.1.1 hS hown (va_Nw.use rfl (hE.2.2.2 (Cond.fieldLinkNest "PageScribe$Words" 23 "PageScribe" "OPERATORS" "[LPageScribe$Op;" "PageScribe") (List.mem_of_getElem? (i := 1) rfl))) (fun _ h9 => h9) d_Words_lengthOf_12 ?_
      refine lv_iload_n hx hb d_Words_lengthOf_15 rfl (lv_at hl 1 rfl) ?_
      have hi1 : p0.toInt.toNat < 72 := by omega
      refine vb_tq hx hb hEV.2.1.2 hS (zt_in (show p0.toInt = _ from rfl) (by omega) (by omega)) (v := .ref (g_en g (p0.toInt.toNat))) (by rw [zt_ix (show p0.toInt = _ from rfl)]) d_Words_lengthOf_16 ?_
      refine vk_getf hx hb (hEV.1 (p0.toInt.toNat) hi1).2.2.2.1 hS hown (hts _ k_8_184) (fun _ h9 => h9) d_Words_lengthOf_17 ?_
      refine jc_ci (w := (fun _ => S)) hK hP hD hS hA (va_runV (As := []) (rest := []) F (c_String_length l D T ad g Bq S (p0.toInt.toNat)  s.heap.size (Nat.lt_trans hi1 (by decide))) (j_cV (k := 0) (C := "java/lang/String") hts k_2_150 k_1_17 k_2_147 k_2_148 k_2_149 (by decide +kernel) ⟨Nat.le_of_ble_eq_true rfl, Nat.le_of_ble_eq_true rfl⟩) (jc_preO (j_preS hK hP hD csc csc_all csc_nd (fun _ _ _ _ h => EC.calling h) (fun U hU hW => EC.at hS hAB hU hW hE)) (hEV.2.2.2.2.1.1 _ (Nat.lt_trans hi1 (by decide))).1 hS) rfl rfl hl.1 rfl (lv_room (Nat.le_of_ble_eq_true rfl)) d_Words_lengthOf_20 ⟨Nat.le_of_ble_eq_true rfl, Nat.le_of_ble_eq_true rfl⟩) (fun rv1 u1 H locs hw1 hP hD hS => ?_)
      have hP : va_P D classes (cW T ad S) H := hP
      have hD : va_D A (cW T ad S) := hD
      have qhw1 : rv1.toInt = ((txL.getD (p0.toInt.toNat) 0 : Nat) : Int) := hw1
      have rrv1 := zt_rng rv1
      exact j_iret F hr hlocks hK hS () (show rv1.toInt ≤ 0 ∨ (0 ≤ p0.toInt ∧ p0.toInt < 72 ∧ rv1.toInt = ((txL.getD p0.toInt.toNat 0 : Nat) : Int)) ∨ (72 ≤ p0.toInt ∧ p0.toInt < 72 + (f_xw_count S).toInt ∧ rv1.toInt ≤ 8) by omega) hP hD d_Words_lengthOf_23
theorem d_Words_letterOf_0 : decode prog_13_method_7_code 0 = .ok (.iload_n 2, 1) := by decide +kernel
theorem d_Words_letterOf_1 : decode prog_13_method_7_code 1 = .ok (.ifCond .lt 12, 3) := by decide +kernel
theorem d_Words_letterOf_13 : decode prog_13_method_7_code 13 = .ok (.iconst (-1), 1) := by decide +kernel
theorem d_Words_letterOf_14 : decode prog_13_method_7_code 14 = .ok (.ireturn, 1) := by decide +kernel
theorem d_Words_letterOf_4 : decode prog_13_method_7_code 4 = .ok (.iload_n 2, 1) := by decide +kernel
theorem d_Words_letterOf_5 : decode prog_13_method_7_code 5 = .ok (.aload_n 0, 1) := by decide +kernel
theorem d_Words_letterOf_6 : decode prog_13_method_7_code 6 = .ok (.iload_n 1, 1) := by decide +kernel
theorem d_Words_letterOf_7 : decode prog_13_method_7_code 7 = .ok (.invokevirtual 51, 3) := by decide +kernel
theorem k_2_144 : Cond.code ⟨"PageScribe$Words", "lengthOf", "(I)I"⟩ prog_13_method_6_code 3 (some .int) ∈ gw := gw_of (tb_2 (List.mem_of_getElem? (i := 144) (by decide +kernel))) (by decide +kernel)
theorem k_2_141 : Cond.methodLink "PageScribe$Words" 51 ⟨"PageScribe$Words", "lengthOf", "(I)I"⟩ ∈ gw := gw_of (tb_2 (List.mem_of_getElem? (i := 141) (by decide +kernel))) (by decide +kernel)
theorem k_2_142 : Cond.instanceMethod ⟨"PageScribe$Words", "lengthOf", "(I)I"⟩ ∈ gw := gw_of (tb_2 (List.mem_of_getElem? (i := 142) (by decide +kernel))) (by decide +kernel)
theorem k_2_143 : Cond.selects "PageScribe$Words" ⟨"PageScribe$Words", "lengthOf", "(I)I"⟩ ⟨"PageScribe$Words", "lengthOf", "(I)I"⟩ ∈ gw := gw_of (tb_2 (List.mem_of_getElem? (i := 143) (by decide +kernel))) (by decide +kernel)
theorem d_Words_letterOf_10 : decode prog_13_method_7_code 10 = .ok (.if_icmp .lt 5, 3) := by decide +kernel
theorem d_Words_letterOf_15 : decode prog_13_method_7_code 15 = .ok (.iload_n 1, 1) := by decide +kernel
theorem d_Words_letterOf_16 : decode prog_13_method_7_code 16 = .ok (.getstatic 23, 3) := by decide +kernel
theorem d_Words_letterOf_19 : decode prog_13_method_7_code 19 = .ok (.arraylength, 1) := by decide +kernel
theorem d_Words_letterOf_20 : decode prog_13_method_7_code 20 = .ok (.if_icmp .ge 16, 3) := by decide +kernel
theorem d_Words_letterOf_36 : decode prog_13_method_7_code 36 = .ok (.aload_n 0, 1) := by decide +kernel
theorem d_Words_letterOf_37 : decode prog_13_method_7_code 37 = .ok (.getfield 9, 3) := by decide +kernel
theorem d_Words_letterOf_40 : decode prog_13_method_7_code 40 = .ok (.iload_n 1, 1) := by decide +kernel
theorem d_Words_letterOf_41 : decode prog_13_method_7_code 41 = .ok (.getstatic 23, 3) := by decide +kernel
theorem d_Words_letterOf_44 : decode prog_13_method_7_code 44 = .ok (.arraylength, 1) := by decide +kernel
theorem d_Words_letterOf_45 : decode prog_13_method_7_code 45 = .ok (.isub, 1) := by decide +kernel
theorem d_Words_letterOf_46 : decode prog_13_method_7_code 46 = .ok (.bipush 8, 2) := by decide +kernel
theorem d_Words_letterOf_48 : decode prog_13_method_7_code 48 = .ok (.imul, 1) := by decide +kernel
theorem d_Words_letterOf_49 : decode prog_13_method_7_code 49 = .ok (.iload_n 2, 1) := by decide +kernel
theorem d_Words_letterOf_50 : decode prog_13_method_7_code 50 = .ok (.iadd, 1) := by decide +kernel
theorem d_Words_letterOf_51 : decode prog_13_method_7_code 51 = .ok (.caload, 1) := by decide +kernel
theorem d_Words_letterOf_52 : decode prog_13_method_7_code 52 = .ok (.ireturn, 1) := by decide +kernel
theorem d_Words_letterOf_23 : decode prog_13_method_7_code 23 = .ok (.getstatic 23, 3) := by decide +kernel
theorem d_Words_letterOf_26 : decode prog_13_method_7_code 26 = .ok (.iload_n 1, 1) := by decide +kernel
theorem d_Words_letterOf_27 : decode prog_13_method_7_code 27 = .ok (.aaload, 1) := by decide +kernel
theorem d_Words_letterOf_28 : decode prog_13_method_7_code 28 = .ok (.getfield 27, 3) := by decide +kernel
theorem d_Words_letterOf_31 : decode prog_13_method_7_code 31 = .ok (.iload_n 2, 1) := by decide +kernel
theorem d_Words_letterOf_32 : decode prog_13_method_7_code 32 = .ok (.invokevirtual 47, 3) := by decide +kernel
theorem d_Words_letterOf_35 : decode prog_13_method_7_code 35 = .ok (.ireturn, 1) := by decide +kernel
set_option maxHeartbeats 4000000 in
set_option maxRecDepth 100000 in
theorem c_Words_letterOf (l : Launch) (D : va_G) (T : Nat → ClassId) (ad : Nat → Nat) (g : GE) (Bq : Nat → Prop) (S : CS) (p0 : Int32) (p1 : Int32) (sz : Nat)  (hI : CIv S) : Met l ⟨"PageScribe$Words", "letterOf", "(II)I"⟩ (wy ⟨"PageScribe$Words", "letterOf", "(II)I"⟩ prog_13_method_7_code 3 (some .int)) ({ frames := 4, cells := 0, slots := 0, locals := 280 }) (va_Pc [.ref (ad 5), .int p0, .int p1] (Pw D T (cW T ad S) sz (EC g Bq ad))) (va_Qi (fun (r : Int32) (u : Unit) => True) (fun u t => Bw D T (va_A (cW T ad S) sz) (cW T ad S) t) (va_A (cW T ad S) sz)) 0 0 (va_A (cW T ad S) sz) := by
  refine j_met (y := ⟨"PageScribe$Words", "letterOf", "(II)I"⟩) (b := prog_13_method_7_code) (n := 3) (ret := (some .int)) (av := [.ref (ad 5), .int p0, .int p1]) (Qc := fun A => va_Qi (fun (r : Int32) (u : Unit) => True) (fun u t => Bw D T A (cW T ad S) t) A) (by decide +kernel) (Nat.le_of_ble_eq_true rfl) (fun p e s m args below meth c A ls F hr hlocks hnm hK hP hD hS hA hN hE hl => ?_)
  obtain ⟨hx, hb, hml, hown, hts⟩ := id F
  have hl : lv_has ls 3 [(0, .ref (ad 5)), (1, .int p0), (2, .int p1)] := hl
  obtain ⟨i_vst, i_vc0, i_vc1, i_vc2, i_vc3, i_vv0, i_vv1, i_vv2, i_vv3, i_vg, i_wct, i_wln, i_sd0, i_sd1, i_sd2, i_sd3, i_rln, i_rtx, i_rpl, i_rtk, i_cnv, i_pts, i_cik, i_und⟩ := id hI
  have hAB : ∀ q, A q → Bq q := EC.ab hE hN
  have hEV := hE.1.narrow hAB
  have rp0 := zt_rng p0
  have rp1 := zt_rng p1
  refine lv_iload_n hx hb d_Words_letterOf_0 rfl (lv_at hl 2 rfl) ?_
  refine lv_if_lt (tgt := 13) hx hb d_Words_letterOf_1 (by decide) (fun c1_1 => ?_) (fun c1_1 => ?_)
  · have fc1_1 : p1.toInt < 0 := zt_lt (show p1.toInt = _ from rfl) tI_0 c1_1
    refine lv_iconst (v := (-1)) hx hb d_Words_letterOf_13 (by decide) ?_
    exact j_iret F hr hlocks hK hS () trivial hP hD d_Words_letterOf_14
  · have fc1_1 : 0 ≤ p1.toInt := Int.not_lt.mp (zt_nlt (show p1.toInt = _ from rfl) tI_0 c1_1)
    refine lv_iload_n hx hb d_Words_letterOf_4 rfl (lv_at hl 2 rfl) ?_
    refine lv_aload_n hx hb d_Words_letterOf_5 rfl (lv_at hl 0 rfl) ?_
    refine lv_iload_n hx hb d_Words_letterOf_6 rfl (lv_at hl 1 rfl) ?_
    refine jc_ci (w := (fun _ => S)) hK hP hD hS hA (va_runV (As := [.int p0]) (rest := [.int p1]) F (c_Words_lengthOf l D T ad g Bq S p0  s.heap.size ⟨i_vst, i_vc0, i_vc1, i_vc2, i_vc3, i_vv0, i_vv1, i_vv2, i_vv3, i_vg, i_wct, i_wln, i_sd0, i_sd1, i_sd2, i_sd3, i_rln, i_rtx, i_rpl, i_rtk, i_cnv, i_pts, i_cik, i_und⟩) (j_cV (k := 1) (C := "PageScribe$Words") hts k_2_144 k_1_4 k_2_141 k_2_142 k_2_143 (by decide +kernel) ⟨Nat.le_of_ble_eq_true rfl, Nat.le_of_ble_eq_true rfl⟩) (j_preV (q0 := 5) (ci := 1) hK hP hD csc csc_all csc_nd cl_1 (ce_5 _ _ _) (fun _ _ _ _ h => EC.calling h) (fun U hU hW => EC.at hS hAB hU hW hE)) rfl rfl hl.1 rfl (lv_room (Nat.le_of_ble_eq_true rfl)) d_Words_letterOf_7 ⟨Nat.le_of_ble_eq_true rfl, Nat.le_of_ble_eq_true rfl⟩) (fun rv1 u1 H locs hw1 hP hD hS => ?_)
    have hP : va_P D classes (cW T ad S) H := hP
    have hD : va_D A (cW T ad S) := hD
    have qhw1 : rv1.toInt ≤ 0 ∨ (0 ≤ p0.toInt ∧ p0.toInt < 72 ∧ rv1.toInt = ((txL.getD p0.toInt.toNat 0 : Nat) : Int)) ∨ (72 ≤ p0.toInt ∧ p0.toInt < 72 + (f_xw_count S).toInt ∧ rv1.toInt ≤ 8) := hw1
    have rrv1 := zt_rng rv1
    refine lv_icmp_lt (tgt := 15) hx hb d_Words_letterOf_10 (by decide) (fun c10_1 => ?_) (fun c10_1 => ?_)
    · have fc10_1 : p1.toInt < rv1.toInt := zt_lt (show p1.toInt = _ from rfl) (show rv1.toInt = _ from rfl) c10_1
      refine lv_iload_n hx hb d_Words_letterOf_15 rfl (lv_at hl 1 rfl) ?_
      refine va_getsN hx hb hEV.2.1.1 hS hown (va_Nw.use rfl (hE.2.2.2 (Cond.fieldLinkNest "PageScribe$Words" 23 "PageScribe" "OPERATORS" "[LPageScribe$Op;" "PageScribe") (List.mem_of_getElem? (i := 1) rfl))) (fun _ h9 => h9) d_Words_letterOf_16 ?_
      refine va_tlen hx hb hEV.2.1.2 hS (v := 72) (by decide +kernel) d_Words_letterOf_19 ?_
      refine lv_icmp_ge (tgt := 36) hx hb d_Words_letterOf_20 (by decide) (fun c20_1 => ?_) (fun c20_1 => ?_)
      · have fc20_1 : 72 ≤ p0.toInt := zt_le tI_72 (show p0.toInt = _ from rfl) c20_1
        refine lv_aload_n hx hb d_Words_letterOf_36 rfl (lv_at hl 0 rfl) ?_
        refine va_get (D := D) (ci := 1) (v := .ref (ad 6)) (C := "PageScribe$Words") (T := F_Words) (N := 3) hx hb hts i_Words hown hK hP 5 (ce_5 _ _ _) cl_1 0 (by decide) (hts _ k_1_75) (fun _ h9 => h9) rfl d_Words_letterOf_37 ?_
        refine lv_iload_n hx hb d_Words_letterOf_40 rfl (lv_at hl 1 rfl) ?_
        refine va_getsN hx hb hEV.2.1.1 hS hown (va_Nw.use rfl (hE.2.2.2 (Cond.fieldLinkNest "PageScribe$Words" 23 "PageScribe" "OPERATORS" "[LPageScribe$Op;" "PageScribe") (List.mem_of_getElem? (i := 1) rfl))) (fun _ h9 => h9) d_Words_letterOf_41 ?_
        refine va_tlen hx hb hEV.2.1.2 hS (v := 72) (by decide +kernel) d_Words_letterOf_44 ?_
        refine lv_isub hx hb d_Words_letterOf_45 ?_
        refine lv_topi (fun x1 ex1 => ?_)
        have fx1 : x1.toInt = (p0.toInt - 72) := by rw [ex1]; exact (zt_sub (show p0.toInt = _ from rfl) tI_72 (by omega) (by omega)).trans (by omega)
        refine lv_bipush (v := 8) hx hb d_Words_letterOf_46 (by decide) ?_
        refine lv_imul hx hb d_Words_letterOf_48 ?_
        refine lv_topi (fun x2 ex2 => ?_)
        have fx2 : x2.toInt = (8 * p0.toInt - 576) := by rw [ex2]; exact (zt_mul fx1 tI_8 rfl (by omega) (by omega)).trans (by omega)
        refine lv_iload_n hx hb d_Words_letterOf_49 rfl (lv_at hl 2 rfl) ?_
        refine lv_iadd hx hb d_Words_letterOf_50 ?_
        refine lv_topi (fun x3 ex3 => ?_)
        have fx3 : x3.toInt = (8 * p0.toInt + p1.toInt - 576) := by rw [ex3]; exact (zt_add fx2 (show p1.toInt = _ from rfl) (by omega) (by omega)).trans (by omega)
        refine va_cald hx hb hK hP 6 2 (ce_6 _ _ _) rfl (zt_in fx3 (by omega) (by omega)) d_Words_letterOf_51 ?_
        refine lv_topi (fun x4 ex4 => ?_)
        have gx4 : x4 = (a_xw_letters S) (8 * p0.toInt + p1.toInt - 576).toNat := ex4.trans (congrArg _ (zt_ix fx3))
        have fx4 : x4.toInt = ((a_xw_letters S) (8 * p0.toInt + p1.toInt - 576).toNat).toInt := by rw [gx4]
        have rx4 := zt_rng x4
        exact j_iret F hr hlocks hK hS () trivial hP hD d_Words_letterOf_52
      · have fc20_1 : p0.toInt < 72 := Int.not_le.mp (zt_nle tI_72 (show p0.toInt = _ from rfl) c20_1)
        refine va_getsN hx hb hEV.2.1.1 hS hown (va_Nw.use rfl (hE.2.2.2 (Cond.fieldLinkNest "PageScribe$Words" 23 "PageScribe" "OPERATORS" "[LPageScribe$Op;" "PageScribe") (List.mem_of_getElem? (i := 1) rfl))) (fun _ h9 => h9) d_Words_letterOf_23 ?_
        refine lv_iload_n hx hb d_Words_letterOf_26 rfl (lv_at hl 1 rfl) ?_
        have hi1 : p0.toInt.toNat < 72 := by omega
        refine vb_tq hx hb hEV.2.1.2 hS (zt_in (show p0.toInt = _ from rfl) (by omega) (by omega)) (v := .ref (g_en g (p0.toInt.toNat))) (by rw [zt_ix (show p0.toInt = _ from rfl)]) d_Words_letterOf_27 ?_
        refine vk_getf hx hb (hEV.1 (p0.toInt.toNat) hi1).2.2.2.1 hS hown (hts _ k_8_184) (fun _ h9 => h9) d_Words_letterOf_28 ?_
        refine lv_iload_n hx hb d_Words_letterOf_31 rfl (lv_at hl 2 rfl) ?_
        refine jc_ci (w := (fun _ => S)) hK hP hD hS hA (va_runV (As := [.int p1]) (rest := []) F (c_String_charAt l D T ad g Bq S (p0.toInt.toNat) p1  H.size (Nat.lt_trans hi1 (by decide)) (show 0 ≤ p1.toInt ∧ p1.toInt < ((txL.getD (p0.toInt.toNat) 0 : Nat) : Int) by omega)) (j_cV (k := 1) (C := "java/lang/String") hts k_2_160 k_1_17 k_2_157 k_2_158 k_2_159 (by decide +kernel) ⟨Nat.le_of_ble_eq_true rfl, Nat.le_of_ble_eq_true rfl⟩) (jc_preO (j_preS hK hP hD csc csc_all csc_nd (fun _ _ _ _ h => EC.calling h) (fun U hU hW => EC.at hS hAB hU hW hE)) (hEV.2.2.2.2.1.1 _ (Nat.lt_trans hi1 (by decide))).1 hS) rfl rfl hl.1 rfl (lv_room (Nat.le_of_ble_eq_true rfl)) d_Words_letterOf_32 ⟨Nat.le_of_ble_eq_true rfl, Nat.le_of_ble_eq_true rfl⟩) (fun rv2 u2 H locs hw2 hP hD hS => ?_)
        have hP : va_P D classes (cW T ad S) H := hP
        have hD : va_D A (cW T ad S) := hD
        have qhw2 : 0 ≤ rv2.toInt ∧ rv2.toInt ≤ 65535 := hw2
        have rrv2 := zt_rng rv2
        exact j_iret F hr hlocks hK hS () trivial hP hD d_Words_letterOf_35
    · have fc10_1 : rv1.toInt ≤ p1.toInt := Int.not_lt.mp (zt_nlt (show p1.toInt = _ from rfl) (show rv1.toInt = _ from rfl) c10_1)
      refine lv_iconst (v := (-1)) hx hb d_Words_letterOf_13 (by decide) ?_
      exact j_iret F hr hlocks hK hS () trivial hP hD d_Words_letterOf_14
