theorem cn_two {f : Nat → Int32} {a b : Int} (h0 : 0 ≤ a) (hb : b = (f a.toNat).toInt) : (b = 0 → cntB f (a + 1).toNat = cntB f a.toNat) ∧ (¬ b = 0 → cntB f (a + 1).toNat = cntB f a.toNat + 1) := by
  have e : (a + 1).toNat = a.toNat + 1 := by omega
  rw [e]
  refine ⟨fun q => ?_, fun q => ?_⟩
  · exact (cn_up (f := f) rfl rfl hb ⟨fun _ => rfl, fun q2 => absurd q q2⟩).symm
  · exact (cn_up (f := f) rfl rfl hb ⟨fun q2 => absurd q2 q, fun _ => rfl⟩).symm
theorem wr_ini {f : Nat → Int32} {i L L2 k : Int} (hi : i = 7) (hL : L2 = L) (h120 : L + cntB f 8 ≤ 120) (hk : k = 8) (h1 : (0 : Int) ≤ 0) (h2 : (0 : Int) ≤ 0) :
    -1 ≤ i ∧ i ≤ 7 ∧ i + 1 ≤ k ∧ L2 = L + cntB f 8 - cntB f (i + 1).toNat ∧ L + cntB f 8 ≤ 120 ∧ 0 ≤ cntB f (i + 1).toNat ∧ cntB f (i + 1).toNat ≤ cntB f 8 := by
  have hb := cn_b f 8
  have e : (i + 1).toNat = 8 := by omega
  rw [e]
  omega
theorem wr_fin {f : Nat → Int32} {i i2 L L1 L2 k k2 b : Int} (hcu : (b = 0 → cntB f (i + 1).toNat = cntB f i.toNat) ∧ (¬ b = 0 → cntB f (i + 1).toNat = cntB f i.toNat + 1))
    (hf : -1 ≤ i ∧ i ≤ 7 ∧ i + 1 ≤ k ∧ L1 = L + cntB f 8 - cntB f (i + 1).toNat ∧ L + cntB f 8 ≤ 120 ∧ 0 ≤ cntB f (i + 1).toNat ∧ cntB f (i + 1).toNat ≤ cntB f 8) (hi : 0 ≤ i ∧ i2 = i - 1) (hk : k2 = k - 1) (hL : (b = 0 → L2 = L1) ∧ (¬ b = 0 → L2 = L1 + 1)) (h1 : (0 : Int) ≤ 0) :
    -1 ≤ i2 ∧ i2 ≤ 7 ∧ i2 + 1 ≤ k2 ∧ L2 = L + cntB f 8 - cntB f (i2 + 1).toNat ∧ L + cntB f 8 ≤ 120 ∧ 0 ≤ cntB f (i2 + 1).toNat ∧ cntB f (i2 + 1).toNat ≤ cntB f 8 := by
  have e : (i2 + 1).toNat = i.toNat := by omega
  have hb := cn_b f i.toNat
  rw [e]
  omega
theorem d_Mo_write_0 : decode prog_15_method_74_code 0 = .ok (.aload_n 0, 1) := by decide +kernel
theorem d_Mo_write_1 : decode prog_15_method_74_code 1 = .ok (.iconst 0, 1) := by decide +kernel
theorem d_Mo_write_2 : decode prog_15_method_74_code 2 = .ok (.putfield 242, 3) := by decide +kernel
theorem d_Mo_write_5 : decode prog_15_method_74_code 5 = .ok (.iconst 0, 1) := by decide +kernel
theorem d_Mo_write_6 : decode prog_15_method_74_code 6 = .ok (.istore_n 3, 1) := by decide +kernel
theorem d_Mo_write_7 : decode prog_15_method_74_code 7 = .ok (.iconst 0, 1) := by decide +kernel
theorem d_Mo_write_8 : decode prog_15_method_74_code 8 = .ok (.istore 4, 2) := by decide +kernel
theorem d_Mo_write_10 : decode prog_15_method_74_code 10 = .ok (.iload 4, 2) := by decide +kernel
theorem d_Mo_write_12 : decode prog_15_method_74_code 12 = .ok (.bipush 8, 2) := by decide +kernel
theorem d_Mo_write_14 : decode prog_15_method_74_code 14 = .ok (.if_icmp .ge 57, 3) := by decide +kernel
theorem d_Mo_write_71 : decode prog_15_method_74_code 71 = .ok (.aload_n 0, 1) := by decide +kernel
theorem d_Mo_write_72 : decode prog_15_method_74_code 72 = .ok (.getfield 270, 3) := by decide +kernel
theorem d_Mo_write_75 : decode prog_15_method_74_code 75 = .ok (.iload_n 3, 1) := by decide +kernel
theorem d_Mo_write_76 : decode prog_15_method_74_code 76 = .ok (.iadd, 1) := by decide +kernel
theorem d_Mo_write_77 : decode prog_15_method_74_code 77 = .ok (.bipush 120, 2) := by decide +kernel
theorem d_Mo_write_79 : decode prog_15_method_74_code 79 = .ok (.if_icmp .le 5, 3) := by decide +kernel
theorem tI_120 : (120 : Int32).toInt = 120 := by decide +kernel
theorem d_Mo_write_84 : decode prog_15_method_74_code 84 = .ok (.bipush 7, 2) := by decide +kernel
theorem d_Mo_write_86 : decode prog_15_method_74_code 86 = .ok (.istore 4, 2) := by decide +kernel
theorem d_Mo_write_88 : decode prog_15_method_74_code 88 = .ok (.iload 4, 2) := by decide +kernel
theorem d_Mo_write_90 : decode prog_15_method_74_code 90 = .ok (.ifCond .lt 50, 3) := by decide +kernel
theorem d_Mo_write_140 : decode prog_15_method_74_code 140 = .ok (.iconst 1, 1) := by decide +kernel
theorem d_Mo_write_141 : decode prog_15_method_74_code 141 = .ok (.ireturn, 1) := by decide +kernel
theorem d_Mo_write_93 : decode prog_15_method_74_code 93 = .ok (.lload_n 1, 1) := by decide +kernel
theorem d_Mo_write_94 : decode prog_15_method_74_code 94 = .ok (.bipush 8, 2) := by decide +kernel
theorem d_Mo_write_96 : decode prog_15_method_74_code 96 = .ok (.iload 4, 2) := by decide +kernel
theorem d_Mo_write_98 : decode prog_15_method_74_code 98 = .ok (.imul, 1) := by decide +kernel
theorem d_Mo_write_99 : decode prog_15_method_74_code 99 = .ok (.lshr, 1) := by decide +kernel
theorem d_Mo_write_100 : decode prog_15_method_74_code 100 = .ok (.ldc2_w 564, 3) := by decide +kernel
theorem k_8_121 : Cond.constantLong "PageScribeModel" 564 (255 : Int64) ∈ gw := gw_of (tb_8 (List.mem_of_getElem? (i := 121) (by decide +kernel))) (by decide +kernel)
theorem d_Mo_write_103 : decode prog_15_method_74_code 103 = .ok (.land, 1) := by decide +kernel
theorem tJ_255 : (255 : Int64).toInt = 255 := by decide +kernel
theorem d_Mo_write_104 : decode prog_15_method_74_code 104 = .ok (.l2i, 1) := by decide +kernel
theorem d_Mo_write_105 : decode prog_15_method_74_code 105 = .ok (.istore 5, 2) := by decide +kernel
theorem d_Mo_write_107 : decode prog_15_method_74_code 107 = .ok (.iload 5, 2) := by decide +kernel
theorem d_Mo_write_109 : decode prog_15_method_74_code 109 = .ok (.ifCond .eq 25, 3) := by decide +kernel
theorem d_Mo_write_134 : decode prog_15_method_74_code 134 = .ok (.iinc 4 (-1), 3) := by decide +kernel
theorem d_Mo_write_137 : decode prog_15_method_74_code 137 = .ok (.goto (-49), 3) := by decide +kernel
theorem d_Mo_write_112 : decode prog_15_method_74_code 112 = .ok (.aload_n 0, 1) := by decide +kernel
theorem d_Mo_write_113 : decode prog_15_method_74_code 113 = .ok (.getfield 61, 3) := by decide +kernel
theorem d_Mo_write_116 : decode prog_15_method_74_code 116 = .ok (.aload_n 0, 1) := by decide +kernel
theorem d_Mo_write_117 : decode prog_15_method_74_code 117 = .ok (.getfield 270, 3) := by decide +kernel
theorem d_Mo_write_120 : decode prog_15_method_74_code 120 = .ok (.iload 5, 2) := by decide +kernel
theorem d_Mo_write_122 : decode prog_15_method_74_code 122 = .ok (.i2c, 1) := by decide +kernel
theorem d_Mo_write_123 : decode prog_15_method_74_code 123 = .ok (.castore, 1) := by decide +kernel
theorem d_Mo_write_124 : decode prog_15_method_74_code 124 = .ok (.aload_n 0, 1) := by decide +kernel
theorem d_Mo_write_125 : decode prog_15_method_74_code 125 = .ok (.dup, 1) := by decide +kernel
theorem d_Mo_write_126 : decode prog_15_method_74_code 126 = .ok (.getfield 270, 3) := by decide +kernel
theorem d_Mo_write_129 : decode prog_15_method_74_code 129 = .ok (.iconst 1, 1) := by decide +kernel
theorem d_Mo_write_130 : decode prog_15_method_74_code 130 = .ok (.iadd, 1) := by decide +kernel
theorem d_Mo_write_131 : decode prog_15_method_74_code 131 = .ok (.putfield 270, 3) := by decide +kernel
theorem d_Mo_write_82 : decode prog_15_method_74_code 82 = .ok (.iconst 0, 1) := by decide +kernel
theorem d_Mo_write_83 : decode prog_15_method_74_code 83 = .ok (.ireturn, 1) := by decide +kernel
theorem d_Mo_write_17 : decode prog_15_method_74_code 17 = .ok (.lload_n 1, 1) := by decide +kernel
theorem d_Mo_write_18 : decode prog_15_method_74_code 18 = .ok (.bipush 8, 2) := by decide +kernel
theorem d_Mo_write_20 : decode prog_15_method_74_code 20 = .ok (.iload 4, 2) := by decide +kernel
theorem d_Mo_write_22 : decode prog_15_method_74_code 22 = .ok (.imul, 1) := by decide +kernel
theorem d_Mo_write_23 : decode prog_15_method_74_code 23 = .ok (.lshr, 1) := by decide +kernel
theorem d_Mo_write_24 : decode prog_15_method_74_code 24 = .ok (.ldc2_w 564, 3) := by decide +kernel
theorem d_Mo_write_27 : decode prog_15_method_74_code 27 = .ok (.land, 1) := by decide +kernel
theorem d_Mo_write_28 : decode prog_15_method_74_code 28 = .ok (.l2i, 1) := by decide +kernel
theorem d_Mo_write_29 : decode prog_15_method_74_code 29 = .ok (.istore 5, 2) := by decide +kernel
theorem d_Mo_write_31 : decode prog_15_method_74_code 31 = .ok (.iload 5, 2) := by decide +kernel
theorem d_Mo_write_33 : decode prog_15_method_74_code 33 = .ok (.ifCond .eq 19, 3) := by decide +kernel
theorem d_Mo_write_52 : decode prog_15_method_74_code 52 = .ok (.iload_n 3, 1) := by decide +kernel
theorem d_Mo_write_63 : decode prog_15_method_74_code 63 = .ok (.iadd, 1) := by decide +kernel
theorem d_Mo_write_64 : decode prog_15_method_74_code 64 = .ok (.istore_n 3, 1) := by decide +kernel
theorem d_Mo_write_65 : decode prog_15_method_74_code 65 = .ok (.iinc 4 1, 3) := by decide +kernel
theorem d_Mo_write_68 : decode prog_15_method_74_code 68 = .ok (.goto (-58), 3) := by decide +kernel
theorem d_Mo_write_53 : decode prog_15_method_74_code 53 = .ok (.iload 5, 2) := by decide +kernel
theorem d_Mo_write_55 : decode prog_15_method_74_code 55 = .ok (.ifCond .ne 7, 3) := by decide +kernel
theorem d_Mo_write_62 : decode prog_15_method_74_code 62 = .ok (.iconst 1, 1) := by decide +kernel
theorem d_Mo_write_58 : decode prog_15_method_74_code 58 = .ok (.iconst 0, 1) := by decide +kernel
theorem d_Mo_write_59 : decode prog_15_method_74_code 59 = .ok (.goto 4, 3) := by decide +kernel
theorem d_Mo_write_36 : decode prog_15_method_74_code 36 = .ok (.iload 5, 2) := by decide +kernel
theorem d_Mo_write_38 : decode prog_15_method_74_code 38 = .ok (.bipush 32, 2) := by decide +kernel
theorem d_Mo_write_40 : decode prog_15_method_74_code 40 = .ok (.if_icmp .lt 10, 3) := by decide +kernel
theorem d_Mo_write_50 : decode prog_15_method_74_code 50 = .ok (.iconst 0, 1) := by decide +kernel
theorem d_Mo_write_51 : decode prog_15_method_74_code 51 = .ok (.ireturn, 1) := by decide +kernel
theorem d_Mo_write_43 : decode prog_15_method_74_code 43 = .ok (.iload 5, 2) := by decide +kernel
theorem d_Mo_write_45 : decode prog_15_method_74_code 45 = .ok (.bipush 126, 2) := by decide +kernel
theorem d_Mo_write_47 : decode prog_15_method_74_code 47 = .ok (.if_icmp .le 5, 3) := by decide +kernel
theorem tI_126 : (126 : Int32).toInt = 126 := by decide +kernel
set_option maxHeartbeats 4000000 in
set_option maxRecDepth 100000 in
theorem m_write (l : Launch) (D : va_G) (T : Nat → ClassId) (h0 : Nat) (ar : Nat → Nat) (S : MS) (v0 : Int64) (sz : Nat) (hI : MI S) : Met l ⟨"PageScribeModel", "write", "(J)Z"⟩ (wy ⟨"PageScribeModel", "write", "(J)Z"⟩ prog_15_method_74_code 6 (some .boolean)) ({ frames := 0, cells := 0, slots := 0, locals := 0 }) (va_Pc [.ref h0, .long v0] (Pw D T (mW T h0 ar S) sz E0)) (va_Qi (fun (r : Int32) (u : MS) => MI u ∧ kF S u ∧ ((r.toInt = 1 ∧ wrP (byM v0) (f_length S).toInt ∧ (f_length u).toInt = (f_length S).toInt + cntB (byM v0) 8) ∨ (r.toInt = 0 ∧ ¬ wrP (byM v0) (f_length S).toInt ∧ (f_length u) = (f_length S)))) (fun u t => Bw D T (va_A (mW T h0 ar S) sz) (mW T h0 ar u) t) (va_A (mW T h0 ar S) sz)) 0 0 (va_A (mW T h0 ar S) sz) := by
  refine j_met (y := ⟨"PageScribeModel", "write", "(J)Z"⟩) (b := prog_15_method_74_code) (n := 6) (ret := (some .boolean)) (av := [.ref h0, .long v0]) (Qc := fun A => va_Qi (fun (r : Int32) (u : MS) => MI u ∧ kF S u ∧ ((r.toInt = 1 ∧ wrP (byM v0) (f_length S).toInt ∧ (f_length u).toInt = (f_length S).toInt + cntB (byM v0) 8) ∨ (r.toInt = 0 ∧ ¬ wrP (byM v0) (f_length S).toInt ∧ (f_length u) = (f_length S)))) (fun u t => Bw D T A (mW T h0 ar u) t) A) (by decide +kernel) (Nat.le_of_ble_eq_true rfl) (fun p e s m args below meth c A ls F hr hlocks hnm hK hP hD hS hA hN hE hl => ?_)
  obtain ⟨hx, hb, hml, hown, hts⟩ := id F
  have hl : lv_has ls 6 [(0, .ref h0), (1, .long v0)] := hl
  obtain ⟨i_size, i_taken, i_vals, i_room, i_dicts, i_deep, i_open, i_cells, i_points, i_part, i_length, i_knows, i_page, i_text, i_pats, i_fuel, i_fr, i_ink⟩ := id hI
  refine lv_aload_n hx hb d_Mo_write_0 rfl (lv_at hl 0 rfl) ?_
  refine lv_iconst (v := 0) hx hb d_Mo_write_1 (by decide) ?_
  refine va_put (D := D) (ci := 11) (v := .int 0) (ty := .int) (C := "PageScribeModel") (T := F_Mo) (N := 45) hx hb hts i_Mo t_Mo t_Mo_ok n_Mo hown hK hP hD hS 0 mW_0 cl_11 0 (by decide) (hts _ k_6_160) (fun _ h9 => h9) rfl (by decide +kernel) rfl rfl (Nat.le_of_ble_eq_true rfl) d_Mo_write_2 (fun H locs hP hD hS => ?_)
  rw [mp_thrown] at hP hD
  have hP : va_P D classes (mW T h0 ar (((0, (a_kinds S), (a_codes S), (a_reals S), (f_size S), (f_taken S), (a_words S), (a_many S)), S.2.1, S.2.2.1, S.2.2.2.1, S.2.2.2.2.1, S.2.2.2.2.2) : MS)) H := hP
  have hD : va_D A (mW T h0 ar (((0, (a_kinds S), (a_codes S), (a_reals S), (f_size S), (f_taken S), (a_words S), (a_many S)), S.2.1, S.2.2.1, S.2.2.2.1, S.2.2.2.2.1, S.2.2.2.2.2) : MS)) := hD
  refine lv_iconst (v := 0) hx hb d_Mo_write_5 (by decide) ?_
  refine lv_istore_n (lv' := [(3, .int 0), (0, .ref h0), (1, .long v0)]) hx hb d_Mo_write_6 rfl hl (by decide) rfl (fun ls hl => ?_)
  refine lv_iconst (v := 0) hx hb d_Mo_write_7 (by decide) ?_
  refine lv_istore (lv' := [(4, .int 0), (3, .int 0), (0, .ref h0), (1, .long v0)]) hx hb d_Mo_write_8 hl (by decide) rfl (fun ls hl => ?_)
  refine j_loop (α := Int32 × Int32) (fun k x H locs ls => (0 ≤ x.2.toInt ∧ x.2.toInt ≤ 8 ∧ 8 ≤ x.2.toInt + ((k : Nat) : Int) ∧ 0 ≤ x.1.toInt ∧ x.1.toInt ≤ x.2.toInt ∧ x.1.toInt = cntB (byM v0) x.2.toInt.toNat ∧ okTo (byM v0) x.2.toInt.toNat) ∧ va_P D classes (mW T h0 ar (((0, (a_kinds S), (a_codes S), (a_reals S), (f_size S), (f_taken S), (a_words S), (a_many S)), S.2.1, S.2.2.1, S.2.2.2.1, S.2.2.2.2.1, S.2.2.2.2.2) : MS)) H ∧ va_D A (mW T h0 ar (((0, (a_kinds S), (a_codes S), (a_reals S), (f_size S), (f_taken S), (a_words S), (a_many S)), S.2.1, S.2.2.1, S.2.2.2.1, S.2.2.2.2.1, S.2.2.2.2.2) : MS)) ∧ va_S A s.heap H locs ∧ lv_has ls 6 [(4, .int x.2), (3, .int x.1), (0, .ref h0), (1, .long v0)]) (fun _ _ ls => F0 m 10 ls []) (fun k x H locs ls hI9 ih => ?_) 8 ((0 : Int32), (0 : Int32)) _ _ _ ⟨(show 0 ≤ (0 : Int32).toInt ∧ (0 : Int32).toInt ≤ 8 ∧ 8 ≤ (0 : Int32).toInt + ((8 : Nat) : Int) ∧ 0 ≤ (0 : Int32).toInt ∧ (0 : Int32).toInt ≤ (0 : Int32).toInt ∧ (0 : Int32).toInt = cntB (byM v0) (0 : Int32).toInt.toNat ∧ okTo (byM v0) (0 : Int32).toInt.toNat by have := tI_0; have := tI_0; have := tI_0; first | exact ⟨by omega, by omega, by omega, by omega, by omega, cn_up hf1.2.2.2.2.2.1 (by omega) hby (by omega), ok_s hf1.2.2.2.2.2.2 (by omega) hby (by unfold okZ; omega)⟩ | exact ⟨by omega, by omega, by omega, by omega, by omega, cn_0 (by omega) (by omega), ok_0 (by omega)⟩), hP, hD, hS, lv_sub hl [0, 1, 2, 3] rfl⟩
  obtain ⟨n, i⟩ := x
  obtain ⟨hf1, hP, hD, hS, hl⟩ := hI9
  have hf1 : 0 ≤ i.toInt ∧ i.toInt ≤ 8 ∧ 8 ≤ i.toInt + ((k : Nat) : Int) ∧ 0 ≤ n.toInt ∧ n.toInt ≤ i.toInt ∧ n.toInt = cntB (byM v0) i.toInt.toNat ∧ okTo (byM v0) i.toInt.toNat := hf1
  have hP : va_P D classes (mW T h0 ar (((0, (a_kinds S), (a_codes S), (a_reals S), (f_size S), (f_taken S), (a_words S), (a_many S)), S.2.1, S.2.2.1, S.2.2.2.1, S.2.2.2.2.1, S.2.2.2.2.2) : MS)) H := hP
  have hD : va_D A (mW T h0 ar (((0, (a_kinds S), (a_codes S), (a_reals S), (f_size S), (f_taken S), (a_words S), (a_many S)), S.2.1, S.2.2.1, S.2.2.2.1, S.2.2.2.2.1, S.2.2.2.2.2) : MS)) := hD
  have hl : lv_has ls 6 [(4, .int i), (3, .int n), (0, .ref h0), (1, .long v0)] := hl
  refine lv_iload hx hb d_Mo_write_10 (lv_at hl 0 rfl) ?_
  refine lv_bipush (v := 8) hx hb d_Mo_write_12 (by decide) ?_
  refine lv_icmp_ge (tgt := 71) hx hb d_Mo_write_14 (by decide) (fun c14_1 => ?_) (fun c14_1 => ?_)
  · have fc14_1 : 8 ≤ i.toInt := zt_le tI_8 (show i.toInt = _ from rfl) c14_1
    refine lv_aload_n hx hb d_Mo_write_71 rfl (lv_at hl 2 rfl) ?_
    refine va_get (D := D) (ci := 11) (v := .int (f_length S)) (C := "PageScribeModel") (T := F_Mo) (N := 45) hx hb hts i_Mo hown hK hP 0 mW_0 cl_11 24 (by decide) (hts _ k_6_184) (fun _ h9 => h9) (mg_length _ _) d_Mo_write_72 ?_
    refine lv_iload_n hx hb d_Mo_write_75 rfl (lv_at hl 1 rfl) ?_
    refine lv_iadd hx hb d_Mo_write_76 ?_
    refine lv_topi (fun x1 ex1 => ?_)
    have fx1 : x1.toInt = ((f_length S).toInt + n.toInt) := by rw [ex1]; exact (zt_add (show (f_length S).toInt = _ from rfl) (show n.toInt = _ from rfl) (by omega) (by omega)).trans (by omega)
    refine lv_bipush (v := 120) hx hb d_Mo_write_77 (by decide) ?_
    refine lv_icmp_le (tgt := 84) hx hb d_Mo_write_79 (by decide) (fun c79_1 => ?_) (fun c79_1 => ?_)
    · have fc79_1 : ((f_length S).toInt + n.toInt) ≤ 120 := zt_le fx1 tI_120 c79_1
      have hok : okTo (byM v0) 8 := by have e := hf1.2.2.2.2.2.2; rw [show i.toInt.toNat = 8 by omega] at e; exact e
      have hc8 : n.toInt = cntB (byM v0) 8 := by have e := hf1.2.2.2.2.2.1; rw [show i.toInt.toNat = 8 by omega] at e; exact e
      refine lv_bipush (v := 7) hx hb d_Mo_write_84 (by decide) ?_
      refine lv_istore (lv' := [(4, .int 7), (3, .int n), (0, .ref h0), (1, .long v0)]) hx hb d_Mo_write_86 hl (by decide) rfl (fun ls hl => ?_)
      refine j_loop (α := MS × Int32) (fun k x H locs ls => (-1 ≤ x.2.toInt ∧ x.2.toInt ≤ 7 ∧ x.2.toInt + 1 ≤ ((k : Nat) : Int) ∧ (f_length x.1).toInt = (f_length S).toInt + cntB (byM v0) 8 - cntB (byM v0) (x.2.toInt + 1).toNat ∧ (f_length S).toInt + cntB (byM v0) 8 ≤ 120 ∧ 0 ≤ cntB (byM v0) (x.2.toInt + 1).toNat ∧ cntB (byM v0) (x.2.toInt + 1).toNat ≤ cntB (byM v0) 8) ∧ MI x.1 ∧ kF S x.1 ∧ va_P D classes (mW T h0 ar x.1) H ∧ va_D A (mW T h0 ar x.1) ∧ va_S A s.heap H locs ∧ lv_has ls 6 [(4, .int x.2), (0, .ref h0), (1, .long v0)]) (fun _ _ ls => F0 m 88 ls []) (fun k2 x H locs ls hI9 ih2 => ?_) 8 ((((0, (a_kinds S), (a_codes S), (a_reals S), (f_size S), (f_taken S), (a_words S), (a_many S)), S.2.1, S.2.2.1, S.2.2.2.1, S.2.2.2.2.1, S.2.2.2.2.2) : MS), (7 : Int32)) _ _ _ ⟨(show -1 ≤ (7 : Int32).toInt ∧ (7 : Int32).toInt ≤ 7 ∧ (7 : Int32).toInt + 1 ≤ ((8 : Nat) : Int) ∧ (f_length S).toInt = (f_length S).toInt + cntB (byM v0) 8 - cntB (byM v0) ((7 : Int32).toInt + 1).toNat ∧ (f_length S).toInt + cntB (byM v0) 8 ≤ 120 ∧ 0 ≤ cntB (byM v0) ((7 : Int32).toInt + 1).toNat ∧ cntB (byM v0) ((7 : Int32).toInt + 1).toNat ≤ cntB (byM v0) 8 by have := tI_7; have := tI_0; first | exact wr_fin hcu hf2 (by omega) (by omega) (by omega) (by omega) | exact wr_ini (by omega) (by omega) (by omega) (by omega) (by omega) (by omega)), ⟨i_size, i_taken, i_vals, i_room, i_dicts, i_deep, i_open, i_cells, i_points, i_part, i_length, i_knows, i_page, i_text, i_pats, i_fuel, i_fr, i_ink⟩, (show kF S (((0, (a_kinds S), (a_codes S), (a_reals S), (f_size S), (f_taken S), (a_words S), (a_many S)), S.2.1, S.2.2.1, S.2.2.2.1, S.2.2.2.2.1, S.2.2.2.2.2) : MS) from (kF_r S)), hP, hD, hS, lv_sub hl [0, 2, 3] rfl⟩
      obtain ⟨S1, i⟩ := x
      obtain ⟨hf2, hIx, klF_S1, hP, hD, hS, hl⟩ := hI9
      obtain ⟨i_size, i_taken, i_vals, i_room, i_dicts, i_deep, i_open, i_cells, i_points, i_part, i_length, i_knows, i_page, i_text, i_pats, i_fuel, i_fr, i_ink⟩ := (show MI S1 from hIx)
      have klF_S1 : kF S S1 := klF_S1
      have hf2 : -1 ≤ i.toInt ∧ i.toInt ≤ 7 ∧ i.toInt + 1 ≤ ((k2 : Nat) : Int) ∧ (f_length S1).toInt = (f_length S).toInt + cntB (byM v0) 8 - cntB (byM v0) (i.toInt + 1).toNat ∧ (f_length S).toInt + cntB (byM v0) 8 ≤ 120 ∧ 0 ≤ cntB (byM v0) (i.toInt + 1).toNat ∧ cntB (byM v0) (i.toInt + 1).toNat ≤ cntB (byM v0) 8 := hf2
      have hP : va_P D classes (mW T h0 ar S1) H := hP
      have hD : va_D A (mW T h0 ar S1) := hD
      have hl : lv_has ls 6 [(4, .int i), (0, .ref h0), (1, .long v0)] := hl
      have hcm := cn_mono (byM v0) (show (i.toInt + 1).toNat ≤ 8 by omega)
      refine lv_iload hx hb d_Mo_write_88 (lv_at hl 0 rfl) ?_
      refine lv_if_lt (tgt := 140) hx hb d_Mo_write_90 (by decide) (fun c90_1 => ?_) (fun c90_1 => ?_)
      · have fc90_1 : i.toInt < 0 := zt_lt (show i.toInt = _ from rfl) tI_0 c90_1
        refine lv_iconst (v := 1) hx hb d_Mo_write_140 (by decide) ?_
        exact j_zret F hr (by decide +kernel) hlocks hK hS S1 ⟨⟨i_size, i_taken, i_vals, i_room, i_dicts, i_deep, i_open, i_cells, i_points, i_part, i_length, i_knows, i_page, i_text, i_pats, i_fuel, i_fr, i_ink⟩, klF_S1, (show ((1 : Int32).toInt = 1 ∧ wrP (byM v0) (f_length S).toInt ∧ (f_length S1).toInt = (f_length S).toInt + cntB (byM v0) 8) ∨ ((1 : Int32).toInt = 0 ∧ ¬ wrP (byM v0) (f_length S).toInt ∧ (f_length S1) = (f_length S)) by have := tI_1; exact Or.inl ⟨by omega, ⟨hok, by omega⟩, by have e := hf2.2.2.2.1; rw [show (i.toInt + 1).toNat = 0 by omega] at e; rw [e]; show _ - (0 : Int) = _; omega⟩)⟩ hP hD d_Mo_write_141
      · have fc90_1 : 0 ≤ i.toInt := Int.not_lt.mp (zt_nlt (show i.toInt = _ from rfl) tI_0 c90_1)
        refine lv_lload_n hx hb d_Mo_write_93 rfl (lv_at hl 2 rfl) ?_
        refine lv_bipush (v := 8) hx hb d_Mo_write_94 (by decide) ?_
        refine lv_iload hx hb d_Mo_write_96 (lv_at hl 0 rfl) ?_
        refine lv_imul hx hb d_Mo_write_98 ?_
        refine lv_topi (fun x2 ex2 => ?_)
        have fx2 : x2.toInt = (8 * i.toInt) := by rw [ex2]; exact (zt_mul tI_8 (show i.toInt = _ from rfl) rfl (by omega) (by omega)).trans (by omega)
        refine lv_lshr (v := (v0 >>> ((x2 : Int32).toInt64 &&& 63))) hx hb d_Mo_write_99 rfl ?_
        refine lv_topl (fun x3 ex3 => ?_)
        refine lv_ldc2 (v := (255)) hx hb hown (hts _ k_8_121) d_Mo_write_100 ?_
        refine lv_land hx hb d_Mo_write_103 ?_
        refine lv_topl (fun x4 ex4 => ?_)
        try have fx4 : x4.toInt = x3.toInt % 256 := by rw [ex4]; exact zu_mod (k := 8) (show x3.toInt = _ from rfl) tJ_255 (by decide) (by decide) (by omega)
        refine lv_l2i (v := (x4).toInt32) hx hb d_Mo_write_104 rfl ?_
        refine lv_topi (fun x5 ex5 => ?_)
        have wx5 := zt_rng x5
        have hby : x5.toInt = (byM v0 i.toInt.toNat).toInt := by_is ex3 ex4 ex5 fx2 (by omega) (by omega)
        have hoz : okZ x5.toInt := by rw [hby]; exact hok i.toInt.toNat (by omega)
        unfold okZ at hoz
        have hcu : (x5.toInt = 0 → cntB (byM v0) (i.toInt + 1).toNat = cntB (byM v0) i.toInt.toNat) ∧ (¬ x5.toInt = 0 → cntB (byM v0) (i.toInt + 1).toNat = cntB (byM v0) i.toInt.toNat + 1) := cn_two (by omega) hby
        have hcn := cn_b (byM v0) i.toInt.toNat
        refine lv_istore (lv' := [(5, .int x5), (4, .int i), (0, .ref h0), (1, .long v0)]) hx hb d_Mo_write_105 hl (by decide) rfl (fun ls hl => ?_)
        refine lv_iload hx hb d_Mo_write_107 (lv_at hl 0 rfl) ?_
        refine lv_if_eq (tgt := 134) hx hb d_Mo_write_109 (by decide) (fun c109_1 => ?_) (fun c109_1 => ?_)
        · have fc109_1 : x5.toInt = 0 := zt_eq (show x5.toInt = _ from rfl) tI_0 c109_1
          refine lv_iinc (v := (i + (-1))) (lv' := [(4, .int (i + (-1))), (5, .int x5), (0, .ref h0), (1, .long v0)]) hx hb d_Mo_write_134 hl (k := 1) rfl (by first | rfl | decide) (by decide) rfl (fun ls hl => ?_)
          obtain ⟨x6, ex6⟩ : ∃ z, z = (i + (-1)) := ⟨_, rfl⟩
          rw [← ex6] at hl
          have fx6 : x6.toInt = (i.toInt - 1) := by rw [ex6]; exact (zt_add (show i.toInt = _ from rfl) tI_m1 (by omega) (by omega)).trans (by omega)
          have hl : lv_has ls 6 [(4, .int x6), (5, .int x5), (0, .ref h0), (1, .long v0)] := hl
          refine lv_goto (tgt := 88) hx hb d_Mo_write_137 (by decide) ?_
          exact ih2 (k2 - 1) (S1, x6) _ _ _ (by omega) ⟨(show -1 ≤ x6.toInt ∧ x6.toInt ≤ 7 ∧ x6.toInt + 1 ≤ (((k2 - 1) : Nat) : Int) ∧ (f_length S1).toInt = (f_length S).toInt + cntB (byM v0) 8 - cntB (byM v0) (x6.toInt + 1).toNat ∧ (f_length S).toInt + cntB (byM v0) 8 ≤ 120 ∧ 0 ≤ cntB (byM v0) (x6.toInt + 1).toNat ∧ cntB (byM v0) (x6.toInt + 1).toNat ≤ cntB (byM v0) 8 by first | exact wr_fin hcu hf2 (by omega) (by omega) (by omega) (by omega) | exact wr_ini (by omega) (by omega) (by omega) (by omega) (by omega) (by omega)), ⟨i_size, i_taken, i_vals, i_room, i_dicts, i_deep, i_open, i_cells, i_points, i_part, i_length, i_knows, i_page, i_text, i_pats, i_fuel, i_fr, i_ink⟩, (show kF S S1 from klF_S1), hP, hD, hS, lv_sub hl [0, 2, 3] rfl⟩
        · have fc109_1 : ¬ x5.toInt = 0 := zt_ne (show x5.toInt = _ from rfl) tI_0 c109_1
          refine lv_aload_n hx hb d_Mo_write_112 rfl (lv_at hl 2 rfl) ?_
          refine va_get (D := D) (ci := 11) (v := .ref (ar 15)) (C := "PageScribeModel") (T := F_Mo) (N := 45) hx hb hts i_Mo hown hK hP 0 mW_0 cl_11 23 (by decide) (hts _ k_6_183) (fun _ h9 => h9) (mg_text _ _) d_Mo_write_113 ?_
          refine lv_aload_n hx hb d_Mo_write_116 rfl (lv_at hl 2 rfl) ?_
          refine va_get (D := D) (ci := 11) (v := .int (f_length S1)) (C := "PageScribeModel") (T := F_Mo) (N := 45) hx hb hts i_Mo hown hK hP 0 mW_0 cl_11 24 (by decide) (hts _ k_6_184) (fun _ h9 => h9) (mg_length _ _) d_Mo_write_117 ?_
          refine lv_iload hx hb d_Mo_write_120 (lv_at hl 0 rfl) ?_
          refine lv_i2c (v := ((x5).toUInt32 % 65536).toInt32) hx hb d_Mo_write_122 rfl ?_
          refine lv_topi (fun x7 ex7 => ?_)
          have hnc := zt_nc ex7 (by omega)
          refine va_cast hx hb hK hP hD hS 16 2 (ma_text _ _ _ _) rfl (zt_in (show (f_length S1).toInt = _ from rfl) (by omega) (by omega)) d_Mo_write_123 (fun H locs hP hD hS => ?_)
          rw [ms_text] at hP hD
          rw [zt_ix (show (f_length S1).toInt = _ from rfl)] at hP hD
          have hP : va_P D classes (mW T h0 ar ((S1.1, S1.2.1, ((f_under S1), (a_what S1), (a_array S1), (a_far S1), (a_value S1), (a_grows S1), (a_last S1), (upd (a_text S1) ((f_length S1).toInt.toNat) (vp_nar .char x7))), S1.2.2.2.1, S1.2.2.2.2.1, S1.2.2.2.2.2) : MS)) H := hP
          have hD : va_D A (mW T h0 ar ((S1.1, S1.2.1, ((f_under S1), (a_what S1), (a_array S1), (a_far S1), (a_value S1), (a_grows S1), (a_last S1), (upd (a_text S1) ((f_length S1).toInt.toNat) (vp_nar .char x7))), S1.2.2.2.1, S1.2.2.2.2.1, S1.2.2.2.2.2) : MS)) := hD
          refine lv_aload_n hx hb d_Mo_write_124 rfl (lv_at hl 2 rfl) ?_
          refine lv_dup hx hb d_Mo_write_125 rfl ?_
          refine va_get (D := D) (ci := 11) (v := .int (f_length S1)) (C := "PageScribeModel") (T := F_Mo) (N := 45) hx hb hts i_Mo hown hK hP 0 mW_0 cl_11 24 (by decide) (hts _ k_6_184) (fun _ h9 => h9) (mg_length _ _) d_Mo_write_126 ?_
          refine lv_iconst (v := 1) hx hb d_Mo_write_129 (by decide) ?_
          refine lv_iadd hx hb d_Mo_write_130 ?_
          refine lv_topi (fun x8 ex8 => ?_)
          have fx8 : x8.toInt = ((f_length S1).toInt + 1) := by rw [ex8]; exact (zt_add (show (f_length S1).toInt = _ from rfl) tI_1 (by omega) (by omega)).trans (by omega)
          refine va_put (D := D) (ci := 11) (v := .int x8) (ty := .int) (C := "PageScribeModel") (T := F_Mo) (N := 45) hx hb hts i_Mo t_Mo t_Mo_ok n_Mo hown hK hP hD hS 0 mW_0 cl_11 24 (by decide) (hts _ k_6_184) (fun _ h9 => h9) rfl (by decide +kernel) rfl rfl (Nat.le_of_ble_eq_true rfl) d_Mo_write_131 (fun H locs hP hD hS => ?_)
          rw [mp_length] at hP hD
          have hP : va_P D classes (mW T h0 ar ((S1.1, S1.2.1, ((f_under S1), (a_what S1), (a_array S1), (a_far S1), (a_value S1), (a_grows S1), (a_last S1), (upd (a_text S1) ((f_length S1).toInt.toNat) (vp_nar .char x7))), (x8, (f_at S1), (f_pending S1), (f_level S1), (a_starts S1), (a_known S1), (f_knows S1), (f_fuel S1)), S1.2.2.2.2.1, S1.2.2.2.2.2) : MS)) H := hP
          have hD : va_D A (mW T h0 ar ((S1.1, S1.2.1, ((f_under S1), (a_what S1), (a_array S1), (a_far S1), (a_value S1), (a_grows S1), (a_last S1), (upd (a_text S1) ((f_length S1).toInt.toNat) (vp_nar .char x7))), (x8, (f_at S1), (f_pending S1), (f_level S1), (a_starts S1), (a_known S1), (f_knows S1), (f_fuel S1)), S1.2.2.2.2.1, S1.2.2.2.2.2) : MS)) := hD
          refine lv_iinc (v := (i + (-1))) (lv' := [(4, .int (i + (-1))), (5, .int x5), (0, .ref h0), (1, .long v0)]) hx hb d_Mo_write_134 hl (k := 1) rfl (by first | rfl | decide) (by decide) rfl (fun ls hl => ?_)
          obtain ⟨x9, ex9⟩ : ∃ z, z = (i + (-1)) := ⟨_, rfl⟩
          rw [← ex9] at hl
          have fx9 : x9.toInt = (i.toInt - 1) := by rw [ex9]; exact (zt_add (show i.toInt = _ from rfl) tI_m1 (by omega) (by omega)).trans (by omega)
          have hl : lv_has ls 6 [(4, .int x9), (5, .int x5), (0, .ref h0), (1, .long v0)] := hl
          refine lv_goto (tgt := 88) hx hb d_Mo_write_137 (by decide) ?_
          exact ih2 (k2 - 1) (((S1.1, S1.2.1, ((f_under S1), (a_what S1), (a_array S1), (a_far S1), (a_value S1), (a_grows S1), (a_last S1), (upd (a_text S1) ((f_length S1).toInt.toNat) (vp_nar .char x7))), (x8, (f_at S1), (f_pending S1), (f_level S1), (a_starts S1), (a_known S1), (f_knows S1), (f_fuel S1)), S1.2.2.2.2.1, S1.2.2.2.2.2) : MS), x9) _ _ _ (by omega) ⟨(show -1 ≤ x9.toInt ∧ x9.toInt ≤ 7 ∧ x9.toInt + 1 ≤ (((k2 - 1) : Nat) : Int) ∧ x8.toInt = (f_length S).toInt + cntB (byM v0) 8 - cntB (byM v0) (x9.toInt + 1).toNat ∧ (f_length S).toInt + cntB (byM v0) 8 ≤ 120 ∧ 0 ≤ cntB (byM v0) (x9.toInt + 1).toNat ∧ cntB (byM v0) (x9.toInt + 1).toNat ≤ cntB (byM v0) 8 by first | exact wr_fin hcu hf2 (by omega) (by omega) (by omega) (by omega) | exact wr_ini (by omega) (by omega) (by omega) (by omega) (by omega) (by omega)), ⟨i_size, i_taken, i_vals, i_room, i_dicts, i_deep, i_open, i_cells, i_points, i_part, (show 0 ≤ x8.toInt ∧ x8.toInt ≤ 120 by omega), i_knows, i_page, (ar_up (lo := 0) (hi := 127) (N := 120) i_text (by omega)), i_pats, i_fuel, i_fr, i_ink⟩, (show kF S ((S1.1, S1.2.1, ((f_under S1), (a_what S1), (a_array S1), (a_far S1), (a_value S1), (a_grows S1), (a_last S1), (upd (a_text S1) ((f_length S1).toInt.toNat) (vp_nar .char x7))), (x8, (f_at S1), (f_pending S1), (f_level S1), (a_starts S1), (a_known S1), (f_knows S1), (f_fuel S1)), S1.2.2.2.2.1, S1.2.2.2.2.2) : MS) from klF_S1), hP, hD, hS, lv_sub hl [0, 2, 3] rfl⟩
    · have fc79_1 : 120 < ((f_length S).toInt + n.toInt) := Int.not_le.mp (zt_nle fx1 tI_120 c79_1)
      refine lv_iconst (v := 0) hx hb d_Mo_write_82 (by decide) ?_
      exact j_zret F hr (by decide +kernel) hlocks hK hS (((0, (a_kinds S), (a_codes S), (a_reals S), (f_size S), (f_taken S), (a_words S), (a_many S)), S.2.1, S.2.2.1, S.2.2.2.1, S.2.2.2.2.1, S.2.2.2.2.2) : MS) ⟨⟨i_size, i_taken, i_vals, i_room, i_dicts, i_deep, i_open, i_cells, i_points, i_part, i_length, i_knows, i_page, i_text, i_pats, i_fuel, i_fr, i_ink⟩, (kF_r S), (show ((0 : Int32).toInt = 1 ∧ wrP (byM v0) (f_length S).toInt ∧ (f_length S).toInt = (f_length S).toInt + cntB (byM v0) 8) ∨ ((0 : Int32).toInt = 0 ∧ ¬ wrP (byM v0) (f_length S).toInt ∧ (f_length S) = (f_length S)) by have := tI_0; exact Or.inr ⟨by omega, wr_2 (n := i.toInt.toNat) (by omega) hf1.2.2.2.2.2.1 (by omega), rfl⟩)⟩ hP hD d_Mo_write_83
  · have fc14_1 : i.toInt < 8 := Int.not_le.mp (zt_nle tI_8 (show i.toInt = _ from rfl) c14_1)
    refine lv_lload_n hx hb d_Mo_write_17 rfl (lv_at hl 3 rfl) ?_
    refine lv_bipush (v := 8) hx hb d_Mo_write_18 (by decide) ?_
    refine lv_iload hx hb d_Mo_write_20 (lv_at hl 0 rfl) ?_
    refine lv_imul hx hb d_Mo_write_22 ?_
    refine lv_topi (fun x10 ex10 => ?_)
    have fx10 : x10.toInt = (8 * i.toInt) := by rw [ex10]; exact (zt_mul tI_8 (show i.toInt = _ from rfl) rfl (by omega) (by omega)).trans (by omega)
    refine lv_lshr (v := (v0 >>> ((x10 : Int32).toInt64 &&& 63))) hx hb d_Mo_write_23 rfl ?_
    refine lv_topl (fun x11 ex11 => ?_)
    refine lv_ldc2 (v := (255)) hx hb hown (hts _ k_8_121) d_Mo_write_24 ?_
    refine lv_land hx hb d_Mo_write_27 ?_
    refine lv_topl (fun x12 ex12 => ?_)
    try have fx12 : x12.toInt = x11.toInt % 256 := by rw [ex12]; exact zu_mod (k := 8) (show x11.toInt = _ from rfl) tJ_255 (by decide) (by decide) (by omega)
    refine lv_l2i (v := (x12).toInt32) hx hb d_Mo_write_28 rfl ?_
    refine lv_topi (fun x13 ex13 => ?_)
    have wx13 := zt_rng x13
    have hby : x13.toInt = (byM v0 i.toInt.toNat).toInt := by_is ex11 ex12 ex13 fx10 (by omega) (by omega)
    refine lv_istore (lv' := [(5, .int x13), (4, .int i), (3, .int n), (0, .ref h0), (1, .long v0)]) hx hb d_Mo_write_29 hl (by decide) rfl (fun ls hl => ?_)
    refine lv_iload hx hb d_Mo_write_31 (lv_at hl 0 rfl) ?_
    refine lv_if_eq (tgt := 52) hx hb d_Mo_write_33 (by decide) (fun c33_1 => ?_) (fun c33_1 => ?_)
    · have fc33_1 : x13.toInt = 0 := zt_eq (show x13.toInt = _ from rfl) tI_0 c33_1
      refine lv_iload_n hx hb d_Mo_write_52 rfl (lv_at hl 2 rfl) ?_
      refine j_joinH (α := Int32) (fun x H locs ls => ((x13.toInt = 0 → x.toInt = 0) ∧ (¬ x13.toInt = 0 → x.toInt = 1)) ∧ va_P D classes (mW T h0 ar (((0, (a_kinds S), (a_codes S), (a_reals S), (f_size S), (f_taken S), (a_words S), (a_many S)), S.2.1, S.2.2.1, S.2.2.2.1, S.2.2.2.2.1, S.2.2.2.2.2) : MS)) H ∧ va_D A (mW T h0 ar (((0, (a_kinds S), (a_codes S), (a_reals S), (f_size S), (f_taken S), (a_words S), (a_many S)), S.2.1, S.2.2.1, S.2.2.2.1, S.2.2.2.2.1, S.2.2.2.2.2) : MS)) ∧ va_S A s.heap H locs ∧ lv_has ls 6 [(5, .int x13), (4, .int i), (3, .int n), (0, .ref h0), (1, .long v0)]) (fun x ls => F0 m 63 ls (.int x :: [.int n])) (fun x H locs ls hI9 => ?_) (fun key1 => ?_)
      · obtain ⟨j1, rfl⟩ : ∃ z, z = x := ⟨_, rfl⟩
        obtain ⟨hj1, hP, hD, hS, hl⟩ := hI9
        have hj1 : (x13.toInt = 0 → j1.toInt = 0) ∧ (¬ x13.toInt = 0 → j1.toInt = 1) := hj1
        have hP : va_P D classes (mW T h0 ar (((0, (a_kinds S), (a_codes S), (a_reals S), (f_size S), (f_taken S), (a_words S), (a_many S)), S.2.1, S.2.2.1, S.2.2.2.1, S.2.2.2.2.1, S.2.2.2.2.2) : MS)) H := hP
        have hD : va_D A (mW T h0 ar (((0, (a_kinds S), (a_codes S), (a_reals S), (f_size S), (f_taken S), (a_words S), (a_many S)), S.2.1, S.2.2.1, S.2.2.2.1, S.2.2.2.2.1, S.2.2.2.2.2) : MS)) := hD
        have hl : lv_has ls 6 [(5, .int x13), (4, .int i), (3, .int n), (0, .ref h0), (1, .long v0)] := hl
        refine lv_iadd hx hb d_Mo_write_63 ?_
        refine lv_topi (fun x14 ex14 => ?_)
        have fx14 : x14.toInt = (j1.toInt + n.toInt) := by rw [ex14]; exact (zt_add (show n.toInt = _ from rfl) (show j1.toInt = _ from rfl) (by omega) (by omega)).trans (by omega)
        refine lv_istore_n (lv' := [(3, .int x14), (5, .int x13), (4, .int i), (0, .ref h0), (1, .long v0)]) hx hb d_Mo_write_64 rfl hl (by decide) rfl (fun ls hl => ?_)
        refine lv_iinc (v := (i + 1)) (lv' := [(4, .int (i + 1)), (3, .int x14), (5, .int x13), (0, .ref h0), (1, .long v0)]) hx hb d_Mo_write_65 hl (k := 2) rfl (by first | rfl | decide) (by decide) rfl (fun ls hl => ?_)
        obtain ⟨x15, ex15⟩ : ∃ z, z = (i + 1) := ⟨_, rfl⟩
        rw [← ex15] at hl
        have fx15 : x15.toInt = (i.toInt + 1) := by rw [ex15]; exact (zt_add (show i.toInt = _ from rfl) tI_1 (by omega) (by omega)).trans (by omega)
        have hl : lv_has ls 6 [(4, .int x15), (3, .int x14), (5, .int x13), (0, .ref h0), (1, .long v0)] := hl
        refine lv_goto (tgt := 10) hx hb d_Mo_write_68 (by decide) ?_
        exact ih (k - 1) (x14, x15) _ _ _ (by omega) ⟨(show 0 ≤ x15.toInt ∧ x15.toInt ≤ 8 ∧ 8 ≤ x15.toInt + (((k - 1) : Nat) : Int) ∧ 0 ≤ x14.toInt ∧ x14.toInt ≤ x15.toInt ∧ x14.toInt = cntB (byM v0) x15.toInt.toNat ∧ okTo (byM v0) x15.toInt.toNat by have := tI_0; first | exact ⟨by omega, by omega, by omega, by omega, by omega, cn_up hf1.2.2.2.2.2.1 (by omega) hby (by omega), ok_s hf1.2.2.2.2.2.2 (by omega) hby (by unfold okZ; omega)⟩ | exact ⟨by omega, by omega, by omega, by omega, by omega, cn_0 (by omega) (by omega), ok_0 (by omega)⟩), hP, hD, hS, lv_sub hl [0, 1, 3, 4] rfl⟩
      · refine lv_iload hx hb d_Mo_write_53 (lv_at hl 0 rfl) ?_
        refine lv_if_ne (tgt := 62) hx hb d_Mo_write_55 (by decide) (fun c55_1 => ?_) (fun c55_1 => ?_)
        · have fc55_1 : ¬ x13.toInt = 0 := zt_ne (show x13.toInt = _ from rfl) tI_0 c55_1
          refine lv_iconst (v := 1) hx hb d_Mo_write_62 (by decide) ?_
          exact key1 (1 : Int32) _ _ _ ⟨(show (x13.toInt = 0 → (1 : Int32).toInt = 0) ∧ (¬ x13.toInt = 0 → (1 : Int32).toInt = 1) by have := tI_1; have := tI_0; omega), hP, hD, hS, lv_sub hl [0, 1, 2, 3, 4] rfl⟩
        · have fc55_1 : x13.toInt = 0 := zt_eq (show x13.toInt = _ from rfl) tI_0 c55_1
          refine lv_iconst (v := 0) hx hb d_Mo_write_58 (by decide) ?_
          refine lv_goto (tgt := 63) hx hb d_Mo_write_59 (by decide) ?_
          exact key1 (0 : Int32) _ _ _ ⟨(show (x13.toInt = 0 → (0 : Int32).toInt = 0) ∧ (¬ x13.toInt = 0 → (0 : Int32).toInt = 1) by have := tI_0; have := tI_0; omega), hP, hD, hS, lv_sub hl [0, 1, 2, 3, 4] rfl⟩
    · have fc33_1 : ¬ x13.toInt = 0 := zt_ne (show x13.toInt = _ from rfl) tI_0 c33_1
      refine lv_iload hx hb d_Mo_write_36 (lv_at hl 0 rfl) ?_
      refine lv_bipush (v := 32) hx hb d_Mo_write_38 (by decide) ?_
      refine lv_icmp_lt (tgt := 50) hx hb d_Mo_write_40 (by decide) (fun c40_1 => ?_) (fun c40_1 => ?_)
      · have fc40_1 : x13.toInt < 32 := zt_lt (show x13.toInt = _ from rfl) tI_32 c40_1
        refine lv_iconst (v := 0) hx hb d_Mo_write_50 (by decide) ?_
        exact j_zret F hr (by decide +kernel) hlocks hK hS (((0, (a_kinds S), (a_codes S), (a_reals S), (f_size S), (f_taken S), (a_words S), (a_many S)), S.2.1, S.2.2.1, S.2.2.2.1, S.2.2.2.2.1, S.2.2.2.2.2) : MS) ⟨⟨i_size, i_taken, i_vals, i_room, i_dicts, i_deep, i_open, i_cells, i_points, i_part, i_length, i_knows, i_page, i_text, i_pats, i_fuel, i_fr, i_ink⟩, (kF_r S), (show ((0 : Int32).toInt = 1 ∧ wrP (byM v0) (f_length S).toInt ∧ (f_length S).toInt = (f_length S).toInt + cntB (byM v0) 8) ∨ ((0 : Int32).toInt = 0 ∧ ¬ wrP (byM v0) (f_length S).toInt ∧ (f_length S) = (f_length S)) by have := tI_0; exact Or.inr ⟨by omega, wr_1 (n := i.toInt.toNat) (by omega) hby (by unfold okZ; omega), rfl⟩)⟩ hP hD d_Mo_write_51
      · have fc40_1 : 32 ≤ x13.toInt := Int.not_lt.mp (zt_nlt (show x13.toInt = _ from rfl) tI_32 c40_1)
        refine lv_iload hx hb d_Mo_write_43 (lv_at hl 0 rfl) ?_
        refine lv_bipush (v := 126) hx hb d_Mo_write_45 (by decide) ?_
        refine lv_icmp_le (tgt := 52) hx hb d_Mo_write_47 (by decide) (fun c47_1 => ?_) (fun c47_1 => ?_)
        · have fc47_1 : x13.toInt ≤ 126 := zt_le (show x13.toInt = _ from rfl) tI_126 c47_1
          refine lv_iload_n hx hb d_Mo_write_52 rfl (lv_at hl 2 rfl) ?_
          refine j_joinH (α := Int32) (fun x H locs ls => ((x13.toInt = 0 → x.toInt = 0) ∧ (¬ x13.toInt = 0 → x.toInt = 1)) ∧ va_P D classes (mW T h0 ar (((0, (a_kinds S), (a_codes S), (a_reals S), (f_size S), (f_taken S), (a_words S), (a_many S)), S.2.1, S.2.2.1, S.2.2.2.1, S.2.2.2.2.1, S.2.2.2.2.2) : MS)) H ∧ va_D A (mW T h0 ar (((0, (a_kinds S), (a_codes S), (a_reals S), (f_size S), (f_taken S), (a_words S), (a_many S)), S.2.1, S.2.2.1, S.2.2.2.1, S.2.2.2.2.1, S.2.2.2.2.2) : MS)) ∧ va_S A s.heap H locs ∧ lv_has ls 6 [(5, .int x13), (4, .int i), (3, .int n), (0, .ref h0), (1, .long v0)]) (fun x ls => F0 m 63 ls (.int x :: [.int n])) (fun x H locs ls hI9 => ?_) (fun key2 => ?_)
          · obtain ⟨j2, rfl⟩ : ∃ z, z = x := ⟨_, rfl⟩
            obtain ⟨hj2, hP, hD, hS, hl⟩ := hI9
            have hj2 : (x13.toInt = 0 → j2.toInt = 0) ∧ (¬ x13.toInt = 0 → j2.toInt = 1) := hj2
            have hP : va_P D classes (mW T h0 ar (((0, (a_kinds S), (a_codes S), (a_reals S), (f_size S), (f_taken S), (a_words S), (a_many S)), S.2.1, S.2.2.1, S.2.2.2.1, S.2.2.2.2.1, S.2.2.2.2.2) : MS)) H := hP
            have hD : va_D A (mW T h0 ar (((0, (a_kinds S), (a_codes S), (a_reals S), (f_size S), (f_taken S), (a_words S), (a_many S)), S.2.1, S.2.2.1, S.2.2.2.1, S.2.2.2.2.1, S.2.2.2.2.2) : MS)) := hD
            have hl : lv_has ls 6 [(5, .int x13), (4, .int i), (3, .int n), (0, .ref h0), (1, .long v0)] := hl
            refine lv_iadd hx hb d_Mo_write_63 ?_
            refine lv_topi (fun x16 ex16 => ?_)
            have fx16 : x16.toInt = (j2.toInt + n.toInt) := by rw [ex16]; exact (zt_add (show n.toInt = _ from rfl) (show j2.toInt = _ from rfl) (by omega) (by omega)).trans (by omega)
            refine lv_istore_n (lv' := [(3, .int x16), (5, .int x13), (4, .int i), (0, .ref h0), (1, .long v0)]) hx hb d_Mo_write_64 rfl hl (by decide) rfl (fun ls hl => ?_)
            refine lv_iinc (v := (i + 1)) (lv' := [(4, .int (i + 1)), (3, .int x16), (5, .int x13), (0, .ref h0), (1, .long v0)]) hx hb d_Mo_write_65 hl (k := 2) rfl (by first | rfl | decide) (by decide) rfl (fun ls hl => ?_)
            obtain ⟨x17, ex17⟩ : ∃ z, z = (i + 1) := ⟨_, rfl⟩
            rw [← ex17] at hl
            have fx17 : x17.toInt = (i.toInt + 1) := by rw [ex17]; exact (zt_add (show i.toInt = _ from rfl) tI_1 (by omega) (by omega)).trans (by omega)
            have hl : lv_has ls 6 [(4, .int x17), (3, .int x16), (5, .int x13), (0, .ref h0), (1, .long v0)] := hl
            refine lv_goto (tgt := 10) hx hb d_Mo_write_68 (by decide) ?_
            exact ih (k - 1) (x16, x17) _ _ _ (by omega) ⟨(show 0 ≤ x17.toInt ∧ x17.toInt ≤ 8 ∧ 8 ≤ x17.toInt + (((k - 1) : Nat) : Int) ∧ 0 ≤ x16.toInt ∧ x16.toInt ≤ x17.toInt ∧ x16.toInt = cntB (byM v0) x17.toInt.toNat ∧ okTo (byM v0) x17.toInt.toNat by have := tI_0; first | exact ⟨by omega, by omega, by omega, by omega, by omega, cn_up hf1.2.2.2.2.2.1 (by omega) hby (by omega), ok_s hf1.2.2.2.2.2.2 (by omega) hby (by unfold okZ; omega)⟩ | exact ⟨by omega, by omega, by omega, by omega, by omega, cn_0 (by omega) (by omega), ok_0 (by omega)⟩), hP, hD, hS, lv_sub hl [0, 1, 3, 4] rfl⟩
          · refine lv_iload hx hb d_Mo_write_53 (lv_at hl 0 rfl) ?_
            refine lv_if_ne (tgt := 62) hx hb d_Mo_write_55 (by decide) (fun c55_2 => ?_) (fun c55_2 => ?_)
            · have fc55_2 : ¬ x13.toInt = 0 := zt_ne (show x13.toInt = _ from rfl) tI_0 c55_2
              refine lv_iconst (v := 1) hx hb d_Mo_write_62 (by decide) ?_
              exact key2 (1 : Int32) _ _ _ ⟨(show (x13.toInt = 0 → (1 : Int32).toInt = 0) ∧ (¬ x13.toInt = 0 → (1 : Int32).toInt = 1) by have := tI_1; have := tI_0; omega), hP, hD, hS, lv_sub hl [0, 1, 2, 3, 4] rfl⟩
            · have fc55_2 : x13.toInt = 0 := zt_eq (show x13.toInt = _ from rfl) tI_0 c55_2
              refine lv_iconst (v := 0) hx hb d_Mo_write_58 (by decide) ?_
              refine lv_goto (tgt := 63) hx hb d_Mo_write_59 (by decide) ?_
              exact key2 (0 : Int32) _ _ _ ⟨(show (x13.toInt = 0 → (0 : Int32).toInt = 0) ∧ (¬ x13.toInt = 0 → (0 : Int32).toInt = 1) by have := tI_0; have := tI_0; omega), hP, hD, hS, lv_sub hl [0, 1, 2, 3, 4] rfl⟩
        · have fc47_1 : 126 < x13.toInt := Int.not_le.mp (zt_nle (show x13.toInt = _ from rfl) tI_126 c47_1)
          refine lv_iconst (v := 0) hx hb d_Mo_write_50 (by decide) ?_
          exact j_zret F hr (by decide +kernel) hlocks hK hS (((0, (a_kinds S), (a_codes S), (a_reals S), (f_size S), (f_taken S), (a_words S), (a_many S)), S.2.1, S.2.2.1, S.2.2.2.1, S.2.2.2.2.1, S.2.2.2.2.2) : MS) ⟨⟨i_size, i_taken, i_vals, i_room, i_dicts, i_deep, i_open, i_cells, i_points, i_part, i_length, i_knows, i_page, i_text, i_pats, i_fuel, i_fr, i_ink⟩, (kF_r S), (show ((0 : Int32).toInt = 1 ∧ wrP (byM v0) (f_length S).toInt ∧ (f_length S).toInt = (f_length S).toInt + cntB (byM v0) 8) ∨ ((0 : Int32).toInt = 0 ∧ ¬ wrP (byM v0) (f_length S).toInt ∧ (f_length S) = (f_length S)) by have := tI_0; exact Or.inr ⟨by omega, wr_1 (n := i.toInt.toNat) (by omega) hby (by unfold okZ; omega), rfl⟩)⟩ hP hD d_Mo_write_51
