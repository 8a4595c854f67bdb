theorem rm_cp {m r : Nat → Int32} {i j : Nat} {x y : Int32} (H : ∀ k, k < 28 → 0 ≤ (m k).toInt ∧ (m k).toInt ≤ (r k).toInt ∧ (r k).toInt ≤ (if k % 7 = 0 then 20 else 10)) (hx : x = m j) (hy : y = r j) (hj : j < 28) (e : i % 7 = j % 7) : ∀ k, k < 28 → 0 ≤ (upd m i x k).toInt ∧ (upd m i x k).toInt ≤ (upd r i y k).toInt ∧ (upd r i y k).toInt ≤ (if k % 7 = 0 then 20 else 10) := by
  intro k hk
  by_cases q : k = i
  · subst q
    rw [upd_s, upd_s, hx, hy, e]
    exact H j hj
  · unfold upd
    rw [if_neg q, if_neg q]
    exact H k hk
theorem d_Mo_copyAll_0 : decode prog_15_method_67_code 0 = .ok (.iconst 0, 1) := by decide +kernel
theorem d_Mo_copyAll_1 : decode prog_15_method_67_code 1 = .ok (.istore_n 3, 1) := by decide +kernel
theorem d_Mo_copyAll_2 : decode prog_15_method_67_code 2 = .ok (.iload_n 3, 1) := by decide +kernel
theorem d_Mo_copyAll_3 : decode prog_15_method_67_code 3 = .ok (.sipush 280, 3) := by decide +kernel
theorem d_Mo_copyAll_6 : decode prog_15_method_67_code 6 = .ok (.if_icmp .ge 57, 3) := by decide +kernel
theorem tI_280 : (280 : Int32).toInt = 280 := by decide +kernel
theorem d_Mo_copyAll_63 : decode prog_15_method_67_code 63 = .ok (.iconst 0, 1) := by decide +kernel
theorem d_Mo_copyAll_64 : decode prog_15_method_67_code 64 = .ok (.istore_n 3, 1) := by decide +kernel
theorem d_Mo_copyAll_65 : decode prog_15_method_67_code 65 = .ok (.iload_n 3, 1) := by decide +kernel
theorem d_Mo_copyAll_66 : decode prog_15_method_67_code 66 = .ok (.bipush 80, 2) := by decide +kernel
theorem d_Mo_copyAll_68 : decode prog_15_method_67_code 68 = .ok (.if_icmp .ge 31, 3) := by decide +kernel
theorem tI_80 : (80 : Int32).toInt = 80 := by decide +kernel
theorem d_Mo_copyAll_99 : decode prog_15_method_67_code 99 = .ok (.iconst 0, 1) := by decide +kernel
theorem d_Mo_copyAll_100 : decode prog_15_method_67_code 100 = .ok (.istore_n 3, 1) := by decide +kernel
theorem d_Mo_copyAll_101 : decode prog_15_method_67_code 101 = .ok (.iload_n 3, 1) := by decide +kernel
theorem d_Mo_copyAll_102 : decode prog_15_method_67_code 102 = .ok (.bipush 7, 2) := by decide +kernel
theorem d_Mo_copyAll_104 : decode prog_15_method_67_code 104 = .ok (.if_icmp .ge 53, 3) := by decide +kernel
theorem d_Mo_copyAll_157 : decode prog_15_method_67_code 157 = .ok (.return_, 1) := by decide +kernel
theorem d_Mo_copyAll_107 : decode prog_15_method_67_code 107 = .ok (.aload_n 0, 1) := by decide +kernel
theorem d_Mo_copyAll_108 : decode prog_15_method_67_code 108 = .ok (.getfield 24, 3) := by decide +kernel
theorem d_Mo_copyAll_111 : decode prog_15_method_67_code 111 = .ok (.bipush 7, 2) := by decide +kernel
theorem d_Mo_copyAll_113 : decode prog_15_method_67_code 113 = .ok (.iload_n 1, 1) := by decide +kernel
theorem d_Mo_copyAll_114 : decode prog_15_method_67_code 114 = .ok (.imul, 1) := by decide +kernel
theorem d_Mo_copyAll_115 : decode prog_15_method_67_code 115 = .ok (.iload_n 3, 1) := by decide +kernel
theorem d_Mo_copyAll_116 : decode prog_15_method_67_code 116 = .ok (.iadd, 1) := by decide +kernel
theorem d_Mo_copyAll_117 : decode prog_15_method_67_code 117 = .ok (.aload_n 0, 1) := by decide +kernel
theorem d_Mo_copyAll_118 : decode prog_15_method_67_code 118 = .ok (.getfield 24, 3) := by decide +kernel
theorem d_Mo_copyAll_121 : decode prog_15_method_67_code 121 = .ok (.bipush 7, 2) := by decide +kernel
theorem d_Mo_copyAll_123 : decode prog_15_method_67_code 123 = .ok (.iload_n 2, 1) := by decide +kernel
theorem d_Mo_copyAll_124 : decode prog_15_method_67_code 124 = .ok (.imul, 1) := by decide +kernel
theorem d_Mo_copyAll_125 : decode prog_15_method_67_code 125 = .ok (.iload_n 3, 1) := by decide +kernel
theorem d_Mo_copyAll_126 : decode prog_15_method_67_code 126 = .ok (.iadd, 1) := by decide +kernel
theorem d_Mo_copyAll_127 : decode prog_15_method_67_code 127 = .ok (.iaload, 1) := by decide +kernel
theorem d_Mo_copyAll_128 : decode prog_15_method_67_code 128 = .ok (.iastore, 1) := by decide +kernel
theorem d_Mo_copyAll_129 : decode prog_15_method_67_code 129 = .ok (.aload_n 0, 1) := by decide +kernel
theorem d_Mo_copyAll_130 : decode prog_15_method_67_code 130 = .ok (.getfield 27, 3) := by decide +kernel
theorem d_Mo_copyAll_133 : decode prog_15_method_67_code 133 = .ok (.bipush 7, 2) := by decide +kernel
theorem d_Mo_copyAll_135 : decode prog_15_method_67_code 135 = .ok (.iload_n 1, 1) := by decide +kernel
theorem d_Mo_copyAll_136 : decode prog_15_method_67_code 136 = .ok (.imul, 1) := by decide +kernel
theorem d_Mo_copyAll_137 : decode prog_15_method_67_code 137 = .ok (.iload_n 3, 1) := by decide +kernel
theorem d_Mo_copyAll_138 : decode prog_15_method_67_code 138 = .ok (.iadd, 1) := by decide +kernel
theorem d_Mo_copyAll_139 : decode prog_15_method_67_code 139 = .ok (.aload_n 0, 1) := by decide +kernel
theorem d_Mo_copyAll_140 : decode prog_15_method_67_code 140 = .ok (.getfield 27, 3) := by decide +kernel
theorem d_Mo_copyAll_143 : decode prog_15_method_67_code 143 = .ok (.bipush 7, 2) := by decide +kernel
theorem d_Mo_copyAll_145 : decode prog_15_method_67_code 145 = .ok (.iload_n 2, 1) := by decide +kernel
theorem d_Mo_copyAll_146 : decode prog_15_method_67_code 146 = .ok (.imul, 1) := by decide +kernel
theorem d_Mo_copyAll_147 : decode prog_15_method_67_code 147 = .ok (.iload_n 3, 1) := by decide +kernel
theorem d_Mo_copyAll_148 : decode prog_15_method_67_code 148 = .ok (.iadd, 1) := by decide +kernel
theorem d_Mo_copyAll_149 : decode prog_15_method_67_code 149 = .ok (.iaload, 1) := by decide +kernel
theorem d_Mo_copyAll_150 : decode prog_15_method_67_code 150 = .ok (.iastore, 1) := by decide +kernel
theorem d_Mo_copyAll_151 : decode prog_15_method_67_code 151 = .ok (.iinc 3 1, 3) := by decide +kernel
theorem d_Mo_copyAll_154 : decode prog_15_method_67_code 154 = .ok (.goto (-53), 3) := by decide +kernel
theorem d_Mo_copyAll_71 : decode prog_15_method_67_code 71 = .ok (.aload_n 0, 1) := by decide +kernel
theorem d_Mo_copyAll_72 : decode prog_15_method_67_code 72 = .ok (.getfield 21, 3) := by decide +kernel
theorem d_Mo_copyAll_75 : decode prog_15_method_67_code 75 = .ok (.bipush 80, 2) := by decide +kernel
theorem d_Mo_copyAll_77 : decode prog_15_method_67_code 77 = .ok (.iload_n 1, 1) := by decide +kernel
theorem d_Mo_copyAll_78 : decode prog_15_method_67_code 78 = .ok (.imul, 1) := by decide +kernel
theorem d_Mo_copyAll_79 : decode prog_15_method_67_code 79 = .ok (.iload_n 3, 1) := by decide +kernel
theorem d_Mo_copyAll_80 : decode prog_15_method_67_code 80 = .ok (.iadd, 1) := by decide +kernel
theorem d_Mo_copyAll_81 : decode prog_15_method_67_code 81 = .ok (.aload_n 0, 1) := by decide +kernel
theorem d_Mo_copyAll_82 : decode prog_15_method_67_code 82 = .ok (.getfield 21, 3) := by decide +kernel
theorem d_Mo_copyAll_85 : decode prog_15_method_67_code 85 = .ok (.bipush 80, 2) := by decide +kernel
theorem d_Mo_copyAll_87 : decode prog_15_method_67_code 87 = .ok (.iload_n 2, 1) := by decide +kernel
theorem d_Mo_copyAll_88 : decode prog_15_method_67_code 88 = .ok (.imul, 1) := by decide +kernel
theorem d_Mo_copyAll_89 : decode prog_15_method_67_code 89 = .ok (.iload_n 3, 1) := by decide +kernel
theorem d_Mo_copyAll_90 : decode prog_15_method_67_code 90 = .ok (.iadd, 1) := by decide +kernel
theorem d_Mo_copyAll_91 : decode prog_15_method_67_code 91 = .ok (.laload, 1) := by decide +kernel
theorem d_Mo_copyAll_92 : decode prog_15_method_67_code 92 = .ok (.lastore, 1) := by decide +kernel
theorem d_Mo_copyAll_93 : decode prog_15_method_67_code 93 = .ok (.iinc 3 1, 3) := by decide +kernel
theorem d_Mo_copyAll_96 : decode prog_15_method_67_code 96 = .ok (.goto (-31), 3) := by decide +kernel
theorem d_Mo_copyAll_9 : decode prog_15_method_67_code 9 = .ok (.aload_n 0, 1) := by decide +kernel
theorem d_Mo_copyAll_30 : decode prog_15_method_67_code 30 = .ok (.iload_n 3, 1) := by decide +kernel
theorem d_Mo_copyAll_31 : decode prog_15_method_67_code 31 = .ok (.iadd, 1) := by decide +kernel
theorem d_Mo_copyAll_52 : decode prog_15_method_67_code 52 = .ok (.iload_n 3, 1) := by decide +kernel
theorem d_Mo_copyAll_53 : decode prog_15_method_67_code 53 = .ok (.iadd, 1) := by decide +kernel
theorem d_Mo_copyAll_54 : decode prog_15_method_67_code 54 = .ok (.invokevirtual 254, 3) := by decide +kernel
theorem d_Mo_copyAll_57 : decode prog_15_method_67_code 57 = .ok (.iinc 3 1, 3) := by decide +kernel
theorem d_Mo_copyAll_60 : decode prog_15_method_67_code 60 = .ok (.goto (-58), 3) := by decide +kernel
theorem d_Mo_copyAll_32 : decode prog_15_method_67_code 32 = .ok (.iload_n 2, 1) := by decide +kernel
theorem d_Mo_copyAll_33 : decode prog_15_method_67_code 33 = .ok (.ifCond .ne 8, 3) := by decide +kernel
theorem d_Mo_copyAll_41 : decode prog_15_method_67_code 41 = .ok (.sipush 330, 3) := by decide +kernel
theorem d_Mo_copyAll_44 : decode prog_15_method_67_code 44 = .ok (.sipush 280, 3) := by decide +kernel
theorem d_Mo_copyAll_47 : decode prog_15_method_67_code 47 = .ok (.iload_n 2, 1) := by decide +kernel
theorem d_Mo_copyAll_48 : decode prog_15_method_67_code 48 = .ok (.iconst 1, 1) := by decide +kernel
theorem d_Mo_copyAll_49 : decode prog_15_method_67_code 49 = .ok (.isub, 1) := by decide +kernel
theorem d_Mo_copyAll_50 : decode prog_15_method_67_code 50 = .ok (.imul, 1) := by decide +kernel
theorem d_Mo_copyAll_51 : decode prog_15_method_67_code 51 = .ok (.iadd, 1) := by decide +kernel
theorem tI_330 : (330 : Int32).toInt = 330 := by decide +kernel
theorem d_Mo_copyAll_36 : decode prog_15_method_67_code 36 = .ok (.bipush 50, 2) := by decide +kernel
theorem d_Mo_copyAll_38 : decode prog_15_method_67_code 38 = .ok (.goto 14, 3) := by decide +kernel
theorem d_Mo_copyAll_10 : decode prog_15_method_67_code 10 = .ok (.iload_n 1, 1) := by decide +kernel
theorem d_Mo_copyAll_11 : decode prog_15_method_67_code 11 = .ok (.ifCond .ne 8, 3) := by decide +kernel
theorem d_Mo_copyAll_19 : decode prog_15_method_67_code 19 = .ok (.sipush 330, 3) := by decide +kernel
theorem d_Mo_copyAll_22 : decode prog_15_method_67_code 22 = .ok (.sipush 280, 3) := by decide +kernel
theorem d_Mo_copyAll_25 : decode prog_15_method_67_code 25 = .ok (.iload_n 1, 1) := by decide +kernel
theorem d_Mo_copyAll_26 : decode prog_15_method_67_code 26 = .ok (.iconst 1, 1) := by decide +kernel
theorem d_Mo_copyAll_27 : decode prog_15_method_67_code 27 = .ok (.isub, 1) := by decide +kernel
theorem d_Mo_copyAll_28 : decode prog_15_method_67_code 28 = .ok (.imul, 1) := by decide +kernel
theorem d_Mo_copyAll_29 : decode prog_15_method_67_code 29 = .ok (.iadd, 1) := by decide +kernel
theorem d_Mo_copyAll_14 : decode prog_15_method_67_code 14 = .ok (.bipush 50, 2) := by decide +kernel
theorem d_Mo_copyAll_16 : decode prog_15_method_67_code 16 = .ok (.goto 14, 3) := by decide +kernel
set_option maxHeartbeats 4000000 in
set_option maxRecDepth 100000 in
theorem m_copyAll (l : Launch) (D : va_G) (T : Nat → ClassId) (h0 : Nat) (ar : Nat → Nat) (S : MS) (p0 : Int32) (p1 : Int32) (sz : Nat) (hI : MI S) (h1 : 0 ≤ p0.toInt ∧ p0.toInt ≤ 3 ∧ 0 ≤ p1.toInt ∧ p1.toInt ≤ 3) : Met l ⟨"PageScribeModel", "copyAll", "(II)V"⟩ (wy ⟨"PageScribeModel", "copyAll", "(II)V"⟩ prog_15_method_67_code 4 none) ({ frames := 1, cells := 0, slots := 0, locals := 70 }) (va_Pc [.ref h0, .int p0, .int p1] (Pw D T (mW T h0 ar S) sz E0)) (va_Qv (fun (u : MS) => MI u ∧ kA S u ∧ kF S u) (fun u t => Bw D T (va_A (mW T h0 ar S) sz) (mW T h0 ar u) t) (va_A (mW T h0 ar S) sz)) 0 0 (va_A (mW T h0 ar S) sz) := by
  refine j_met (y := ⟨"PageScribeModel", "copyAll", "(II)V"⟩) (b := prog_15_method_67_code) (n := 4) (ret := none) (av := [.ref h0, .int p0, .int p1]) (Qc := fun A => va_Qv (fun (u : MS) => MI u ∧ kA S u ∧ kF S u) (fun u t => Bw D T A (mW T h0 ar u) t) A) (by decide +kernel) (Nat.le_of_ble_eq_true rfl) (fun p e s m args below meth c A ls F hr hlocks hnm hK hP hD hS hA hN hE hl => ?_)
  obtain ⟨hx, hb, hml, hown, hts⟩ := id F
  have hl : lv_has ls 4 [(0, .ref h0), (1, .int p0), (2, .int p1)] := hl
  obtain ⟨i_size, i_taken, i_vals, i_room, i_dicts, i_deep, i_open, i_cells, i_points, i_part, i_length, i_knows, i_page, i_text, i_pats, i_fuel, i_fr, i_ink⟩ := id hI
  refine lv_iconst (v := 0) hx hb d_Mo_copyAll_0 (by decide) ?_
  refine lv_istore_n (lv' := [(3, .int 0), (0, .ref h0), (1, .int p0), (2, .int p1)]) hx hb d_Mo_copyAll_1 rfl hl (by decide) rfl (fun ls hl => ?_)
  refine j_loop (α := MS × Int32) (fun k x H locs ls => (0 ≤ x.2.toInt ∧ x.2.toInt ≤ 280 ∧ 280 ≤ x.2.toInt + ((k : Nat) : Int)) ∧ MI x.1 ∧ kA S x.1 ∧ kF S x.1 ∧ va_P D classes (mW T h0 ar x.1) H ∧ va_D A (mW T h0 ar x.1) ∧ va_S A s.heap H locs ∧ lv_has ls 4 [(3, .int x.2), (0, .ref h0), (1, .int p0), (2, .int p1)]) (fun _ _ ls => F0 m 2 ls []) (fun k x H locs ls hI9 ih => ?_) 280 (S, (0 : Int32)) _ _ _ ⟨(show 0 ≤ (0 : Int32).toInt ∧ (0 : Int32).toInt ≤ 280 ∧ 280 ≤ (0 : Int32).toInt + ((280 : Nat) : Int) by have := tI_0; omega), ⟨i_size, i_taken, i_vals, i_room, i_dicts, i_deep, i_open, i_cells, i_points, i_part, i_length, i_knows, i_page, i_text, i_pats, i_fuel, i_fr, i_ink⟩, (show kA S S from (kA_r S)), (show kF S S from (kF_r S)), hP, hD, hS, lv_sub hl [0, 1, 2, 3] rfl⟩
  obtain ⟨S1, i⟩ := x
  obtain ⟨hf1, hIx, klA_S1, klF_S1, hP, hD, hS, hl⟩ := hI9
  obtain ⟨i_size, i_taken, i_vals, i_room, i_dicts, i_deep, i_open, i_cells, i_points, i_part, i_length, i_knows, i_page, i_text, i_pats, i_fuel, i_fr, i_ink⟩ := (show MI S1 from hIx)
  have klA_S1 : kA S S1 := klA_S1
  have klF_S1 : kF S S1 := klF_S1
  have hf1 : 0 ≤ i.toInt ∧ i.toInt ≤ 280 ∧ 280 ≤ i.toInt + ((k : Nat) : Int) := hf1
  have hP : va_P D classes (mW T h0 ar S1) H := hP
  have hD : va_D A (mW T h0 ar S1) := hD
  have hl : lv_has ls 4 [(3, .int i), (0, .ref h0), (1, .int p0), (2, .int p1)] := hl
  refine lv_iload_n hx hb d_Mo_copyAll_2 rfl (lv_at hl 0 rfl) ?_
  refine lv_sipush (v := 280) hx hb d_Mo_copyAll_3 (by decide) ?_
  refine lv_icmp_ge (tgt := 63) hx hb d_Mo_copyAll_6 (by decide) (fun c6_1 => ?_) (fun c6_1 => ?_)
  · have fc6_1 : 280 ≤ i.toInt := zt_le tI_280 (show i.toInt = _ from rfl) c6_1
    refine lv_iconst (v := 0) hx hb d_Mo_copyAll_63 (by decide) ?_
    refine lv_istore_n (lv' := [(3, .int 0), (0, .ref h0), (1, .int p0), (2, .int p1)]) hx hb d_Mo_copyAll_64 rfl hl (by decide) rfl (fun ls hl => ?_)
    refine j_loop (α := MS × Int32) (fun k x H locs ls => (0 ≤ x.2.toInt ∧ x.2.toInt ≤ 80 ∧ 80 ≤ x.2.toInt + ((k : Nat) : Int)) ∧ MI x.1 ∧ kA S x.1 ∧ kF S x.1 ∧ va_P D classes (mW T h0 ar x.1) H ∧ va_D A (mW T h0 ar x.1) ∧ va_S A s.heap H locs ∧ lv_has ls 4 [(3, .int x.2), (0, .ref h0), (1, .int p0), (2, .int p1)]) (fun _ _ ls => F0 m 65 ls []) (fun k2 x H locs ls hI9 ih2 => ?_) 80 (S1, (0 : Int32)) _ _ _ ⟨(show 0 ≤ (0 : Int32).toInt ∧ (0 : Int32).toInt ≤ 80 ∧ 80 ≤ (0 : Int32).toInt + ((80 : Nat) : Int) by have := tI_0; omega), ⟨i_size, i_taken, i_vals, i_room, i_dicts, i_deep, i_open, i_cells, i_points, i_part, i_length, i_knows, i_page, i_text, i_pats, i_fuel, i_fr, i_ink⟩, (show kA S S1 from klA_S1), (show kF S S1 from klF_S1), hP, hD, hS, lv_sub hl [0, 1, 2, 3] rfl⟩
    obtain ⟨S2, i⟩ := x
    obtain ⟨hf2, hIx, klA_S2, klF_S2, hP, hD, hS, hl⟩ := hI9
    obtain ⟨i_size, i_taken, i_vals, i_room, i_dicts, i_deep, i_open, i_cells, i_points, i_part, i_length, i_knows, i_page, i_text, i_pats, i_fuel, i_fr, i_ink⟩ := (show MI S2 from hIx)
    have klA_S2 : kA S S2 := klA_S2
    have klF_S2 : kF S S2 := klF_S2
    have hf2 : 0 ≤ i.toInt ∧ i.toInt ≤ 80 ∧ 80 ≤ i.toInt + ((k2 : Nat) : Int) := hf2
    have hP : va_P D classes (mW T h0 ar S2) H := hP
    have hD : va_D A (mW T h0 ar S2) := hD
    have hl : lv_has ls 4 [(3, .int i), (0, .ref h0), (1, .int p0), (2, .int p1)] := hl
    refine lv_iload_n hx hb d_Mo_copyAll_65 rfl (lv_at hl 0 rfl) ?_
    refine lv_bipush (v := 80) hx hb d_Mo_copyAll_66 (by decide) ?_
    refine lv_icmp_ge (tgt := 99) hx hb d_Mo_copyAll_68 (by decide) (fun c68_1 => ?_) (fun c68_1 => ?_)
    · have fc68_1 : 80 ≤ i.toInt := zt_le tI_80 (show i.toInt = _ from rfl) c68_1
      refine lv_iconst (v := 0) hx hb d_Mo_copyAll_99 (by decide) ?_
      refine lv_istore_n (lv' := [(3, .int 0), (0, .ref h0), (1, .int p0), (2, .int p1)]) hx hb d_Mo_copyAll_100 rfl hl (by decide) rfl (fun ls hl => ?_)
      refine j_loop (α := MS × Int32) (fun k x H locs ls => (0 ≤ x.2.toInt ∧ x.2.toInt ≤ 7 ∧ 7 ≤ x.2.toInt + ((k : Nat) : Int)) ∧ MI x.1 ∧ kA S x.1 ∧ kF S x.1 ∧ va_P D classes (mW T h0 ar x.1) H ∧ va_D A (mW T h0 ar x.1) ∧ va_S A s.heap H locs ∧ lv_has ls 4 [(3, .int x.2), (0, .ref h0), (1, .int p0), (2, .int p1)]) (fun _ _ ls => F0 m 101 ls []) (fun k3 x H locs ls hI9 ih3 => ?_) 7 (S2, (0 : Int32)) _ _ _ ⟨(show 0 ≤ (0 : Int32).toInt ∧ (0 : Int32).toInt ≤ 7 ∧ 7 ≤ (0 : Int32).toInt + ((7 : Nat) : Int) by have := tI_0; omega), ⟨i_size, i_taken, i_vals, i_room, i_dicts, i_deep, i_open, i_cells, i_points, i_part, i_length, i_knows, i_page, i_text, i_pats, i_fuel, i_fr, i_ink⟩, (show kA S S2 from klA_S2), (show kF S S2 from klF_S2), hP, hD, hS, lv_sub hl [0, 1, 2, 3] rfl⟩
      obtain ⟨S3, i⟩ := x
      obtain ⟨hf3, hIx, klA_S3, klF_S3, hP, hD, hS, hl⟩ := hI9
      obtain ⟨i_size, i_taken, i_vals, i_room, i_dicts, i_deep, i_open, i_cells, i_points, i_part, i_length, i_knows, i_page, i_text, i_pats, i_fuel, i_fr, i_ink⟩ := (show MI S3 from hIx)
      have klA_S3 : kA S S3 := klA_S3
      have klF_S3 : kF S S3 := klF_S3
      have hf3 : 0 ≤ i.toInt ∧ i.toInt ≤ 7 ∧ 7 ≤ i.toInt + ((k3 : Nat) : Int) := hf3
      have hP : va_P D classes (mW T h0 ar S3) H := hP
      have hD : va_D A (mW T h0 ar S3) := hD
      have hl : lv_has ls 4 [(3, .int i), (0, .ref h0), (1, .int p0), (2, .int p1)] := hl
      refine lv_iload_n hx hb d_Mo_copyAll_101 rfl (lv_at hl 0 rfl) ?_
      refine lv_bipush (v := 7) hx hb d_Mo_copyAll_102 (by decide) ?_
      refine lv_icmp_ge (tgt := 157) hx hb d_Mo_copyAll_104 (by decide) (fun c104_1 => ?_) (fun c104_1 => ?_)
      · have fc104_1 : 7 ≤ i.toInt := zt_le tI_7 (show i.toInt = _ from rfl) c104_1
        exact j_vret F hr hlocks hK hS S3 ⟨⟨i_size, i_taken, i_vals, i_room, i_dicts, i_deep, i_open, i_cells, i_points, i_part, i_length, i_knows, i_page, i_text, i_pats, i_fuel, i_fr, i_ink⟩, klA_S3, klF_S3⟩ hP hD d_Mo_copyAll_157
      · have fc104_1 : i.toInt < 7 := Int.not_le.mp (zt_nle tI_7 (show i.toInt = _ from rfl) c104_1)
        refine lv_aload_n hx hb d_Mo_copyAll_107 rfl (lv_at hl 1 rfl) ?_
        refine va_get (D := D) (ci := 11) (v := .ref (ar 4)) (C := "PageScribeModel") (T := F_Mo) (N := 45) hx hb hts i_Mo hown hK hP 0 mW_0 cl_11 7 (by decide) (hts _ k_6_167) (fun _ h9 => h9) (mg_many _ _) d_Mo_copyAll_108 ?_
        refine lv_bipush (v := 7) hx hb d_Mo_copyAll_111 (by decide) ?_
        refine lv_iload_n hx hb d_Mo_copyAll_113 rfl (lv_at hl 2 rfl) ?_
        refine lv_imul hx hb d_Mo_copyAll_114 ?_
        refine lv_topi (fun x1 ex1 => ?_)
        have fx1 : x1.toInt = (7 * p0.toInt) := by rw [ex1]; exact (zt_mul tI_7 (show p0.toInt = _ from rfl) rfl (by omega) (by omega)).trans (by omega)
        refine lv_iload_n hx hb d_Mo_copyAll_115 rfl (lv_at hl 0 rfl) ?_
        refine lv_iadd hx hb d_Mo_copyAll_116 ?_
        refine lv_topi (fun x2 ex2 => ?_)
        have fx2 : x2.toInt = (i.toInt + 7 * p0.toInt) := by rw [ex2]; exact (zt_add fx1 (show i.toInt = _ from rfl) (by omega) (by omega)).trans (by omega)
        refine lv_aload_n hx hb d_Mo_copyAll_117 rfl (lv_at hl 1 rfl) ?_
        refine va_get (D := D) (ci := 11) (v := .ref (ar 4)) (C := "PageScribeModel") (T := F_Mo) (N := 45) hx hb hts i_Mo hown hK hP 0 mW_0 cl_11 7 (by decide) (hts _ k_6_167) (fun _ h9 => h9) (mg_many _ _) d_Mo_copyAll_118 ?_
        refine lv_bipush (v := 7) hx hb d_Mo_copyAll_121 (by decide) ?_
        refine lv_iload_n hx hb d_Mo_copyAll_123 rfl (lv_at hl 3 rfl) ?_
        refine lv_imul hx hb d_Mo_copyAll_124 ?_
        refine lv_topi (fun x3 ex3 => ?_)
        have fx3 : x3.toInt = (7 * p1.toInt) := by rw [ex3]; exact (zt_mul tI_7 (show p1.toInt = _ from rfl) rfl (by omega) (by omega)).trans (by omega)
        refine lv_iload_n hx hb d_Mo_copyAll_125 rfl (lv_at hl 0 rfl) ?_
        refine lv_iadd hx hb d_Mo_copyAll_126 ?_
        refine lv_topi (fun x4 ex4 => ?_)
        have fx4 : x4.toInt = (i.toInt + 7 * p1.toInt) := by rw [ex4]; exact (zt_add fx3 (show i.toInt = _ from rfl) (by omega) (by omega)).trans (by omega)
        refine va_iald hx hb hK hP 5 0 (ma_many _ _ _ _) rfl (zt_in fx4 (by omega) (by omega)) d_Mo_copyAll_127 ?_
        refine lv_topi (fun x5 ex5 => ?_)
        have gx5 : x5 = (a_many S3) (i.toInt + 7 * p1.toInt).toNat := ex5.trans (congrArg _ (zt_ix fx4))
        have fx5 : x5.toInt = ((a_many S3) (i.toInt + 7 * p1.toInt).toNat).toInt := by rw [gx5]
        have kx5 := rm_at i_room (k := (i.toInt + 7 * p1.toInt).toNat) (by omega)
        refine va_iast hx hb hK hP hD hS 5 0 (ma_many _ _ _ _) rfl (zt_in fx2 (by omega) (by omega)) d_Mo_copyAll_128 (fun H locs hP hD hS => ?_)
        rw [ms_many] at hP hD
        rw [zt_ix fx2] at hP hD
        have hP : va_P D classes (mW T h0 ar ((((f_thrown S3), (a_kinds S3), (a_codes S3), (a_reals S3), (f_size S3), (f_taken S3), (a_words S3), (upd (a_many S3) ((i.toInt + 7 * p0.toInt).toNat) x5)), S3.2.1, S3.2.2.1, S3.2.2.2.1, S3.2.2.2.2.1, S3.2.2.2.2.2) : MS)) H := hP
        have hD : va_D A (mW T h0 ar ((((f_thrown S3), (a_kinds S3), (a_codes S3), (a_reals S3), (f_size S3), (f_taken S3), (a_words S3), (upd (a_many S3) ((i.toInt + 7 * p0.toInt).toNat) x5)), S3.2.1, S3.2.2.1, S3.2.2.2.1, S3.2.2.2.2.1, S3.2.2.2.2.2) : MS)) := hD
        refine lv_aload_n hx hb d_Mo_copyAll_129 rfl (lv_at hl 1 rfl) ?_
        refine va_get (D := D) (ci := 11) (v := .ref (ar 5)) (C := "PageScribeModel") (T := F_Mo) (N := 45) hx hb hts i_Mo hown hK hP 0 mW_0 cl_11 8 (by decide) (hts _ k_6_168) (fun _ h9 => h9) (mg_room _ _) d_Mo_copyAll_130 ?_
        refine lv_bipush (v := 7) hx hb d_Mo_copyAll_133 (by decide) ?_
        refine lv_iload_n hx hb d_Mo_copyAll_135 rfl (lv_at hl 2 rfl) ?_
        refine lv_imul hx hb d_Mo_copyAll_136 ?_
        refine j_eqi (y := x1) ex1.symm ?_
        refine lv_iload_n hx hb d_Mo_copyAll_137 rfl (lv_at hl 0 rfl) ?_
        refine lv_iadd hx hb d_Mo_copyAll_138 ?_
        refine j_eqi (y := x2) ex2.symm ?_
        refine lv_aload_n hx hb d_Mo_copyAll_139 rfl (lv_at hl 1 rfl) ?_
        refine va_get (D := D) (ci := 11) (v := .ref (ar 5)) (C := "PageScribeModel") (T := F_Mo) (N := 45) hx hb hts i_Mo hown hK hP 0 mW_0 cl_11 8 (by decide) (hts _ k_6_168) (fun _ h9 => h9) (mg_room _ _) d_Mo_copyAll_140 ?_
        refine lv_bipush (v := 7) hx hb d_Mo_copyAll_143 (by decide) ?_
        refine lv_iload_n hx hb d_Mo_copyAll_145 rfl (lv_at hl 3 rfl) ?_
        refine lv_imul hx hb d_Mo_copyAll_146 ?_
        refine j_eqi (y := x3) ex3.symm ?_
        refine lv_iload_n hx hb d_Mo_copyAll_147 rfl (lv_at hl 0 rfl) ?_
        refine lv_iadd hx hb d_Mo_copyAll_148 ?_
        refine j_eqi (y := x4) ex4.symm ?_
        refine va_iald hx hb hK hP 6 0 (ma_room _ _ _ _) rfl (zt_in fx4 (by omega) (by omega)) d_Mo_copyAll_149 ?_
        refine lv_topi (fun x6 ex6 => ?_)
        have gx6 : x6 = (a_room S3) (i.toInt + 7 * p1.toInt).toNat := ex6.trans (congrArg _ (zt_ix fx4))
        have fx6 : x6.toInt = ((a_room S3) (i.toInt + 7 * p1.toInt).toNat).toInt := by rw [gx6]
        refine va_iast hx hb hK hP hD hS 6 0 (ma_room _ _ _ _) rfl (zt_in fx2 (by omega) (by omega)) d_Mo_copyAll_150 (fun H locs hP hD hS => ?_)
        rw [ms_room] at hP hD
        rw [zt_ix fx2] at hP hD
        have hP : va_P D classes (mW T h0 ar ((((f_thrown S3), (a_kinds S3), (a_codes S3), (a_reals S3), (f_size S3), (f_taken S3), (a_words S3), (upd (a_many S3) ((i.toInt + 7 * p0.toInt).toNat) x5)), ((upd (a_room S3) ((i.toInt + 7 * p0.toInt).toNat) x6), (a_dicts S3), (f_deep S3), (f_saves S3), (f_open S3), (a_numbers S3), (a_cells S3), (f_frames S3)), S3.2.2.1, S3.2.2.2.1, S3.2.2.2.2.1, S3.2.2.2.2.2) : MS)) H := hP
        have hD : va_D A (mW T h0 ar ((((f_thrown S3), (a_kinds S3), (a_codes S3), (a_reals S3), (f_size S3), (f_taken S3), (a_words S3), (upd (a_many S3) ((i.toInt + 7 * p0.toInt).toNat) x5)), ((upd (a_room S3) ((i.toInt + 7 * p0.toInt).toNat) x6), (a_dicts S3), (f_deep S3), (f_saves S3), (f_open S3), (a_numbers S3), (a_cells S3), (f_frames S3)), S3.2.2.1, S3.2.2.2.1, S3.2.2.2.2.1, S3.2.2.2.2.2) : MS)) := hD
        refine lv_iinc (v := (i + 1)) (lv' := [(3, .int (i + 1)), (0, .ref h0), (1, .int p0), (2, .int p1)]) hx hb d_Mo_copyAll_151 hl (k := 0) rfl (by first | rfl | decide) (by decide) rfl (fun ls hl => ?_)
        obtain ⟨x7, ex7⟩ : ∃ z, z = (i + 1) := ⟨_, rfl⟩
        rw [← ex7] at hl
        have fx7 : x7.toInt = (i.toInt + 1) := by rw [ex7]; exact (zt_add (show i.toInt = _ from rfl) tI_1 (by omega) (by omega)).trans (by omega)
        have hl : lv_has ls 4 [(3, .int x7), (0, .ref h0), (1, .int p0), (2, .int p1)] := hl
        refine lv_goto (tgt := 101) hx hb d_Mo_copyAll_154 (by decide) ?_
        exact ih3 (k3 - 1) (((((f_thrown S3), (a_kinds S3), (a_codes S3), (a_reals S3), (f_size S3), (f_taken S3), (a_words S3), (upd (a_many S3) ((i.toInt + 7 * p0.toInt).toNat) x5)), ((upd (a_room S3) ((i.toInt + 7 * p0.toInt).toNat) x6), (a_dicts S3), (f_deep S3), (f_saves S3), (f_open S3), (a_numbers S3), (a_cells S3), (f_frames S3)), S3.2.2.1, S3.2.2.2.1, S3.2.2.2.2.1, S3.2.2.2.2.2) : MS), x7) _ _ _ (by omega) ⟨(show 0 ≤ x7.toInt ∧ x7.toInt ≤ 7 ∧ 7 ≤ x7.toInt + (((k3 - 1) : Nat) : Int) by omega), ⟨i_size, i_taken, i_vals, (rm_cp i_room gx5 gx6 (by omega) (by omega)), i_dicts, i_deep, i_open, i_cells, i_points, i_part, i_length, i_knows, i_page, i_text, i_pats, i_fuel, i_fr, i_ink⟩, (show kA S ((((f_thrown S3), (a_kinds S3), (a_codes S3), (a_reals S3), (f_size S3), (f_taken S3), (a_words S3), (upd (a_many S3) ((i.toInt + 7 * p0.toInt).toNat) x5)), ((upd (a_room S3) ((i.toInt + 7 * p0.toInt).toNat) x6), (a_dicts S3), (f_deep S3), (f_saves S3), (f_open S3), (a_numbers S3), (a_cells S3), (f_frames S3)), S3.2.2.1, S3.2.2.2.1, S3.2.2.2.2.1, S3.2.2.2.2.2) : MS) from klA_S3), (show kF S ((((f_thrown S3), (a_kinds S3), (a_codes S3), (a_reals S3), (f_size S3), (f_taken S3), (a_words S3), (upd (a_many S3) ((i.toInt + 7 * p0.toInt).toNat) x5)), ((upd (a_room S3) ((i.toInt + 7 * p0.toInt).toNat) x6), (a_dicts S3), (f_deep S3), (f_saves S3), (f_open S3), (a_numbers S3), (a_cells S3), (f_frames S3)), S3.2.2.1, S3.2.2.2.1, S3.2.2.2.2.1, S3.2.2.2.2.2) : MS) from klF_S3), hP, hD, hS, lv_sub hl [0, 1, 2, 3] rfl⟩
    · have fc68_1 : i.toInt < 80 := Int.not_le.mp (zt_nle tI_80 (show i.toInt = _ from rfl) c68_1)
      refine lv_aload_n hx hb d_Mo_copyAll_71 rfl (lv_at hl 1 rfl) ?_
      refine va_get (D := D) (ci := 11) (v := .ref (ar 3)) (C := "PageScribeModel") (T := F_Mo) (N := 45) hx hb hts i_Mo hown hK hP 0 mW_0 cl_11 6 (by decide) (hts _ k_6_166) (fun _ h9 => h9) (mg_words _ _) d_Mo_copyAll_72 ?_
      refine lv_bipush (v := 80) hx hb d_Mo_copyAll_75 (by decide) ?_
      refine lv_iload_n hx hb d_Mo_copyAll_77 rfl (lv_at hl 2 rfl) ?_
      refine lv_imul hx hb d_Mo_copyAll_78 ?_
      refine lv_topi (fun x8 ex8 => ?_)
      have fx8 : x8.toInt = (80 * p0.toInt) := by rw [ex8]; exact (zt_mul tI_80 (show p0.toInt = _ from rfl) rfl (by omega) (by omega)).trans (by omega)
      refine lv_iload_n hx hb d_Mo_copyAll_79 rfl (lv_at hl 0 rfl) ?_
      refine lv_iadd hx hb d_Mo_copyAll_80 ?_
      refine lv_topi (fun x9 ex9 => ?_)
      have fx9 : x9.toInt = (i.toInt + 80 * p0.toInt) := by rw [ex9]; exact (zt_add fx8 (show i.toInt = _ from rfl) (by omega) (by omega)).trans (by omega)
      refine lv_aload_n hx hb d_Mo_copyAll_81 rfl (lv_at hl 1 rfl) ?_
      refine va_get (D := D) (ci := 11) (v := .ref (ar 3)) (C := "PageScribeModel") (T := F_Mo) (N := 45) hx hb hts i_Mo hown hK hP 0 mW_0 cl_11 6 (by decide) (hts _ k_6_166) (fun _ h9 => h9) (mg_words _ _) d_Mo_copyAll_82 ?_
      refine lv_bipush (v := 80) hx hb d_Mo_copyAll_85 (by decide) ?_
      refine lv_iload_n hx hb d_Mo_copyAll_87 rfl (lv_at hl 3 rfl) ?_
      refine lv_imul hx hb d_Mo_copyAll_88 ?_
      refine lv_topi (fun x10 ex10 => ?_)
      have fx10 : x10.toInt = (80 * p1.toInt) := by rw [ex10]; exact (zt_mul tI_80 (show p1.toInt = _ from rfl) rfl (by omega) (by omega)).trans (by omega)
      refine lv_iload_n hx hb d_Mo_copyAll_89 rfl (lv_at hl 0 rfl) ?_
      refine lv_iadd hx hb d_Mo_copyAll_90 ?_
      refine lv_topi (fun x11 ex11 => ?_)
      have fx11 : x11.toInt = (i.toInt + 80 * p1.toInt) := by rw [ex11]; exact (zt_add fx10 (show i.toInt = _ from rfl) (by omega) (by omega)).trans (by omega)
      refine va_lald hx hb hK hP 4 1 (ma_words _ _ _ _) rfl (zt_in fx11 (by omega) (by omega)) d_Mo_copyAll_91 ?_
      refine lv_topl (fun x12 ex12 => ?_)
      have gx12 : x12 = (a_words S2) (i.toInt + 80 * p1.toInt).toNat := ex12.trans (congrArg _ (zt_ix fx11))
      have fx12 : x12.toInt = ((a_words S2) (i.toInt + 80 * p1.toInt).toNat).toInt := by rw [gx12]
      refine va_last hx hb hK hP hD hS 4 1 (ma_words _ _ _ _) rfl (zt_in fx9 (by omega) (by omega)) d_Mo_copyAll_92 (fun H locs hP hD hS => ?_)
      rw [ms_words] at hP hD
      rw [zt_ix fx9] at hP hD
      have hP : va_P D classes (mW T h0 ar ((((f_thrown S2), (a_kinds S2), (a_codes S2), (a_reals S2), (f_size S2), (f_taken S2), (vp_updL (a_words S2) ((i.toInt + 80 * p0.toInt).toNat) x12), (a_many S2)), S2.2.1, S2.2.2.1, S2.2.2.2.1, S2.2.2.2.2.1, S2.2.2.2.2.2) : MS)) H := hP
      have hD : va_D A (mW T h0 ar ((((f_thrown S2), (a_kinds S2), (a_codes S2), (a_reals S2), (f_size S2), (f_taken S2), (vp_updL (a_words S2) ((i.toInt + 80 * p0.toInt).toNat) x12), (a_many S2)), S2.2.1, S2.2.2.1, S2.2.2.2.1, S2.2.2.2.2.1, S2.2.2.2.2.2) : MS)) := hD
      refine lv_iinc (v := (i + 1)) (lv' := [(3, .int (i + 1)), (0, .ref h0), (1, .int p0), (2, .int p1)]) hx hb d_Mo_copyAll_93 hl (k := 0) rfl (by first | rfl | decide) (by decide) rfl (fun ls hl => ?_)
      obtain ⟨x13, ex13⟩ : ∃ z, z = (i + 1) := ⟨_, rfl⟩
      rw [← ex13] at hl
      have fx13 : x13.toInt = (i.toInt + 1) := by rw [ex13]; exact (zt_add (show i.toInt = _ from rfl) tI_1 (by omega) (by omega)).trans (by omega)
      have hl : lv_has ls 4 [(3, .int x13), (0, .ref h0), (1, .int p0), (2, .int p1)] := hl
      refine lv_goto (tgt := 65) hx hb d_Mo_copyAll_96 (by decide) ?_
      exact ih2 (k2 - 1) (((((f_thrown S2), (a_kinds S2), (a_codes S2), (a_reals S2), (f_size S2), (f_taken S2), (vp_updL (a_words S2) ((i.toInt + 80 * p0.toInt).toNat) x12), (a_many S2)), S2.2.1, S2.2.2.1, S2.2.2.2.1, S2.2.2.2.2.1, S2.2.2.2.2.2) : MS), x13) _ _ _ (by omega) ⟨(show 0 ≤ x13.toInt ∧ x13.toInt ≤ 80 ∧ 80 ≤ x13.toInt + (((k2 - 1) : Nat) : Int) by omega), ⟨i_size, i_taken, i_vals, i_room, i_dicts, i_deep, i_open, i_cells, i_points, i_part, i_length, i_knows, i_page, i_text, i_pats, i_fuel, i_fr, i_ink⟩, (show kA S ((((f_thrown S2), (a_kinds S2), (a_codes S2), (a_reals S2), (f_size S2), (f_taken S2), (vp_updL (a_words S2) ((i.toInt + 80 * p0.toInt).toNat) x12), (a_many S2)), S2.2.1, S2.2.2.1, S2.2.2.2.1, S2.2.2.2.2.1, S2.2.2.2.2.2) : MS) from klA_S2), (show kF S ((((f_thrown S2), (a_kinds S2), (a_codes S2), (a_reals S2), (f_size S2), (f_taken S2), (vp_updL (a_words S2) ((i.toInt + 80 * p0.toInt).toNat) x12), (a_many S2)), S2.2.1, S2.2.2.1, S2.2.2.2.1, S2.2.2.2.2.1, S2.2.2.2.2.2) : MS) from klF_S2), hP, hD, hS, lv_sub hl [0, 1, 2, 3] rfl⟩
  · have fc6_1 : i.toInt < 280 := Int.not_le.mp (zt_nle tI_280 (show i.toInt = _ from rfl) c6_1)
    refine lv_aload_n hx hb d_Mo_copyAll_9 rfl (lv_at hl 1 rfl) ?_
    refine j_joinH (α := Int32) (fun x H locs ls => (0 ≤ x.toInt ∧ x.toInt ≤ 890) ∧ va_P D classes (mW T h0 ar S1) H ∧ va_D A (mW T h0 ar S1) ∧ va_S A s.heap H locs ∧ lv_has ls 4 [(3, .int i), (0, .ref h0), (1, .int p0), (2, .int p1)]) (fun x ls => F0 m 30 ls (.int x :: [.ref h0])) (fun x H locs ls hI9 => ?_) (fun key1 => ?_)
    · obtain ⟨j1, rfl⟩ : ∃ z, z = x := ⟨_, rfl⟩
      obtain ⟨hj1, hP, hD, hS, hl⟩ := hI9
      have hj1 : 0 ≤ j1.toInt ∧ j1.toInt ≤ 890 := hj1
      have hP : va_P D classes (mW T h0 ar S1) H := hP
      have hD : va_D A (mW T h0 ar S1) := hD
      have hl : lv_has ls 4 [(3, .int i), (0, .ref h0), (1, .int p0), (2, .int p1)] := hl
      refine lv_iload_n hx hb d_Mo_copyAll_30 rfl (lv_at hl 0 rfl) ?_
      refine lv_iadd hx hb d_Mo_copyAll_31 ?_
      refine lv_topi (fun x14 ex14 => ?_)
      have fx14 : x14.toInt = (i.toInt + j1.toInt) := by rw [ex14]; exact (zt_add (show j1.toInt = _ from rfl) (show i.toInt = _ from rfl) (by omega) (by omega)).trans (by omega)
      refine j_joinH (α := Int32) (fun x H locs ls => (0 ≤ x.toInt ∧ x.toInt ≤ 890) ∧ va_P D classes (mW T h0 ar S1) H ∧ va_D A (mW T h0 ar S1) ∧ va_S A s.heap H locs ∧ lv_has ls 4 [(3, .int i), (0, .ref h0), (1, .int p0), (2, .int p1)]) (fun x ls => F0 m 52 ls (.int x :: [.int x14, .ref h0])) (fun x H locs ls hI9 => ?_) (fun key2 => ?_)
      · obtain ⟨j2, rfl⟩ : ∃ z, z = x := ⟨_, rfl⟩
        obtain ⟨hj2, hP, hD, hS, hl⟩ := hI9
        have hj2 : 0 ≤ j2.toInt ∧ j2.toInt ≤ 890 := hj2
        have hP : va_P D classes (mW T h0 ar S1) H := hP
        have hD : va_D A (mW T h0 ar S1) := hD
        have hl : lv_has ls 4 [(3, .int i), (0, .ref h0), (1, .int p0), (2, .int p1)] := hl
        refine lv_iload_n hx hb d_Mo_copyAll_52 rfl (lv_at hl 0 rfl) ?_
        refine lv_iadd hx hb d_Mo_copyAll_53 ?_
        refine lv_topi (fun x15 ex15 => ?_)
        have fx15 : x15.toInt = (i.toInt + j2.toInt) := by rw [ex15]; exact (zt_add (show j2.toInt = _ from rfl) (show i.toInt = _ from rfl) (by omega) (by omega)).trans (by omega)
        refine jm_cv (w := (fun u => u)) hK hP hD hS hA (va_runV (As := [.int x14, .int x15]) (rest := []) F (m_move l D T h0 ar S1 x14 x15 H.size (show 0 ≤ x14.toInt ∧ x14.toInt < 1300 by first | omega | (simp only [fx14, fx15]; omega)) (show 0 ≤ x15.toInt ∧ x15.toInt < 1300 by first | omega | (simp only [fx14, fx15]; omega))) (j_cV (k := 2) (C := "PageScribeModel") hts k_7_76 k_1_12 k_7_73 k_7_75 k_0_82 (by decide +kernel) ⟨Nat.le_of_ble_eq_true rfl, Nat.le_of_ble_eq_true rfl⟩) (jm_pre hK hP hD) rfl rfl hl.1 rfl (lv_room (Nat.le_of_ble_eq_true rfl)) d_Mo_copyAll_54 ⟨Nat.le_of_ble_eq_true rfl, Nat.le_of_ble_eq_true rfl⟩) (fun S4 H locs hw1 hP hD hS => ?_)
        try simp only [fx14, fx15] at hw1
        obtain rfl := hw1
        have hP : va_P D classes (mW T h0 ar ((((f_thrown S1), (upd (a_kinds S1) ((i.toInt + j1.toInt).toNat) ((a_kinds S1) ((i.toInt + j2.toInt).toNat))), (vp_updL (a_codes S1) ((i.toInt + j1.toInt).toNat) ((a_codes S1) ((i.toInt + j2.toInt).toNat))), (vf_upd (a_reals S1) ((i.toInt + j1.toInt).toNat) ((a_reals S1) ((i.toInt + j2.toInt).toNat))), (f_size S1), (f_taken S1), (a_words S1), (a_many S1)), S1.2.1, S1.2.2.1, S1.2.2.2.1, S1.2.2.2.2.1, S1.2.2.2.2.2) : MS)) H := hP
        have hD : va_D A (mW T h0 ar ((((f_thrown S1), (upd (a_kinds S1) ((i.toInt + j1.toInt).toNat) ((a_kinds S1) ((i.toInt + j2.toInt).toNat))), (vp_updL (a_codes S1) ((i.toInt + j1.toInt).toNat) ((a_codes S1) ((i.toInt + j2.toInt).toNat))), (vf_upd (a_reals S1) ((i.toInt + j1.toInt).toNat) ((a_reals S1) ((i.toInt + j2.toInt).toNat))), (f_size S1), (f_taken S1), (a_words S1), (a_many S1)), S1.2.1, S1.2.2.1, S1.2.2.2.1, S1.2.2.2.2.1, S1.2.2.2.2.2) : MS)) := hD
        have i_vals : ∀ k, k < 1300 → vOk ((upd (a_kinds S1) ((i.toInt + j1.toInt).toNat) ((a_kinds S1) ((i.toInt + j2.toInt).toNat))) k) ((vp_updL (a_codes S1) ((i.toInt + j1.toInt).toNat) ((a_codes S1) ((i.toInt + j2.toInt).toNat))) k) ((vf_upd (a_reals S1) ((i.toInt + j1.toInt).toNat) ((a_reals S1) ((i.toInt + j2.toInt).toNat))) k) := vOk_upd i_vals (i_vals ((i.toInt + j2.toInt).toNat) (by omega))
        have fa1 : ((upd (a_kinds S1) ((i.toInt + j1.toInt).toNat) ((a_kinds S1) ((i.toInt + j2.toInt).toNat))) ((i.toInt + j1.toInt).toNat)).toInt = ((a_kinds S1) ((i.toInt + j2.toInt).toNat)).toInt := congrArg Int32.toInt upd_s
        have fa2 : ((vp_updL (a_codes S1) ((i.toInt + j1.toInt).toNat) ((a_codes S1) ((i.toInt + j2.toInt).toNat))) ((i.toInt + j1.toInt).toNat)).toInt = ((a_codes S1) ((i.toInt + j2.toInt).toNat)).toInt := congrArg Int64.toInt updL_s
        refine lv_iinc (v := (i + 1)) (lv' := [(3, .int (i + 1)), (0, .ref h0), (1, .int p0), (2, .int p1)]) hx hb d_Mo_copyAll_57 hl (k := 0) rfl (by first | rfl | decide) (by decide) rfl (fun ls hl => ?_)
        obtain ⟨x16, ex16⟩ : ∃ z, z = (i + 1) := ⟨_, rfl⟩
        rw [← ex16] at hl
        have fx16 : x16.toInt = (i.toInt + 1) := by rw [ex16]; exact (zt_add (show i.toInt = _ from rfl) tI_1 (by omega) (by omega)).trans (by omega)
        have hl : lv_has ls 4 [(3, .int x16), (0, .ref h0), (1, .int p0), (2, .int p1)] := hl
        refine lv_goto (tgt := 2) hx hb d_Mo_copyAll_60 (by decide) ?_
        exact ih (k - 1) (((((f_thrown S1), (upd (a_kinds S1) ((i.toInt + j1.toInt).toNat) ((a_kinds S1) ((i.toInt + j2.toInt).toNat))), (vp_updL (a_codes S1) ((i.toInt + j1.toInt).toNat) ((a_codes S1) ((i.toInt + j2.toInt).toNat))), (vf_upd (a_reals S1) ((i.toInt + j1.toInt).toNat) ((a_reals S1) ((i.toInt + j2.toInt).toNat))), (f_size S1), (f_taken S1), (a_words S1), (a_many S1)), S1.2.1, S1.2.2.1, S1.2.2.2.1, S1.2.2.2.2.1, S1.2.2.2.2.2) : MS), x16) _ _ _ (by omega) ⟨(show 0 ≤ x16.toInt ∧ x16.toInt ≤ 280 ∧ 280 ≤ x16.toInt + (((k - 1) : Nat) : Int) by omega), ⟨i_size, i_taken, i_vals, i_room, i_dicts, i_deep, i_open, i_cells, i_points, i_part, i_length, i_knows, i_page, i_text, i_pats, i_fuel, i_fr, i_ink⟩, (show kA S ((((f_thrown S1), (upd (a_kinds S1) ((i.toInt + j1.toInt).toNat) ((a_kinds S1) ((i.toInt + j2.toInt).toNat))), (vp_updL (a_codes S1) ((i.toInt + j1.toInt).toNat) ((a_codes S1) ((i.toInt + j2.toInt).toNat))), (vf_upd (a_reals S1) ((i.toInt + j1.toInt).toNat) ((a_reals S1) ((i.toInt + j2.toInt).toNat))), (f_size S1), (f_taken S1), (a_words S1), (a_many S1)), S1.2.1, S1.2.2.1, S1.2.2.2.1, S1.2.2.2.2.1, S1.2.2.2.2.2) : MS) from klA_S1), (show kF S ((((f_thrown S1), (upd (a_kinds S1) ((i.toInt + j1.toInt).toNat) ((a_kinds S1) ((i.toInt + j2.toInt).toNat))), (vp_updL (a_codes S1) ((i.toInt + j1.toInt).toNat) ((a_codes S1) ((i.toInt + j2.toInt).toNat))), (vf_upd (a_reals S1) ((i.toInt + j1.toInt).toNat) ((a_reals S1) ((i.toInt + j2.toInt).toNat))), (f_size S1), (f_taken S1), (a_words S1), (a_many S1)), S1.2.1, S1.2.2.1, S1.2.2.2.1, S1.2.2.2.2.1, S1.2.2.2.2.2) : MS) from klF_S1), hP, hD, hS, lv_sub hl [0, 1, 2, 3] rfl⟩
      · refine lv_iload_n hx hb d_Mo_copyAll_32 rfl (lv_at hl 3 rfl) ?_
        refine lv_if_ne (tgt := 41) hx hb d_Mo_copyAll_33 (by decide) (fun c33_1 => ?_) (fun c33_1 => ?_)
        · first | have fc33_1 : p1.toInt < 0 := (by have := zt_ne (show p1.toInt = _ from rfl) tI_0 c33_1; omega) | have fc33_1 : 0 < p1.toInt := (by have := zt_ne (show p1.toInt = _ from rfl) tI_0 c33_1; omega) | skip
          refine lv_sipush (v := 330) hx hb d_Mo_copyAll_41 (by decide) ?_
          refine lv_sipush (v := 280) hx hb d_Mo_copyAll_44 (by decide) ?_
          refine lv_iload_n hx hb d_Mo_copyAll_47 rfl (lv_at hl 3 rfl) ?_
          refine lv_iconst (v := 1) hx hb d_Mo_copyAll_48 (by decide) ?_
          refine lv_isub hx hb d_Mo_copyAll_49 ?_
          refine lv_topi (fun x17 ex17 => ?_)
          have fx17 : x17.toInt = (p1.toInt - 1) := by rw [ex17]; exact (zt_sub (show p1.toInt = _ from rfl) tI_1 (by omega) (by omega)).trans (by omega)
          refine lv_imul hx hb d_Mo_copyAll_50 ?_
          refine lv_topi (fun x18 ex18 => ?_)
          have fx18 : x18.toInt = (280 * p1.toInt - 280) := by rw [ex18]; exact (zt_mul tI_280 fx17 rfl (by omega) (by omega)).trans (by omega)
          refine lv_iadd hx hb d_Mo_copyAll_51 ?_
          refine lv_topi (fun x19 ex19 => ?_)
          have fx19 : x19.toInt = (280 * p1.toInt + 50) := by rw [ex19]; exact (zt_add tI_330 fx18 (by omega) (by omega)).trans (by omega)
          exact key2 (x19) _ _ _ ⟨(show 0 ≤ x19.toInt ∧ x19.toInt ≤ 890 by omega), hP, hD, hS, lv_sub hl [0, 1, 2, 3] rfl⟩
        · have fc33_1 : p1.toInt = 0 := zt_eq (show p1.toInt = _ from rfl) tI_0 c33_1
          refine lv_bipush (v := 50) hx hb d_Mo_copyAll_36 (by decide) ?_
          refine lv_goto (tgt := 52) hx hb d_Mo_copyAll_38 (by decide) ?_
          exact key2 (50 : Int32) _ _ _ ⟨(show 0 ≤ (50 : Int32).toInt ∧ (50 : Int32).toInt ≤ 890 by have := tI_50; omega), hP, hD, hS, lv_sub hl [0, 1, 2, 3] rfl⟩
    · refine lv_iload_n hx hb d_Mo_copyAll_10 rfl (lv_at hl 2 rfl) ?_
      refine lv_if_ne (tgt := 19) hx hb d_Mo_copyAll_11 (by decide) (fun c11_1 => ?_) (fun c11_1 => ?_)
      · first | have fc11_1 : p0.toInt < 0 := (by have := zt_ne (show p0.toInt = _ from rfl) tI_0 c11_1; omega) | have fc11_1 : 0 < p0.toInt := (by have := zt_ne (show p0.toInt = _ from rfl) tI_0 c11_1; omega) | skip
        refine lv_sipush (v := 330) hx hb d_Mo_copyAll_19 (by decide) ?_
        refine lv_sipush (v := 280) hx hb d_Mo_copyAll_22 (by decide) ?_
        refine lv_iload_n hx hb d_Mo_copyAll_25 rfl (lv_at hl 2 rfl) ?_
        refine lv_iconst (v := 1) hx hb d_Mo_copyAll_26 (by decide) ?_
        refine lv_isub hx hb d_Mo_copyAll_27 ?_
        refine lv_topi (fun x20 ex20 => ?_)
        have fx20 : x20.toInt = (p0.toInt - 1) := by rw [ex20]; exact (zt_sub (show p0.toInt = _ from rfl) tI_1 (by omega) (by omega)).trans (by omega)
        refine lv_imul hx hb d_Mo_copyAll_28 ?_
        refine lv_topi (fun x21 ex21 => ?_)
        have fx21 : x21.toInt = (280 * p0.toInt - 280) := by rw [ex21]; exact (zt_mul tI_280 fx20 rfl (by omega) (by omega)).trans (by omega)
        refine lv_iadd hx hb d_Mo_copyAll_29 ?_
        refine lv_topi (fun x22 ex22 => ?_)
        have fx22 : x22.toInt = (280 * p0.toInt + 50) := by rw [ex22]; exact (zt_add tI_330 fx21 (by omega) (by omega)).trans (by omega)
        exact key1 (x22) _ _ _ ⟨(show 0 ≤ x22.toInt ∧ x22.toInt ≤ 890 by omega), hP, hD, hS, lv_sub hl [0, 1, 2, 3] rfl⟩
      · have fc11_1 : p0.toInt = 0 := zt_eq (show p0.toInt = _ from rfl) tI_0 c11_1
        refine lv_bipush (v := 50) hx hb d_Mo_copyAll_14 (by decide) ?_
        refine lv_goto (tgt := 30) hx hb d_Mo_copyAll_16 (by decide) ?_
        exact key1 (50 : Int32) _ _ _ ⟨(show 0 ≤ (50 : Int32).toInt ∧ (50 : Int32).toInt ≤ 890 by have := tI_50; omega), hP, hD, hS, lv_sub hl [0, 1, 2, 3] rfl⟩
