/-! ROWS: the bytes as the class takes them -/
def shA : Nat → Int32
  | 0 => 56
  | 1 => 48
  | 2 => 40
  | 3 => 32
  | 4 => 24
  | 5 => 16
  | 6 => 8
  | 7 => 0
  | _ => -8
def byA (x : Int64) (j : Nat) : Int32 := (x.toUInt64 >>> ((shA j).toInt64.toUInt64 &&& Int64.toUInt64 63)).toInt64.toInt32 &&& 255
/-- the byte of a long, shifted down by n (n a multiple of 8, below 64): with the sign or without it -/
theorem by_bv (v : BitVec 64) (n : Nat) (hn : n + 8 ≤ 64) : ((v.sshiftRight n) &&& 255#64).setWidth 32 = (v >>> n).setWidth 32 &&& 255#32 := by
  apply BitVec.eq_of_getLsbD_eq
  intro i hi
  have h255 : ∀ j, (255#64).getLsbD j = decide (j < 8) := by
    intro j
    rcases Nat.lt_or_ge j 64 with q | q
    · revert j
      decide +kernel
    · rw [BitVec.getLsbD_of_ge _ _ q]
      simp; omega
  have h255' : ∀ j, (255#32).getLsbD j = decide (j < 8) := by
    intro j
    rcases Nat.lt_or_ge j 32 with q | q
    · revert j
      decide +kernel
    · rw [BitVec.getLsbD_of_ge _ _ q]
      simp; omega
  rw [BitVec.getLsbD_setWidth, BitVec.getLsbD_and, BitVec.getLsbD_and, BitVec.getLsbD_setWidth, h255, h255', BitVec.getLsbD_sshiftRight, BitVec.getLsbD_ushiftRight]
  by_cases h8 : i < 8
  · have h1 : ¬ 64 ≤ i := by omega
    have h2 : n + i < 64 := by omega
    simp [h8, hi, h1, h2]
  · simp [h8]
theorem byM_bv (x : Int64) (k : Nat) (hk : k < 8) : (byM x k).toBitVec = ((x.toBitVec.sshiftRight (8 * k)) &&& 255#64).signExtend 32 := by
  have hs : (((nI (8 * k)).toInt64 &&& 63).toBitVec.smod 64).toNat = 8 * k := by
    revert k
    decide +kernel
  show (((x >>> ((nI (8 * k)).toInt64 &&& 63)) &&& 255).toBitVec).signExtend 32 = _
  rw [Int64.toBitVec_and, Int64.toBitVec_shiftRight, BitVec.sshiftRight', hs]
  rfl
theorem byA_bv (x : Int64) (j : Nat) (hj : j < 8) : (byA x j).toBitVec = ((x.toBitVec >>> (56 - 8 * j)).signExtend 32) &&& 255#32 := by
  have hs : (((shA j).toInt64.toUInt64 &&& Int64.toUInt64 63).toBitVec % 64).toNat = 56 - 8 * j := by
    revert j
    decide +kernel
  show (((x.toUInt64 >>> ((shA j).toInt64.toUInt64 &&& Int64.toUInt64 63)).toInt64.toInt32) &&& 255).toBitVec = _
  rw [Int32.toBitVec_and]
  show ((x.toUInt64 >>> ((shA j).toInt64.toUInt64 &&& Int64.toUInt64 63)).toBitVec).signExtend 32 &&& 255#32 = _
  rw [UInt64.toBitVec_shiftRight, BitVec.ushiftRight_eq', hs]
  rfl
theorem sx32 (v : BitVec 64) : v.signExtend 32 = v.setWidth 32 := by
  apply BitVec.eq_of_getLsbD_eq
  intro i hi
  rw [BitVec.getLsbD_signExtend, BitVec.getLsbD_setWidth]
  have h : i < 64 := by omega
  simp [h]
theorem by_eq (x : Int64) (k : Nat) (hk : k < 8) : byM x k = byA x (7 - k) := by
  apply Int32.toBitVec_inj.mp
  rw [byM_bv x k hk, byA_bv x (7 - k) (by omega), sx32, sx32, show 56 - 8 * (7 - k) = 8 * k by omega]
  exact by_bv _ _ (by omega)
theorem shA_to : ∀ j : Fin 8, (shA j.val).toInt = 56 - 8 * (j.val : Int) := by decide +kernel
theorem by_isA {v x1 : Int64} {x2 x3 h : Int32} {j : Int} (e1 : x1 = ((v).toUInt64 >>> ((h : Int32).toInt64.toUInt64 &&& Int64.toUInt64 63)).toInt64) (e2 : x2 = (x1).toInt32) (e3 : x3 = x2 &&& 255) (hh : h.toInt = 56 - 8 * j) (h0 : 0 ≤ j) (h8 : j < 8) : x3.toInt = (byA v j.toNat).toInt := by
  have eh : h = shA j.toNat := Int32.toInt_inj.mp (by
    have q := shA_to ⟨j.toNat, by omega⟩
    rw [q, hh]
    show 56 - 8 * j = 56 - 8 * ((j.toNat : Nat) : Int)
    omega)
  rw [e3, e2, e1, eh]
  rfl
theorem cn_rev {f h : Nat → Int32} (q : ∀ k, k < 8 → f k = h (7 - k)) : cntB f 8 = cntB h 8 := by
  have e : ∀ k, k < 8 → (f k).toInt = (h (7 - k)).toInt := fun k hk => by rw [q k hk]
  simp only [cntB]
  rw [e 0 (by omega), e 1 (by omega), e 2 (by omega), e 3 (by omega), e 4 (by omega), e 5 (by omega), e 6 (by omega), e 7 (by omega)]
  simp only [Nat.reduceSub]
  omega
theorem cn_AM (v : Int64) : cntB (byM v) 8 = cntB (byA v) 8 := cn_rev (fun k hk => by_eq v k hk)
theorem wr_AM (v : Int64) (len : Int) : wrP (byM v) len ↔ wrP (byA v) len := by
  unfold wrP
  rw [cn_AM]
  refine and_congr_left (fun _ => ⟨fun h k hk => ?_, fun h k hk => ?_⟩)
  · have q := h (7 - k) (by omega)
    rw [by_eq v (7 - k) (by omega), show 7 - (7 - k) = k by omega] at q
    exact q
  · rw [by_eq v k hk]
    exact h (7 - k) (by omega)
theorem wa_ini {f : Nat → Int32} {h L L2 k : Int} (hi : h = 56) (hL : L2 = L) (h120 : L + cntB f 8 ≤ 120) (hk : k = 8) :
    -8 ≤ h ∧ h ≤ 56 ∧ (56 - h) % 8 = 0 ∧ 8 ≤ (56 - h) / 8 + k ∧ L2 = L + cntB f ((56 - h) / 8).toNat ∧ L + cntB f 8 ≤ 120 := by
  have e : ((56 - h) / 8).toNat = 0 := by omega
  rw [e]
  refine ⟨by omega, by omega, by omega, by omega, ?_, h120⟩
  show L2 = L + 0
  omega
theorem wa_fin {f : Nat → Int32} {h h2 L L1 L2 k k2 b : Int} (hcu : (b = 0 → cntB f ((56 - h) / 8 + 1).toNat = cntB f ((56 - h) / 8).toNat) ∧ (¬ b = 0 → cntB f ((56 - h) / 8 + 1).toNat = cntB f ((56 - h) / 8).toNat + 1))
    (hf : -8 ≤ h ∧ h ≤ 56 ∧ (56 - h) % 8 = 0 ∧ 8 ≤ (56 - h) / 8 + k ∧ L1 = L + cntB f ((56 - h) / 8).toNat ∧ L + cntB f 8 ≤ 120) (hi : 0 ≤ h ∧ h2 = h - 8) (hk : k2 = k - 1) (hL : (b = 0 → L2 = L1) ∧ (¬ b = 0 → L2 = L1 + 1)) :
    -8 ≤ h2 ∧ h2 ≤ 56 ∧ (56 - h2) % 8 = 0 ∧ 8 ≤ (56 - h2) / 8 + k2 ∧ L2 = L + cntB f ((56 - h2) / 8).toNat ∧ L + cntB f 8 ≤ 120 := by
  have e : (56 - h2) / 8 = (56 - h) / 8 + 1 := by omega
  rw [e]
  omega
theorem d_Reader_append_0 : decode prog_7_method_2_code 0 = .ok (.iconst 0, 1) := by decide +kernel
theorem d_Reader_append_1 : decode prog_7_method_2_code 1 = .ok (.istore_n 3, 1) := by decide +kernel
theorem d_Reader_append_2 : decode prog_7_method_2_code 2 = .ok (.bipush 56, 2) := by decide +kernel
theorem d_Reader_append_4 : decode prog_7_method_2_code 4 = .ok (.istore 4, 2) := by decide +kernel
theorem d_Reader_append_6 : decode prog_7_method_2_code 6 = .ok (.iload 4, 2) := by decide +kernel
theorem d_Reader_append_8 : decode prog_7_method_2_code 8 = .ok (.ifCond .lt 54, 3) := by decide +kernel
theorem d_Reader_append_62 : decode prog_7_method_2_code 62 = .ok (.aload_n 0, 1) := by decide +kernel
theorem d_Reader_append_63 : decode prog_7_method_2_code 63 = .ok (.getfield 15, 3) := by decide +kernel
theorem k_1_169 : Cond.fieldLink "PageScribe$Reader" 15 "PageScribe$Reader" "length" "I" ∈ gw := gw_of (tb_1 (List.mem_of_getElem? (i := 169) (by decide +kernel))) (by decide +kernel)
theorem d_Reader_append_66 : decode prog_7_method_2_code 66 = .ok (.iload_n 3, 1) := by decide +kernel
theorem d_Reader_append_67 : decode prog_7_method_2_code 67 = .ok (.iadd, 1) := by decide +kernel
theorem d_Reader_append_68 : decode prog_7_method_2_code 68 = .ok (.bipush 120, 2) := by decide +kernel
theorem d_Reader_append_70 : decode prog_7_method_2_code 70 = .ok (.if_icmp .le 5, 3) := by decide +kernel
theorem d_Reader_append_75 : decode prog_7_method_2_code 75 = .ok (.bipush 56, 2) := by decide +kernel
theorem d_Reader_append_77 : decode prog_7_method_2_code 77 = .ok (.istore 4, 2) := by decide +kernel
theorem d_Reader_append_79 : decode prog_7_method_2_code 79 = .ok (.iload 4, 2) := by decide +kernel
theorem d_Reader_append_81 : decode prog_7_method_2_code 81 = .ok (.ifCond .lt 56, 3) := by decide +kernel
theorem d_Reader_append_137 : decode prog_7_method_2_code 137 = .ok (.iconst 1, 1) := by decide +kernel
theorem d_Reader_append_138 : decode prog_7_method_2_code 138 = .ok (.ireturn, 1) := by decide +kernel
theorem d_Reader_append_84 : decode prog_7_method_2_code 84 = .ok (.lload_n 1, 1) := by decide +kernel
theorem d_Reader_append_85 : decode prog_7_method_2_code 85 = .ok (.iload 4, 2) := by decide +kernel
theorem d_Reader_append_87 : decode prog_7_method_2_code 87 = .ok (.lushr, 1) := by decide +kernel
theorem d_Reader_append_88 : decode prog_7_method_2_code 88 = .ok (.l2i, 1) := by decide +kernel
theorem d_Reader_append_89 : decode prog_7_method_2_code 89 = .ok (.sipush 255, 3) := by decide +kernel
theorem d_Reader_append_92 : decode prog_7_method_2_code 92 = .ok (.iand, 1) := by decide +kernel
theorem d_Reader_append_93 : decode prog_7_method_2_code 93 = .ok (.istore 5, 2) := by decide +kernel
theorem d_Reader_append_95 : decode prog_7_method_2_code 95 = .ok (.iload 5, 2) := by decide +kernel
theorem d_Reader_append_97 : decode prog_7_method_2_code 97 = .ok (.ifCond .eq 34, 3) := by decide +kernel
theorem d_Reader_append_131 : decode prog_7_method_2_code 131 = .ok (.iinc 4 (-8), 3) := by decide +kernel
theorem tI_m8 : (-8 : Int32).toInt = -8 := by decide +kernel
theorem d_Reader_append_134 : decode prog_7_method_2_code 134 = .ok (.goto (-55), 3) := by decide +kernel
theorem d_Reader_append_100 : decode prog_7_method_2_code 100 = .ok (.aload_n 0, 1) := by decide +kernel
theorem d_Reader_append_101 : decode prog_7_method_2_code 101 = .ok (.getfield 15, 3) := by decide +kernel
theorem d_Reader_append_104 : decode prog_7_method_2_code 104 = .ok (.bipush 120, 2) := by decide +kernel
theorem d_Reader_append_106 : decode prog_7_method_2_code 106 = .ok (.if_icmp .ge 25, 3) := by decide +kernel
theorem d_Reader_append_109 : decode prog_7_method_2_code 109 = .ok (.aload_n 0, 1) := by decide +kernel
theorem d_Reader_append_110 : decode prog_7_method_2_code 110 = .ok (.getfield 9, 3) := by decide +kernel
theorem k_1_168 : Cond.fieldLink "PageScribe$Reader" 9 "PageScribe$Reader" "text" "[C" ∈ gw := gw_of (tb_1 (List.mem_of_getElem? (i := 168) (by decide +kernel))) (by decide +kernel)
theorem d_Reader_append_113 : decode prog_7_method_2_code 113 = .ok (.aload_n 0, 1) := by decide +kernel
theorem d_Reader_append_114 : decode prog_7_method_2_code 114 = .ok (.getfield 15, 3) := by decide +kernel
theorem d_Reader_append_117 : decode prog_7_method_2_code 117 = .ok (.iload 5, 2) := by decide +kernel
theorem d_Reader_append_119 : decode prog_7_method_2_code 119 = .ok (.i2c, 1) := by decide +kernel
theorem d_Reader_append_120 : decode prog_7_method_2_code 120 = .ok (.castore, 1) := by decide +kernel
theorem d_Reader_append_121 : decode prog_7_method_2_code 121 = .ok (.aload_n 0, 1) := by decide +kernel
theorem d_Reader_append_122 : decode prog_7_method_2_code 122 = .ok (.dup, 1) := by decide +kernel
theorem d_Reader_append_123 : decode prog_7_method_2_code 123 = .ok (.getfield 15, 3) := by decide +kernel
theorem d_Reader_append_126 : decode prog_7_method_2_code 126 = .ok (.iconst 1, 1) := by decide +kernel
theorem d_Reader_append_127 : decode prog_7_method_2_code 127 = .ok (.iadd, 1) := by decide +kernel
theorem d_Reader_append_128 : decode prog_7_method_2_code 128 = .ok (.putfield 15, 3) := by decide +kernel
theorem d_Reader_append_73 : decode prog_7_method_2_code 73 = .ok (.iconst 0, 1) := by decide +kernel
theorem d_Reader_append_74 : decode prog_7_method_2_code 74 = .ok (.ireturn, 1) := by decide +kernel
theorem d_Reader_append_11 : decode prog_7_method_2_code 11 = .ok (.lload_n 1, 1) := by decide +kernel
theorem d_Reader_append_12 : decode prog_7_method_2_code 12 = .ok (.iload 4, 2) := by decide +kernel
theorem d_Reader_append_14 : decode prog_7_method_2_code 14 = .ok (.lushr, 1) := by decide +kernel
theorem d_Reader_append_15 : decode prog_7_method_2_code 15 = .ok (.l2i, 1) := by decide +kernel
theorem d_Reader_append_16 : decode prog_7_method_2_code 16 = .ok (.sipush 255, 3) := by decide +kernel
theorem d_Reader_append_19 : decode prog_7_method_2_code 19 = .ok (.iand, 1) := by decide +kernel
theorem d_Reader_append_20 : decode prog_7_method_2_code 20 = .ok (.istore 5, 2) := by decide +kernel
theorem d_Reader_append_22 : decode prog_7_method_2_code 22 = .ok (.iload 5, 2) := by decide +kernel
theorem d_Reader_append_24 : decode prog_7_method_2_code 24 = .ok (.ifCond .eq 19, 3) := by decide +kernel
theorem d_Reader_append_43 : decode prog_7_method_2_code 43 = .ok (.iload_n 3, 1) := by decide +kernel
theorem d_Reader_append_54 : decode prog_7_method_2_code 54 = .ok (.iadd, 1) := by decide +kernel
theorem d_Reader_append_55 : decode prog_7_method_2_code 55 = .ok (.istore_n 3, 1) := by decide +kernel
theorem d_Reader_append_56 : decode prog_7_method_2_code 56 = .ok (.iinc 4 (-8), 3) := by decide +kernel
theorem d_Reader_append_59 : decode prog_7_method_2_code 59 = .ok (.goto (-53), 3) := by decide +kernel
theorem d_Reader_append_44 : decode prog_7_method_2_code 44 = .ok (.iload 5, 2) := by decide +kernel
theorem d_Reader_append_46 : decode prog_7_method_2_code 46 = .ok (.ifCond .ne 7, 3) := by decide +kernel
theorem d_Reader_append_53 : decode prog_7_method_2_code 53 = .ok (.iconst 1, 1) := by decide +kernel
theorem d_Reader_append_49 : decode prog_7_method_2_code 49 = .ok (.iconst 0, 1) := by decide +kernel
theorem d_Reader_append_50 : decode prog_7_method_2_code 50 = .ok (.goto 4, 3) := by decide +kernel
theorem d_Reader_append_27 : decode prog_7_method_2_code 27 = .ok (.iload 5, 2) := by decide +kernel
theorem d_Reader_append_29 : decode prog_7_method_2_code 29 = .ok (.bipush 32, 2) := by decide +kernel
theorem d_Reader_append_31 : decode prog_7_method_2_code 31 = .ok (.if_icmp .lt 10, 3) := by decide +kernel
theorem d_Reader_append_41 : decode prog_7_method_2_code 41 = .ok (.iconst 0, 1) := by decide +kernel
theorem d_Reader_append_42 : decode prog_7_method_2_code 42 = .ok (.ireturn, 1) := by decide +kernel
theorem d_Reader_append_34 : decode prog_7_method_2_code 34 = .ok (.iload 5, 2) := by decide +kernel
theorem d_Reader_append_36 : decode prog_7_method_2_code 36 = .ok (.bipush 126, 2) := by decide +kernel
theorem d_Reader_append_38 : decode prog_7_method_2_code 38 = .ok (.if_icmp .le 5, 3) := by decide +kernel
set_option maxHeartbeats 4000000 in
set_option maxRecDepth 100000 in
theorem c_Reader_append (l : Launch) (D : va_G) (T : Nat → ClassId) (ad : Nat → Nat) (S : CS) (v0 : Int64) (sz : Nat)  (hI : CIv S) : Met l ⟨"PageScribe$Reader", "append", "(J)Z"⟩ (wy ⟨"PageScribe$Reader", "append", "(J)Z"⟩ prog_7_method_2_code 6 (some .boolean)) ({ frames := 0, cells := 0, slots := 0, locals := 0 }) (va_Pc [.ref (ad 60), .long v0] (Pw D T (cW T ad S) sz E0)) (va_Qi (fun (r : Int32) (u : CS) => CIv u ∧ kcU S u ∧ kcW S u ∧ ((r.toInt = 1 ∧ wrP (byA v0) (f_xr_length S).toInt ∧ (f_xr_length u).toInt = (f_xr_length S).toInt + cntB (byA v0) 8) ∨ (r.toInt = 0 ∧ ¬ wrP (byA v0) (f_xr_length S).toInt ∧ (f_xr_length u) = (f_xr_length S)))) (fun u t => Bw D T (va_A (cW T ad S) sz) (cW T ad u) t) (va_A (cW T ad S) sz)) 0 0 (va_A (cW T ad S) sz) := by
  refine j_met (y := ⟨"PageScribe$Reader", "append", "(J)Z"⟩) (b := prog_7_method_2_code) (n := 6) (ret := (some .boolean)) (av := [.ref (ad 60), .long v0]) (Qc := fun A => va_Qi (fun (r : Int32) (u : CS) => CIv u ∧ kcU S u ∧ kcW S u ∧ ((r.toInt = 1 ∧ wrP (byA v0) (f_xr_length S).toInt ∧ (f_xr_length u).toInt = (f_xr_length S).toInt + cntB (byA v0) 8) ∨ (r.toInt = 0 ∧ ¬ wrP (byA v0) (f_xr_length S).toInt ∧ (f_xr_length u) = (f_xr_length S)))) (fun u t => Bw D T A (cW T ad u) t) A) (by decide +kernel) (Nat.le_of_ble_eq_true rfl) (fun p e s m args below meth c A ls F hr hlocks hnm hK hP hD hS hA hN hE hl => ?_)
  obtain ⟨hx, hb, hml, hown, hts⟩ := id F
  have hl : lv_has ls 6 [(0, .ref (ad 60)), (1, .long v0)] := hl
  obtain ⟨i_vst, i_vc0, i_vc1, i_vc2, i_vc3, i_vv0, i_vv1, i_vv2, i_vv3, i_vg, i_wct, i_wln, i_sd0, i_sd1, i_sd2, i_sd3, i_rln, i_rtx, i_rpl, i_rtk, i_cnv, i_pts, i_cik, i_und⟩ := id hI
  refine lv_iconst (v := 0) hx hb d_Reader_append_0 (by decide) ?_
  refine lv_istore_n (lv' := [(3, .int 0), (0, .ref (ad 60)), (1, .long v0)]) hx hb d_Reader_append_1 rfl hl (by decide) rfl (fun ls hl => ?_)
  refine lv_bipush (v := 56) hx hb d_Reader_append_2 (by decide) ?_
  refine lv_istore (lv' := [(4, .int 56), (3, .int 0), (0, .ref (ad 60)), (1, .long v0)]) hx hb d_Reader_append_4 hl (by decide) rfl (fun ls hl => ?_)
  refine j_loop (α := Int32 × Int32) (fun k x H locs ls => (-8 ≤ x.2.toInt ∧ x.2.toInt ≤ 56 ∧ (56 - x.2.toInt) % 8 = 0 ∧ 8 ≤ ((56 - x.2.toInt) / 8) + ((k : Nat) : Int) ∧ 0 ≤ x.1.toInt ∧ x.1.toInt ≤ 8 ∧ x.1.toInt = cntB (byA v0) ((56 - x.2.toInt) / 8).toNat ∧ okTo (byA v0) ((56 - x.2.toInt) / 8).toNat ∧ x.1.toInt ≤ ((56 - x.2.toInt) / 8)) ∧ va_P D classes (cW T ad S) H ∧ va_D A (cW T ad S) ∧ va_S A s.heap H locs ∧ lv_has ls 6 [(4, .int x.2), (3, .int x.1), (0, .ref (ad 60)), (1, .long v0)]) (fun _ _ ls => F0 m 6 ls []) (fun k x H locs ls hI9 ih => ?_) 8 ((0 : Int32), (56 : Int32)) _ _ _ ⟨(show -8 ≤ (56 : Int32).toInt ∧ (56 : Int32).toInt ≤ 56 ∧ (56 - (56 : Int32).toInt) % 8 = 0 ∧ 8 ≤ ((56 - (56 : Int32).toInt) / 8) + ((8 : Nat) : Int) ∧ 0 ≤ (0 : Int32).toInt ∧ (0 : Int32).toInt ≤ 8 ∧ (0 : Int32).toInt = cntB (byA v0) ((56 - (56 : Int32).toInt) / 8).toNat ∧ okTo (byA v0) ((56 - (56 : Int32).toInt) / 8).toNat ∧ (0 : Int32).toInt ≤ ((56 - (56 : Int32).toInt) / 8) by have := tI_0; have := tI_56; first | exact ⟨by omega, by omega, by omega, by omega, by omega, by omega, cn_up hf1.2.2.2.2.2.2.1 (by omega) hby (by omega), ok_s hf1.2.2.2.2.2.2.2.1 (by omega) hby (by unfold okZ; omega), by omega⟩ | exact ⟨by omega, by omega, by omega, by omega, by omega, by omega, cn_0 (by omega) (by omega), ok_0 (by omega), by omega⟩), hP, hD, hS, lv_sub hl [0, 1, 2, 3] rfl⟩
  obtain ⟨n, h⟩ := x
  obtain ⟨hf1, hP, hD, hS, hl⟩ := hI9
  have hf1 : -8 ≤ h.toInt ∧ h.toInt ≤ 56 ∧ (56 - h.toInt) % 8 = 0 ∧ 8 ≤ ((56 - h.toInt) / 8) + ((k : Nat) : Int) ∧ 0 ≤ n.toInt ∧ n.toInt ≤ 8 ∧ n.toInt = cntB (byA v0) ((56 - h.toInt) / 8).toNat ∧ okTo (byA v0) ((56 - h.toInt) / 8).toNat ∧ n.toInt ≤ ((56 - h.toInt) / 8) := hf1
  have hP : va_P D classes (cW T ad S) H := hP
  have hD : va_D A (cW T ad S) := hD
  have hl : lv_has ls 6 [(4, .int h), (3, .int n), (0, .ref (ad 60)), (1, .long v0)] := hl
  refine lv_iload hx hb d_Reader_append_6 (lv_at hl 0 rfl) ?_
  refine lv_if_lt (tgt := 62) hx hb d_Reader_append_8 (by decide) (fun c8_1 => ?_) (fun c8_1 => ?_)
  · have fc8_1 : h.toInt < 0 := zt_lt (show h.toInt = _ from rfl) tI_0 c8_1
    refine lv_aload_n hx hb d_Reader_append_62 rfl (lv_at hl 2 rfl) ?_
    refine va_get (D := D) (ci := 5) (v := .int (f_xr_length S)) (C := "PageScribe$Reader") (T := F_Reader) (N := 10) hx hb hts i_Reader hown hK hP 60 (ce_60 _ _ _) cl_5 3 (by decide) (hts _ k_1_169) (fun _ h9 => h9) rfl d_Reader_append_63 ?_
    refine lv_iload_n hx hb d_Reader_append_66 rfl (lv_at hl 1 rfl) ?_
    refine lv_iadd hx hb d_Reader_append_67 ?_
    refine lv_topi (fun x1 ex1 => ?_)
    have fx1 : x1.toInt = ((f_xr_length S).toInt + n.toInt) := by rw [ex1]; exact (zt_add (show (f_xr_length S).toInt = _ from rfl) (show n.toInt = _ from rfl) (by omega) (by omega)).trans (by omega)
    refine lv_bipush (v := 120) hx hb d_Reader_append_68 (by decide) ?_
    refine lv_icmp_le (tgt := 75) hx hb d_Reader_append_70 (by decide) (fun c70_1 => ?_) (fun c70_1 => ?_)
    · have fc70_1 : ((f_xr_length S).toInt + n.toInt) ≤ 120 := zt_le fx1 tI_120 c70_1
      have hok : okTo (byA v0) 8 := by have e := hf1.2.2.2.2.2.2.2.1; rw [show ((56 - h.toInt) / 8).toNat = 8 by omega] at e; exact e
      have hc8 : n.toInt = cntB (byA v0) 8 := by have e := hf1.2.2.2.2.2.2.1; rw [show ((56 - h.toInt) / 8).toNat = 8 by omega] at e; exact e
      refine lv_bipush (v := 56) hx hb d_Reader_append_75 (by decide) ?_
      refine lv_istore (lv' := [(4, .int 56), (3, .int n), (0, .ref (ad 60)), (1, .long v0)]) hx hb d_Reader_append_77 hl (by decide) rfl (fun ls hl => ?_)
      refine j_loop (α := CS × Int32) (fun k x H locs ls => (-8 ≤ x.2.toInt ∧ x.2.toInt ≤ 56 ∧ (56 - x.2.toInt) % 8 = 0 ∧ 8 ≤ ((56 - x.2.toInt) / 8) + ((k : Nat) : Int) ∧ (f_xr_length x.1).toInt = (f_xr_length S).toInt + cntB (byA v0) ((56 - x.2.toInt) / 8).toNat ∧ (f_xr_length S).toInt + cntB (byA v0) 8 ≤ 120) ∧ CIv x.1 ∧ kcU S x.1 ∧ kcW S x.1 ∧ va_P D classes (cW T ad x.1) H ∧ va_D A (cW T ad x.1) ∧ va_S A s.heap H locs ∧ lv_has ls 6 [(4, .int x.2), (0, .ref (ad 60)), (1, .long v0)]) (fun _ _ ls => F0 m 79 ls []) (fun k2 x H locs ls hI9 ih2 => ?_) 8 (S, (56 : Int32)) _ _ _ ⟨(show -8 ≤ (56 : Int32).toInt ∧ (56 : Int32).toInt ≤ 56 ∧ (56 - (56 : Int32).toInt) % 8 = 0 ∧ 8 ≤ ((56 - (56 : Int32).toInt) / 8) + ((8 : Nat) : Int) ∧ (f_xr_length S).toInt = (f_xr_length S).toInt + cntB (byA v0) ((56 - (56 : Int32).toInt) / 8).toNat ∧ (f_xr_length S).toInt + cntB (byA v0) 8 ≤ 120 by have := tI_56; first | exact wa_fin hcu hf2 (by omega) (by omega) (by omega) | exact wa_ini (by omega) (by omega) (by omega) (by omega)), ⟨i_vst, i_vc0, i_vc1, i_vc2, i_vc3, i_vv0, i_vv1, i_vv2, i_vv3, i_vg, i_wct, i_wln, i_sd0, i_sd1, i_sd2, i_sd3, i_rln, i_rtx, i_rpl, i_rtk, i_cnv, i_pts, i_cik, i_und⟩, (show kcU S S from (kcU_r S)), (show kcW S S from (kcW_r S)), hP, hD, hS, lv_sub hl [0, 2, 3] rfl⟩
      obtain ⟨S1, h⟩ := x
      obtain ⟨hf2, hIx, klcU_S1, klcW_S1, hP, hD, hS, hl⟩ := hI9
      obtain ⟨i_vst, i_vc0, i_vc1, i_vc2, i_vc3, i_vv0, i_vv1, i_vv2, i_vv3, i_vg, i_wct, i_wln, i_sd0, i_sd1, i_sd2, i_sd3, i_rln, i_rtx, i_rpl, i_rtk, i_cnv, i_pts, i_cik, i_und⟩ := (show CIv S1 from hIx)
      have klcU_S1 : kcU S S1 := klcU_S1
      have klcW_S1 : kcW S S1 := klcW_S1
      have hf2 : -8 ≤ h.toInt ∧ h.toInt ≤ 56 ∧ (56 - h.toInt) % 8 = 0 ∧ 8 ≤ ((56 - h.toInt) / 8) + ((k2 : Nat) : Int) ∧ (f_xr_length S1).toInt = (f_xr_length S).toInt + cntB (byA v0) ((56 - h.toInt) / 8).toNat ∧ (f_xr_length S).toInt + cntB (byA v0) 8 ≤ 120 := hf2
      have hP : va_P D classes (cW T ad S1) H := hP
      have hD : va_D A (cW T ad S1) := hD
      have hl : lv_has ls 6 [(4, .int h), (0, .ref (ad 60)), (1, .long v0)] := hl
      have hcm := cn_mono (byA v0) (show ((56 - h.toInt) / 8).toNat ≤ 8 by omega)
      refine lv_iload hx hb d_Reader_append_79 (lv_at hl 0 rfl) ?_
      refine lv_if_lt (tgt := 137) hx hb d_Reader_append_81 (by decide) (fun c81_1 => ?_) (fun c81_1 => ?_)
      · have fc81_1 : h.toInt < 0 := zt_lt (show h.toInt = _ from rfl) tI_0 c81_1
        refine lv_iconst (v := 1) hx hb d_Reader_append_137 (by decide) ?_
        exact j_zret F hr (by decide +kernel) hlocks hK hS S1 ⟨⟨i_vst, i_vc0, i_vc1, i_vc2, i_vc3, i_vv0, i_vv1, i_vv2, i_vv3, i_vg, i_wct, i_wln, i_sd0, i_sd1, i_sd2, i_sd3, i_rln, i_rtx, i_rpl, i_rtk, i_cnv, i_pts, i_cik, i_und⟩, klcU_S1, klcW_S1, (show ((1 : Int32).toInt = 1 ∧ wrP (byA v0) (f_xr_length S).toInt ∧ (f_xr_length S1).toInt = (f_xr_length S).toInt + cntB (byA v0) 8) ∨ ((1 : Int32).toInt = 0 ∧ ¬ wrP (byA v0) (f_xr_length S).toInt ∧ (f_xr_length S1) = (f_xr_length S)) by have := tI_1; exact Or.inl ⟨by omega, ⟨hok, by omega⟩, by have e := hf2.2.2.2.2.1; rw [show ((56 - h.toInt) / 8).toNat = 8 by omega] at e; exact e⟩)⟩ hP hD d_Reader_append_138
      · have fc81_1 : 0 ≤ h.toInt := Int.not_lt.mp (zt_nlt (show h.toInt = _ from rfl) tI_0 c81_1)
        refine lv_lload_n hx hb d_Reader_append_84 rfl (lv_at hl 2 rfl) ?_
        refine lv_iload hx hb d_Reader_append_85 (lv_at hl 0 rfl) ?_
        refine lv_lushr (v := ((v0).toUInt64 >>> ((h : Int32).toInt64.toUInt64 &&& Int64.toUInt64 63)).toInt64) hx hb d_Reader_append_87 rfl ?_
        refine lv_topl (fun x2 ex2 => ?_)
        refine lv_l2i (v := (x2).toInt32) hx hb d_Reader_append_88 rfl ?_
        refine lv_topi (fun x3 ex3 => ?_)
        have wx3 := zt_rng x3
        refine lv_sipush (v := 255) hx hb d_Reader_append_89 (by decide) ?_
        refine lv_iand hx hb d_Reader_append_92 ?_
        refine lv_topi (fun x4 ex4 => ?_)
        have rx4 := zt_rng x4
        have hby : x4.toInt = (byA v0 ((56 - h.toInt) / 8).toNat).toInt := by_isA ex2 ex3 ex4 (by omega) (by omega) (by omega)
        have hoz : okZ x4.toInt := by rw [hby]; exact hok _ (by omega)
        unfold okZ at hoz
        have hcu : (x4.toInt = 0 → cntB (byA v0) (((56 - h.toInt) / 8) + 1).toNat = cntB (byA v0) ((56 - h.toInt) / 8).toNat) ∧ (¬ x4.toInt = 0 → cntB (byA v0) (((56 - h.toInt) / 8) + 1).toNat = cntB (byA v0) ((56 - h.toInt) / 8).toNat + 1) := cn_two (by omega) hby
        have hcn := cn_mono (byA v0) (show (((56 - h.toInt) / 8) + 1).toNat ≤ 8 by omega)
        refine lv_istore (lv' := [(5, .int x4), (4, .int h), (0, .ref (ad 60)), (1, .long v0)]) hx hb d_Reader_append_93 hl (by decide) rfl (fun ls hl => ?_)
        refine lv_iload hx hb d_Reader_append_95 (lv_at hl 0 rfl) ?_
        refine lv_if_eq (tgt := 131) hx hb d_Reader_append_97 (by decide) (fun c97_1 => ?_) (fun c97_1 => ?_)
        · have fc97_1 : x4.toInt = 0 := zt_eq (show x4.toInt = _ from rfl) tI_0 c97_1
          refine lv_iinc (v := (h + (-8))) (lv' := [(4, .int (h + (-8))), (5, .int x4), (0, .ref (ad 60)), (1, .long v0)]) hx hb d_Reader_append_131 hl (k := 1) rfl (by first | rfl | decide) (by decide) rfl (fun ls hl => ?_)
          obtain ⟨x5, ex5⟩ : ∃ z, z = (h + (-8)) := ⟨_, rfl⟩
          rw [← ex5] at hl
          have fx5 : x5.toInt = (h.toInt - 8) := by rw [ex5]; exact (zt_add (show h.toInt = _ from rfl) tI_m8 (by omega) (by omega)).trans (by omega)
          have hl : lv_has ls 6 [(4, .int x5), (5, .int x4), (0, .ref (ad 60)), (1, .long v0)] := hl
          refine lv_goto (tgt := 79) hx hb d_Reader_append_134 (by decide) ?_
          exact ih2 (k2 - 1) (S1, x5) _ _ _ (by omega) ⟨(show -8 ≤ x5.toInt ∧ x5.toInt ≤ 56 ∧ (56 - x5.toInt) % 8 = 0 ∧ 8 ≤ ((56 - x5.toInt) / 8) + (((k2 - 1) : Nat) : Int) ∧ (f_xr_length S1).toInt = (f_xr_length S).toInt + cntB (byA v0) ((56 - x5.toInt) / 8).toNat ∧ (f_xr_length S).toInt + cntB (byA v0) 8 ≤ 120 by first | exact wa_fin hcu hf2 (by omega) (by omega) (by omega) | exact wa_ini (by omega) (by omega) (by omega) (by omega)), ⟨i_vst, i_vc0, i_vc1, i_vc2, i_vc3, i_vv0, i_vv1, i_vv2, i_vv3, i_vg, i_wct, i_wln, i_sd0, i_sd1, i_sd2, i_sd3, i_rln, i_rtx, i_rpl, i_rtk, i_cnv, i_pts, i_cik, i_und⟩, (show kcU S S1 from klcU_S1), (show kcW S S1 from klcW_S1), hP, hD, hS, lv_sub hl [0, 2, 3] rfl⟩
        · have fc97_1 : ¬ x4.toInt = 0 := zt_ne (show x4.toInt = _ from rfl) tI_0 c97_1
          refine lv_aload_n hx hb d_Reader_append_100 rfl (lv_at hl 2 rfl) ?_
          refine va_get (D := D) (ci := 5) (v := .int (f_xr_length S1)) (C := "PageScribe$Reader") (T := F_Reader) (N := 10) hx hb hts i_Reader hown hK hP 60 (ce_60 _ _ _) cl_5 3 (by decide) (hts _ k_1_169) (fun _ h9 => h9) rfl d_Reader_append_101 ?_
          refine lv_bipush (v := 120) hx hb d_Reader_append_104 (by decide) ?_
          refine lv_icmp_ge (tgt := 131) hx hb d_Reader_append_106 (by decide) (fun c106_1 => ?_) (fun c106_1 => ?_)
          · have fc106_1 : 120 ≤ (f_xr_length S1).toInt := zt_le tI_120 (show (f_xr_length S1).toInt = _ from rfl) c106_1
            exfalso; omega
          · have fc106_1 : (f_xr_length S1).toInt < 120 := Int.not_le.mp (zt_nle tI_120 (show (f_xr_length S1).toInt = _ from rfl) c106_1)
            refine lv_aload_n hx hb d_Reader_append_109 rfl (lv_at hl 2 rfl) ?_
            refine va_get (D := D) (ci := 5) (v := .ref (ad 61)) (C := "PageScribe$Reader") (T := F_Reader) (N := 10) hx hb hts i_Reader hown hK hP 60 (ce_60 _ _ _) cl_5 2 (by decide) (hts _ k_1_168) (fun _ h9 => h9) rfl d_Reader_append_110 ?_
            refine lv_aload_n hx hb d_Reader_append_113 rfl (lv_at hl 2 rfl) ?_
            refine va_get (D := D) (ci := 5) (v := .int (f_xr_length S1)) (C := "PageScribe$Reader") (T := F_Reader) (N := 10) hx hb hts i_Reader hown hK hP 60 (ce_60 _ _ _) cl_5 3 (by decide) (hts _ k_1_169) (fun _ h9 => h9) rfl d_Reader_append_114 ?_
            refine lv_iload hx hb d_Reader_append_117 (lv_at hl 0 rfl) ?_
            refine lv_i2c (v := ((x4).toUInt32 % 65536).toInt32) hx hb d_Reader_append_119 rfl ?_
            refine lv_topi (fun x6 ex6 => ?_)
            have hnc := zt_nc ex6 (by omega)
            refine va_cast hx hb hK hP hD hS 61 2 (ce_61 _ _ _) rfl (zt_in (show (f_xr_length S1).toInt = _ from rfl) (by omega) (by omega)) d_Reader_append_120 (fun H locs hP hD hS => ?_)
            rw [cs_xr_text] at hP hD
            rw [zt_ix (show (f_xr_length S1).toInt = _ from rfl)] at hP hD
            have hP : va_P D classes (cW T ad ((S1.1, S1.2.1, S1.2.2.1, S1.2.2.2.1, S1.2.2.2.2.1, S1.2.2.2.2.2.1, ((upd (a_xr_text S1) ((f_xr_length S1).toInt.toNat) (vp_nar .char x6)), (f_xr_length S1), (f_xr_place S1), (f_xr_tokenKind S1), (f_xr_tokenNumber S1), (f_xr_tokenReal S1), (a_xr_begins S1), (a_xg_k S1), (a_xg_n S1), (a_xg_r S1), (f_xg_z S1)), S1.2.2.2.2.2.2.2.1, S1.2.2.2.2.2.2.2.2) : CS)) H := hP
            have hD : va_D A (cW T ad ((S1.1, S1.2.1, S1.2.2.1, S1.2.2.2.1, S1.2.2.2.2.1, S1.2.2.2.2.2.1, ((upd (a_xr_text S1) ((f_xr_length S1).toInt.toNat) (vp_nar .char x6)), (f_xr_length S1), (f_xr_place S1), (f_xr_tokenKind S1), (f_xr_tokenNumber S1), (f_xr_tokenReal S1), (a_xr_begins S1), (a_xg_k S1), (a_xg_n S1), (a_xg_r S1), (f_xg_z S1)), S1.2.2.2.2.2.2.2.1, S1.2.2.2.2.2.2.2.2) : CS)) := hD
            refine lv_aload_n hx hb d_Reader_append_121 rfl (lv_at hl 2 rfl) ?_
            refine lv_dup hx hb d_Reader_append_122 rfl ?_
            refine va_get (D := D) (ci := 5) (v := .int (f_xr_length S1)) (C := "PageScribe$Reader") (T := F_Reader) (N := 10) hx hb hts i_Reader hown hK hP 60 (ce_60 _ _ _) cl_5 3 (by decide) (hts _ k_1_169) (fun _ h9 => h9) rfl d_Reader_append_123 ?_
            refine lv_iconst (v := 1) hx hb d_Reader_append_126 (by decide) ?_
            refine lv_iadd hx hb d_Reader_append_127 ?_
            refine lv_topi (fun x7 ex7 => ?_)
            have fx7 : x7.toInt = ((f_xr_length S1).toInt + 1) := by rw [ex7]; exact (zt_add (show (f_xr_length S1).toInt = _ from rfl) tI_1 (by omega) (by omega)).trans (by omega)
            refine va_put (D := D) (ci := 5) (v := .int x7) (ty := .int) (C := "PageScribe$Reader") (T := F_Reader) (N := 10) hx hb hts i_Reader t_Reader t_Reader_ok n_Reader hown hK hP hD hS 60 (ce_60 _ _ _) cl_5 3 (by decide) (hts _ k_1_169) (fun _ h9 => h9) rfl (by decide +kernel) rfl rfl (Nat.le_of_ble_eq_true rfl) d_Reader_append_128 (fun H locs hP hD hS => ?_)
            rw [cp_xr_length] at hP hD
            have hP : va_P D classes (cW T ad ((S1.1, S1.2.1, S1.2.2.1, S1.2.2.2.1, S1.2.2.2.2.1, S1.2.2.2.2.2.1, ((upd (a_xr_text S1) ((f_xr_length S1).toInt.toNat) (vp_nar .char x6)), x7, (f_xr_place S1), (f_xr_tokenKind S1), (f_xr_tokenNumber S1), (f_xr_tokenReal S1), (a_xr_begins S1), (a_xg_k S1), (a_xg_n S1), (a_xg_r S1), (f_xg_z S1)), S1.2.2.2.2.2.2.2.1, S1.2.2.2.2.2.2.2.2) : CS)) H := hP
            have hD : va_D A (cW T ad ((S1.1, S1.2.1, S1.2.2.1, S1.2.2.2.1, S1.2.2.2.2.1, S1.2.2.2.2.2.1, ((upd (a_xr_text S1) ((f_xr_length S1).toInt.toNat) (vp_nar .char x6)), x7, (f_xr_place S1), (f_xr_tokenKind S1), (f_xr_tokenNumber S1), (f_xr_tokenReal S1), (a_xr_begins S1), (a_xg_k S1), (a_xg_n S1), (a_xg_r S1), (f_xg_z S1)), S1.2.2.2.2.2.2.2.1, S1.2.2.2.2.2.2.2.2) : CS)) := hD
            refine lv_iinc (v := (h + (-8))) (lv' := [(4, .int (h + (-8))), (5, .int x4), (0, .ref (ad 60)), (1, .long v0)]) hx hb d_Reader_append_131 hl (k := 1) rfl (by first | rfl | decide) (by decide) rfl (fun ls hl => ?_)
            obtain ⟨x8, ex8⟩ : ∃ z, z = (h + (-8)) := ⟨_, rfl⟩
            rw [← ex8] at hl
            have fx8 : x8.toInt = (h.toInt - 8) := by rw [ex8]; exact (zt_add (show h.toInt = _ from rfl) tI_m8 (by omega) (by omega)).trans (by omega)
            have hl : lv_has ls 6 [(4, .int x8), (5, .int x4), (0, .ref (ad 60)), (1, .long v0)] := hl
            refine lv_goto (tgt := 79) hx hb d_Reader_append_134 (by decide) ?_
            exact ih2 (k2 - 1) (((S1.1, S1.2.1, S1.2.2.1, S1.2.2.2.1, S1.2.2.2.2.1, S1.2.2.2.2.2.1, ((upd (a_xr_text S1) ((f_xr_length S1).toInt.toNat) (vp_nar .char x6)), x7, (f_xr_place S1), (f_xr_tokenKind S1), (f_xr_tokenNumber S1), (f_xr_tokenReal S1), (a_xr_begins S1), (a_xg_k S1), (a_xg_n S1), (a_xg_r S1), (f_xg_z S1)), S1.2.2.2.2.2.2.2.1, S1.2.2.2.2.2.2.2.2) : CS), x8) _ _ _ (by omega) ⟨(show -8 ≤ x8.toInt ∧ x8.toInt ≤ 56 ∧ (56 - x8.toInt) % 8 = 0 ∧ 8 ≤ ((56 - x8.toInt) / 8) + (((k2 - 1) : Nat) : Int) ∧ x7.toInt = (f_xr_length S).toInt + cntB (byA v0) ((56 - x8.toInt) / 8).toNat ∧ (f_xr_length S).toInt + cntB (byA v0) 8 ≤ 120 by first | exact wa_fin hcu hf2 (by omega) (by omega) (by omega) | exact wa_ini (by omega) (by omega) (by omega) (by omega)), ⟨i_vst, i_vc0, i_vc1, i_vc2, i_vc3, i_vv0, i_vv1, i_vv2, i_vv3, i_vg, i_wct, i_wln, i_sd0, i_sd1, i_sd2, i_sd3, (show 0 ≤ x7.toInt ∧ x7.toInt ≤ 120 by omega), (ar_up (lo := 0) (hi := 127) (N := 120) i_rtx (by omega)), i_rpl, i_rtk, i_cnv, i_pts, i_cik, i_und⟩, (show kcU S ((S1.1, S1.2.1, S1.2.2.1, S1.2.2.2.1, S1.2.2.2.2.1, S1.2.2.2.2.2.1, ((upd (a_xr_text S1) ((f_xr_length S1).toInt.toNat) (vp_nar .char x6)), x7, (f_xr_place S1), (f_xr_tokenKind S1), (f_xr_tokenNumber S1), (f_xr_tokenReal S1), (a_xr_begins S1), (a_xg_k S1), (a_xg_n S1), (a_xg_r S1), (f_xg_z S1)), S1.2.2.2.2.2.2.2.1, S1.2.2.2.2.2.2.2.2) : CS) from klcU_S1), (show kcW S ((S1.1, S1.2.1, S1.2.2.1, S1.2.2.2.1, S1.2.2.2.2.1, S1.2.2.2.2.2.1, ((upd (a_xr_text S1) ((f_xr_length S1).toInt.toNat) (vp_nar .char x6)), x7, (f_xr_place S1), (f_xr_tokenKind S1), (f_xr_tokenNumber S1), (f_xr_tokenReal S1), (a_xr_begins S1), (a_xg_k S1), (a_xg_n S1), (a_xg_r S1), (f_xg_z S1)), S1.2.2.2.2.2.2.2.1, S1.2.2.2.2.2.2.2.2) : CS) from klcW_S1), hP, hD, hS, lv_sub hl [0, 2, 3] rfl⟩
    · have fc70_1 : 120 < ((f_xr_length S).toInt + n.toInt) := Int.not_le.mp (zt_nle fx1 tI_120 c70_1)
      refine lv_iconst (v := 0) hx hb d_Reader_append_73 (by decide) ?_
      exact j_zret F hr (by decide +kernel) hlocks hK hS S ⟨⟨i_vst, i_vc0, i_vc1, i_vc2, i_vc3, i_vv0, i_vv1, i_vv2, i_vv3, i_vg, i_wct, i_wln, i_sd0, i_sd1, i_sd2, i_sd3, i_rln, i_rtx, i_rpl, i_rtk, i_cnv, i_pts, i_cik, i_und⟩, (kcU_r S), (kcW_r S), (show ((0 : Int32).toInt = 1 ∧ wrP (byA v0) (f_xr_length S).toInt ∧ (f_xr_length S).toInt = (f_xr_length S).toInt + cntB (byA v0) 8) ∨ ((0 : Int32).toInt = 0 ∧ ¬ wrP (byA v0) (f_xr_length S).toInt ∧ (f_xr_length S) = (f_xr_length S)) by have := tI_0; exact Or.inr ⟨by omega, wr_2 (n := ((56 - h.toInt) / 8).toNat) (by omega) hf1.2.2.2.2.2.2.1 (by omega), rfl⟩)⟩ hP hD d_Reader_append_74
  · have fc8_1 : 0 ≤ h.toInt := Int.not_lt.mp (zt_nlt (show h.toInt = _ from rfl) tI_0 c8_1)
    refine lv_lload_n hx hb d_Reader_append_11 rfl (lv_at hl 3 rfl) ?_
    refine lv_iload hx hb d_Reader_append_12 (lv_at hl 0 rfl) ?_
    refine lv_lushr (v := ((v0).toUInt64 >>> ((h : Int32).toInt64.toUInt64 &&& Int64.toUInt64 63)).toInt64) hx hb d_Reader_append_14 rfl ?_
    refine lv_topl (fun x9 ex9 => ?_)
    refine lv_l2i (v := (x9).toInt32) hx hb d_Reader_append_15 rfl ?_
    refine lv_topi (fun x10 ex10 => ?_)
    have wx10 := zt_rng x10
    refine lv_sipush (v := 255) hx hb d_Reader_append_16 (by decide) ?_
    refine lv_iand hx hb d_Reader_append_19 ?_
    refine lv_topi (fun x11 ex11 => ?_)
    have rx11 := zt_rng x11
    have hby : x11.toInt = (byA v0 ((56 - h.toInt) / 8).toNat).toInt := by_isA ex9 ex10 ex11 (by omega) (by omega) (by omega)
    refine lv_istore (lv' := [(5, .int x11), (4, .int h), (3, .int n), (0, .ref (ad 60)), (1, .long v0)]) hx hb d_Reader_append_20 hl (by decide) rfl (fun ls hl => ?_)
    refine lv_iload hx hb d_Reader_append_22 (lv_at hl 0 rfl) ?_
    refine lv_if_eq (tgt := 43) hx hb d_Reader_append_24 (by decide) (fun c24_1 => ?_) (fun c24_1 => ?_)
    · have fc24_1 : x11.toInt = 0 := zt_eq (show x11.toInt = _ from rfl) tI_0 c24_1
      refine lv_iload_n hx hb d_Reader_append_43 rfl (lv_at hl 2 rfl) ?_
      refine j_joinH (α := Int32) (fun x H locs ls => ((x11.toInt = 0 → x.toInt = 0) ∧ (¬ x11.toInt = 0 → x.toInt = 1)) ∧ va_P D classes (cW T ad S) H ∧ va_D A (cW T ad S) ∧ va_S A s.heap H locs ∧ lv_has ls 6 [(5, .int x11), (4, .int h), (3, .int n), (0, .ref (ad 60)), (1, .long v0)]) (fun x ls => F0 m 54 ls (.int x :: [.int n])) (fun x H locs ls hI9 => ?_) (fun key1 => ?_)
      · obtain ⟨j1, rfl⟩ : ∃ z, z = x := ⟨_, rfl⟩
        obtain ⟨hj1, hP, hD, hS, hl⟩ := hI9
        have hj1 : (x11.toInt = 0 → j1.toInt = 0) ∧ (¬ x11.toInt = 0 → j1.toInt = 1) := hj1
        have hP : va_P D classes (cW T ad S) H := hP
        have hD : va_D A (cW T ad S) := hD
        have hl : lv_has ls 6 [(5, .int x11), (4, .int h), (3, .int n), (0, .ref (ad 60)), (1, .long v0)] := hl
        refine lv_iadd hx hb d_Reader_append_54 ?_
        refine lv_topi (fun x12 ex12 => ?_)
        have fx12 : x12.toInt = (j1.toInt + n.toInt) := by rw [ex12]; exact (zt_add (show n.toInt = _ from rfl) (show j1.toInt = _ from rfl) (by omega) (by omega)).trans (by omega)
        refine lv_istore_n (lv' := [(3, .int x12), (5, .int x11), (4, .int h), (0, .ref (ad 60)), (1, .long v0)]) hx hb d_Reader_append_55 rfl hl (by decide) rfl (fun ls hl => ?_)
        refine lv_iinc (v := (h + (-8))) (lv' := [(4, .int (h + (-8))), (3, .int x12), (5, .int x11), (0, .ref (ad 60)), (1, .long v0)]) hx hb d_Reader_append_56 hl (k := 2) rfl (by first | rfl | decide) (by decide) rfl (fun ls hl => ?_)
        obtain ⟨x13, ex13⟩ : ∃ z, z = (h + (-8)) := ⟨_, rfl⟩
        rw [← ex13] at hl
        have fx13 : x13.toInt = (h.toInt - 8) := by rw [ex13]; exact (zt_add (show h.toInt = _ from rfl) tI_m8 (by omega) (by omega)).trans (by omega)
        have hl : lv_has ls 6 [(4, .int x13), (3, .int x12), (5, .int x11), (0, .ref (ad 60)), (1, .long v0)] := hl
        refine lv_goto (tgt := 6) hx hb d_Reader_append_59 (by decide) ?_
        exact ih (k - 1) (x12, x13) _ _ _ (by omega) ⟨(show -8 ≤ x13.toInt ∧ x13.toInt ≤ 56 ∧ (56 - x13.toInt) % 8 = 0 ∧ 8 ≤ ((56 - x13.toInt) / 8) + (((k - 1) : Nat) : Int) ∧ 0 ≤ x12.toInt ∧ x12.toInt ≤ 8 ∧ x12.toInt = cntB (byA v0) ((56 - x13.toInt) / 8).toNat ∧ okTo (byA v0) ((56 - x13.toInt) / 8).toNat ∧ x12.toInt ≤ ((56 - x13.toInt) / 8) by first | exact ⟨by omega, by omega, by omega, by omega, by omega, by omega, cn_up hf1.2.2.2.2.2.2.1 (by omega) hby (by omega), ok_s hf1.2.2.2.2.2.2.2.1 (by omega) hby (by unfold okZ; omega), by omega⟩ | exact ⟨by omega, by omega, by omega, by omega, by omega, by omega, cn_0 (by omega) (by omega), ok_0 (by omega), by omega⟩), hP, hD, hS, lv_sub hl [0, 1, 3, 4] rfl⟩
      · refine lv_iload hx hb d_Reader_append_44 (lv_at hl 0 rfl) ?_
        refine lv_if_ne (tgt := 53) hx hb d_Reader_append_46 (by decide) (fun c46_1 => ?_) (fun c46_1 => ?_)
        · have fc46_1 : ¬ x11.toInt = 0 := zt_ne (show x11.toInt = _ from rfl) tI_0 c46_1
          refine lv_iconst (v := 1) hx hb d_Reader_append_53 (by decide) ?_
          exact key1 (1 : Int32) _ _ _ ⟨(show (x11.toInt = 0 → (1 : Int32).toInt = 0) ∧ (¬ x11.toInt = 0 → (1 : Int32).toInt = 1) by have := tI_1; omega), hP, hD, hS, lv_sub hl [0, 1, 2, 3, 4] rfl⟩
        · have fc46_1 : x11.toInt = 0 := zt_eq (show x11.toInt = _ from rfl) tI_0 c46_1
          refine lv_iconst (v := 0) hx hb d_Reader_append_49 (by decide) ?_
          refine lv_goto (tgt := 54) hx hb d_Reader_append_50 (by decide) ?_
          exact key1 (0 : Int32) _ _ _ ⟨(show (x11.toInt = 0 → (0 : Int32).toInt = 0) ∧ (¬ x11.toInt = 0 → (0 : Int32).toInt = 1) by have := tI_0; omega), hP, hD, hS, lv_sub hl [0, 1, 2, 3, 4] rfl⟩
    · have fc24_1 : ¬ x11.toInt = 0 := zt_ne (show x11.toInt = _ from rfl) tI_0 c24_1
      refine lv_iload hx hb d_Reader_append_27 (lv_at hl 0 rfl) ?_
      refine lv_bipush (v := 32) hx hb d_Reader_append_29 (by decide) ?_
      refine lv_icmp_lt (tgt := 41) hx hb d_Reader_append_31 (by decide) (fun c31_1 => ?_) (fun c31_1 => ?_)
      · have fc31_1 : x11.toInt < 32 := zt_lt (show x11.toInt = _ from rfl) tI_32 c31_1
        refine lv_iconst (v := 0) hx hb d_Reader_append_41 (by decide) ?_
        exact j_zret F hr (by decide +kernel) hlocks hK hS S ⟨⟨i_vst, i_vc0, i_vc1, i_vc2, i_vc3, i_vv0, i_vv1, i_vv2, i_vv3, i_vg, i_wct, i_wln, i_sd0, i_sd1, i_sd2, i_sd3, i_rln, i_rtx, i_rpl, i_rtk, i_cnv, i_pts, i_cik, i_und⟩, (kcU_r S), (kcW_r S), (show ((0 : Int32).toInt = 1 ∧ wrP (byA v0) (f_xr_length S).toInt ∧ (f_xr_length S).toInt = (f_xr_length S).toInt + cntB (byA v0) 8) ∨ ((0 : Int32).toInt = 0 ∧ ¬ wrP (byA v0) (f_xr_length S).toInt ∧ (f_xr_length S) = (f_xr_length S)) by have := tI_0; exact Or.inr ⟨by omega, wr_1 (n := ((56 - h.toInt) / 8).toNat) (by omega) hby (by unfold okZ; omega), rfl⟩)⟩ hP hD d_Reader_append_42
      · have fc31_1 : 32 ≤ x11.toInt := Int.not_lt.mp (zt_nlt (show x11.toInt = _ from rfl) tI_32 c31_1)
        refine lv_iload hx hb d_Reader_append_34 (lv_at hl 0 rfl) ?_
        refine lv_bipush (v := 126) hx hb d_Reader_append_36 (by decide) ?_
        refine lv_icmp_le (tgt := 43) hx hb d_Reader_append_38 (by decide) (fun c38_1 => ?_) (fun c38_1 => ?_)
        · have fc38_1 : x11.toInt ≤ 126 := zt_le (show x11.toInt = _ from rfl) tI_126 c38_1
          refine lv_iload_n hx hb d_Reader_append_43 rfl (lv_at hl 2 rfl) ?_
          refine j_joinH (α := Int32) (fun x H locs ls => ((x11.toInt = 0 → x.toInt = 0) ∧ (¬ x11.toInt = 0 → x.toInt = 1)) ∧ va_P D classes (cW T ad S) H ∧ va_D A (cW T ad S) ∧ va_S A s.heap H locs ∧ lv_has ls 6 [(5, .int x11), (4, .int h), (3, .int n), (0, .ref (ad 60)), (1, .long v0)]) (fun x ls => F0 m 54 ls (.int x :: [.int n])) (fun x H locs ls hI9 => ?_) (fun key2 => ?_)
          · obtain ⟨j2, rfl⟩ : ∃ z, z = x := ⟨_, rfl⟩
            obtain ⟨hj2, hP, hD, hS, hl⟩ := hI9
            have hj2 : (x11.toInt = 0 → j2.toInt = 0) ∧ (¬ x11.toInt = 0 → j2.toInt = 1) := hj2
            have hP : va_P D classes (cW T ad S) H := hP
            have hD : va_D A (cW T ad S) := hD
            have hl : lv_has ls 6 [(5, .int x11), (4, .int h), (3, .int n), (0, .ref (ad 60)), (1, .long v0)] := hl
            refine lv_iadd hx hb d_Reader_append_54 ?_
            refine lv_topi (fun x14 ex14 => ?_)
            have fx14 : x14.toInt = (j2.toInt + n.toInt) := by rw [ex14]; exact (zt_add (show n.toInt = _ from rfl) (show j2.toInt = _ from rfl) (by omega) (by omega)).trans (by omega)
            refine lv_istore_n (lv' := [(3, .int x14), (5, .int x11), (4, .int h), (0, .ref (ad 60)), (1, .long v0)]) hx hb d_Reader_append_55 rfl hl (by decide) rfl (fun ls hl => ?_)
            refine lv_iinc (v := (h + (-8))) (lv' := [(4, .int (h + (-8))), (3, .int x14), (5, .int x11), (0, .ref (ad 60)), (1, .long v0)]) hx hb d_Reader_append_56 hl (k := 2) rfl (by first | rfl | decide) (by decide) rfl (fun ls hl => ?_)
            obtain ⟨x15, ex15⟩ : ∃ z, z = (h + (-8)) := ⟨_, rfl⟩
            rw [← ex15] at hl
            have fx15 : x15.toInt = (h.toInt - 8) := by rw [ex15]; exact (zt_add (show h.toInt = _ from rfl) tI_m8 (by omega) (by omega)).trans (by omega)
            have hl : lv_has ls 6 [(4, .int x15), (3, .int x14), (5, .int x11), (0, .ref (ad 60)), (1, .long v0)] := hl
            refine lv_goto (tgt := 6) hx hb d_Reader_append_59 (by decide) ?_
            exact ih (k - 1) (x14, x15) _ _ _ (by omega) ⟨(show -8 ≤ x15.toInt ∧ x15.toInt ≤ 56 ∧ (56 - x15.toInt) % 8 = 0 ∧ 8 ≤ ((56 - x15.toInt) / 8) + (((k - 1) : Nat) : Int) ∧ 0 ≤ x14.toInt ∧ x14.toInt ≤ 8 ∧ x14.toInt = cntB (byA v0) ((56 - x15.toInt) / 8).toNat ∧ okTo (byA v0) ((56 - x15.toInt) / 8).toNat ∧ x14.toInt ≤ ((56 - x15.toInt) / 8) by first | exact ⟨by omega, by omega, by omega, by omega, by omega, by omega, cn_up hf1.2.2.2.2.2.2.1 (by omega) hby (by omega), ok_s hf1.2.2.2.2.2.2.2.1 (by omega) hby (by unfold okZ; omega), by omega⟩ | exact ⟨by omega, by omega, by omega, by omega, by omega, by omega, cn_0 (by omega) (by omega), ok_0 (by omega), by omega⟩), hP, hD, hS, lv_sub hl [0, 1, 3, 4] rfl⟩
          · refine lv_iload hx hb d_Reader_append_44 (lv_at hl 0 rfl) ?_
            refine lv_if_ne (tgt := 53) hx hb d_Reader_append_46 (by decide) (fun c46_2 => ?_) (fun c46_2 => ?_)
            · have fc46_2 : ¬ x11.toInt = 0 := zt_ne (show x11.toInt = _ from rfl) tI_0 c46_2
              refine lv_iconst (v := 1) hx hb d_Reader_append_53 (by decide) ?_
              exact key2 (1 : Int32) _ _ _ ⟨(show (x11.toInt = 0 → (1 : Int32).toInt = 0) ∧ (¬ x11.toInt = 0 → (1 : Int32).toInt = 1) by have := tI_1; omega), hP, hD, hS, lv_sub hl [0, 1, 2, 3, 4] rfl⟩
            · have fc46_2 : x11.toInt = 0 := zt_eq (show x11.toInt = _ from rfl) tI_0 c46_2
              refine lv_iconst (v := 0) hx hb d_Reader_append_49 (by decide) ?_
              refine lv_goto (tgt := 54) hx hb d_Reader_append_50 (by decide) ?_
              exact key2 (0 : Int32) _ _ _ ⟨(show (x11.toInt = 0 → (0 : Int32).toInt = 0) ∧ (¬ x11.toInt = 0 → (0 : Int32).toInt = 1) by have := tI_0; omega), hP, hD, hS, lv_sub hl [0, 1, 2, 3, 4] rfl⟩
        · have fc38_1 : 126 < x11.toInt := Int.not_le.mp (zt_nle (show x11.toInt = _ from rfl) tI_126 c38_1)
          refine lv_iconst (v := 0) hx hb d_Reader_append_41 (by decide) ?_
          exact j_zret F hr (by decide +kernel) hlocks hK hS S ⟨⟨i_vst, i_vc0, i_vc1, i_vc2, i_vc3, i_vv0, i_vv1, i_vv2, i_vv3, i_vg, i_wct, i_wln, i_sd0, i_sd1, i_sd2, i_sd3, i_rln, i_rtx, i_rpl, i_rtk, i_cnv, i_pts, i_cik, i_und⟩, (kcU_r S), (kcW_r S), (show ((0 : Int32).toInt = 1 ∧ wrP (byA v0) (f_xr_length S).toInt ∧ (f_xr_length S).toInt = (f_xr_length S).toInt + cntB (byA v0) 8) ∨ ((0 : Int32).toInt = 0 ∧ ¬ wrP (byA v0) (f_xr_length S).toInt ∧ (f_xr_length S) = (f_xr_length S)) by have := tI_0; exact Or.inr ⟨by omega, wr_1 (n := ((56 - h.toInt) / 8).toNat) (by omega) hby (by unfold okZ; omega), rfl⟩)⟩ hP hD d_Reader_append_42
