/-! PURE ROWS: the two ways to a byte; an eighth of an int is no NaN -/
theorem rnd_ne {x : FP.Core.Datum} (h : x ≠ .nan) : FP.Core.round FP.Core.b64 x ≠ .nan := by
  cases x with
  | nan => exact absurd rfl h
  | inf s => simp [FP.Core.round]
  | fin s c q =>
    simp only [FP.Core.round, FP.Core.roundRatio]
    split
    · simp
    · simp only [FP.Core.roundAt, FP.Core.settle, FP.Core.bound]
      repeat' split
      all_goals simp
theorem vf_of {r : UInt64} (h : FP.Core.val64 r ≠ .nan) : vf_n64 r := by
  unfold vf_n64
  rw [UInt64.le_iff_toNat_le, UInt64.toNat_and]
  have hm : (0x7fffffffffffffff : UInt64).toNat = 2 ^ 63 - 1 := by decide +kernel
  have h7 : (0x7ff0000000000000 : UInt64).toNat = 2047 * 4503599627370496 := by decide +kernel
  rw [hm, Nat.and_two_pow_sub_one_eq_mod, h7]
  have hlt : r.toNat < 2 ^ 64 := r.toNat_lt
  rcases Nat.lt_or_ge (2047 * 4503599627370496) (r.toNat % 2 ^ 63) with q | q
  · exfalso
    apply h
    have hE : FP.Core.fieldE FP.Core.b64 r.toNat = FP.Core.b64.exps - 1 := by
      have e1 : FP.Core.b64.exps = 2048 := by decide +kernel
      have e2 : FP.Core.b64.tails = 4503599627370496 := by decide +kernel
      unfold FP.Core.fieldE
      rw [e1, e2]
      omega
    have hT : ¬ FP.Core.fieldT FP.Core.b64 r.toNat = 0 := by
      have e2 : FP.Core.b64.tails = 4503599627370496 := by decide +kernel
      unfold FP.Core.fieldT
      rw [e2]
      omega
    show FP.Core.decode FP.Core.b64 r.toNat = .nan
    unfold FP.Core.decode
    rw [if_pos hE, if_neg hT]
  · exact q
theorem dm_ok (x : Int32) : vf_n64 (FP.dmul (FP.i2d x) 4593671619917905920) := by
  refine vf_of ?_
  have e1 : FP.Core.val64 4593671619917905920 = .fin false 4503599627370496 (-55) := by decide +kernel
  have e2 : FP.Core.val64 (FP.dmul (FP.i2d x) 4593671619917905920) = FP.Core.round FP.Core.b64 (FP.Core.exactProduct (FP.Core.val64 (FP.i2d x)) (FP.Core.val64 4593671619917905920)) := FP.Core.val64_dmul _ _
  rw [e2, e1]
  refine rnd_ne ?_
  have e3 : FP.Core.val64 (FP.i2d x) = FP.Core.round FP.Core.b64 (FP.Core.ofInt x.toInt) := FP.Core.val64_i2d x
  have h3 : FP.Core.val64 (FP.i2d x) ≠ .nan := by
    rw [e3]
    exact rnd_ne (by simp [FP.Core.ofInt])
  cases hv : FP.Core.val64 (FP.i2d x) with
  | nan => exact absurd hv h3
  | inf s => simp [FP.Core.exactProduct]
  | fin s c q => simp [FP.Core.exactProduct]
/-- the byte of a long, shifted down by n (n a multiple of 8, below 64): with the sign or without it -/
theorem by_bv (v : BitVec 64) (n : Nat) (hn : n + 8 ≤ 64) : ((v.sshiftRight n) &&& 255#64).setWidth 32 = (v >>> n).setWidth 32 &&& 255#32 := by
  apply BitVec.eq_of_getLsbD_eq
  intro i hi
  have h255 : ∀ j, (255#64).getLsbD j = decide (j < 8) := by
    intro j
    rcases Nat.lt_or_ge j 64 with q | q
    · revert j
      decide +kernel
    · rw [BitVec.getLsbD_of_ge _ _ q]
      simp; omega
  have h255' : ∀ j, (255#32).getLsbD j = decide (j < 8) := by
    intro j
    rcases Nat.lt_or_ge j 32 with q | q
    · revert j
      decide +kernel
    · rw [BitVec.getLsbD_of_ge _ _ q]
      simp; omega
  rw [BitVec.getLsbD_setWidth, BitVec.getLsbD_and, BitVec.getLsbD_and, BitVec.getLsbD_setWidth, h255, h255', BitVec.getLsbD_sshiftRight, BitVec.getLsbD_ushiftRight]
  by_cases h8 : i < 8
  · have h1 : ¬ 64 ≤ i := by omega
    have h2 : n + i < 64 := by omega
    simp [h8, hi, h1, h2]
  · simp [h8]
theorem byM_bv (x : Int64) (k : Nat) (hk : k < 8) : (byM x k).toBitVec = ((x.toBitVec.sshiftRight (8 * k)) &&& 255#64).signExtend 32 := by
  have hs : (((nI (8 * k)).toInt64 &&& 63).toBitVec.smod 64).toNat = 8 * k := by
    revert k
    decide +kernel
  show (((x >>> ((nI (8 * k)).toInt64 &&& 63)) &&& 255).toBitVec).signExtend 32 = _
  rw [Int64.toBitVec_and, Int64.toBitVec_shiftRight, BitVec.sshiftRight', hs]
  rfl
theorem byA_bv (x : Int64) (j : Nat) (hj : j < 8) : (byA x j).toBitVec = ((x.toBitVec >>> (56 - 8 * j)).signExtend 32) &&& 255#32 := by
  have hs : (((shA j).toInt64.toUInt64 &&& Int64.toUInt64 63).toBitVec % 64).toNat = 56 - 8 * j := by
    revert j
    decide +kernel
  show (((x.toUInt64 >>> ((shA j).toInt64.toUInt64 &&& Int64.toUInt64 63)).toInt64.toInt32) &&& 255).toBitVec = _
  rw [Int32.toBitVec_and]
  show ((x.toUInt64 >>> ((shA j).toInt64.toUInt64 &&& Int64.toUInt64 63)).toBitVec).signExtend 32 &&& 255#32 = _
  rw [UInt64.toBitVec_shiftRight, BitVec.ushiftRight_eq', hs]
  rfl
theorem sx32 (v : BitVec 64) : v.signExtend 32 = v.setWidth 32 := by
  apply BitVec.eq_of_getLsbD_eq
  intro i hi
  rw [BitVec.getLsbD_signExtend, BitVec.getLsbD_setWidth]
  have h : i < 64 := by omega
  simp [h]
theorem by_eq (x : Int64) (k : Nat) (hk : k < 8) : byM x k = byA x (7 - k) := by
  apply Int32.toBitVec_inj.mp
  rw [byM_bv x k hk, byA_bv x (7 - k) (by omega), sx32, sx32, show 56 - 8 * (7 - k) = 8 * k by omega]
  exact by_bv _ _ (by omega)
theorem okM_iff (x : Int64) : okM x ↔ okW x := by
  constructor
  · intro h i hi
    have h1 := h (7 - i) (by omega)
    rw [by_eq x (7 - i) (by omega), show 7 - (7 - i) = i by omega] at h1
    exact h1
  · intro h i hi
    rw [by_eq x i hi]
    exact h (7 - i) (by omega)
