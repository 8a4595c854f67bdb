/-! PURE ROWS: the two ways to a byte; an eighth of an int is no NaN -/
theorem rnd_ne {x : FP.Core.Datum} (h : x ≠ .nan) : FP.Core.round FP.Core.b64 x ≠ .nan := by
  cases x with
  | nan => exact absurd rfl h
  | inf s => simp [FP.Core.round]
  | fin s c q =>
    simp only [FP.Core.round, FP.Core.roundRatio]
    split
    · simp
    · simp only [FP.Core.roundAt, FP.Core.settle, FP.Core.bound]
      repeat' split
      all_goals simp
theorem vf_of {r : UInt64} (h : FP.Core.val64 r ≠ .nan) : vf_n64 r := by
  unfold vf_n64
  rw [UInt64.le_iff_toNat_le, UInt64.toNat_and]
  have hm : (0x7fffffffffffffff : UInt64).toNat = 2 ^ 63 - 1 := by decide +kernel
  have h7 : (0x7ff0000000000000 : UInt64).toNat = 2047 * 4503599627370496 := by decide +kernel
  rw [hm, Nat.and_two_pow_sub_one_eq_mod, h7]
  have hlt : r.toNat < 2 ^ 64 := r.toNat_lt
  rcases Nat.lt_or_ge (2047 * 4503599627370496) (r.toNat % 2 ^ 63) with q | q
  · exfalso
    apply h
    have hE : FP.Core.fieldE FP.Core.b64 r.toNat = FP.Core.b64.exps - 1 := by
      have e1 : FP.Core.b64.exps = 2048 := by decide +kernel
      have e2 : FP.Core.b64.tails = 4503599627370496 := by decide +kernel
      unfold FP.Core.fieldE
      rw [e1, e2]
      omega
    have hT : ¬ FP.Core.fieldT FP.Core.b64 r.toNat = 0 := by
      have e2 : FP.Core.b64.tails = 4503599627370496 := by decide +kernel
      unfold FP.Core.fieldT
      rw [e2]
      omega
    show FP.Core.decode FP.Core.b64 r.toNat = .nan
    unfold FP.Core.decode
    rw [if_pos hE, if_neg hT]
  · exact q
theorem dm_ok (x : Int32) : vf_n64 (FP.dmul (FP.i2d x) 4593671619917905920) := by
  refine vf_of ?_
  have e1 : FP.Core.val64 4593671619917905920 = .fin false 4503599627370496 (-55) := by decide +kernel
  have e2 : FP.Core.val64 (FP.dmul (FP.i2d x) 4593671619917905920) = FP.Core.round FP.Core.b64 (FP.Core.exactProduct (FP.Core.val64 (FP.i2d x)) (FP.Core.val64 4593671619917905920)) := FP.Core.val64_dmul _ _
  rw [e2, e1]
  refine rnd_ne ?_
  have e3 : FP.Core.val64 (FP.i2d x) = FP.Core.round FP.Core.b64 (FP.Core.ofInt x.toInt) := FP.Core.val64_i2d x
  have h3 : FP.Core.val64 (FP.i2d x) ≠ .nan := by
    rw [e3]
    exact rnd_ne (by simp [FP.Core.ofInt])
  cases hv : FP.Core.val64 (FP.i2d x) with
  | nan => exact absurd hv h3
  | inf s => simp [FP.Core.exactProduct]
  | fin s c q => simp [FP.Core.exactProduct]
/-- the byte of a long, shifted down by n (n a multiple of 8, below 64): with the sign or without it -/
theorem by_bv (v : BitVec 64) (n : Nat) (hn : n + 8 ≤ 64) : ((v.sshiftRight n) &&& 255#64).setWidth 32 = (v >>> n).setWidth 32 &&& 255#32 := by
  apply BitVec.eq_of_getLsbD_eq
  intro i hi
  have h255 : ∀ j, (255#64).getLsbD j = decide (j < 8) := by
    intro j
    rcases Nat.lt_or_ge j 64 with q | q
    · revert j
      decide +kernel
    · rw [BitVec.getLsbD_of_ge _ _ q]
      simp; omega
  have h255' : ∀ j, (255#32).getLsbD j = decide (j < 8) := by
    intro j
    rcases Nat.lt_or_ge j 32 with q | q
    · revert j
      decide +kernel
    · rw [BitVec.getLsbD_of_ge _ _ q]
      simp; omega
  rw [BitVec.getLsbD_setWidth, BitVec.getLsbD_and, BitVec.getLsbD_and, BitVec.getLsbD_setWidth, h255, h255', BitVec.getLsbD_sshiftRight, BitVec.getLsbD_ushiftRight]
  by_cases h8 : i < 8
  · have h1 : ¬ 64 ≤ i := by omega
    have h2 : n + i < 64 := by omega
    simp [h8, hi, h1, h2]
  · simp [h8]
