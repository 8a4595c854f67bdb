/-! THE STARTS: what new objects hold -/
theorem rnd_ne {x : FP.Core.Datum} (h : x ≠ .nan) : FP.Core.round FP.Core.b64 x ≠ .nan := by
  cases x with
  | nan => exact absurd rfl h
  | inf s => simp [FP.Core.round]
  | fin s c q =>
    simp only [FP.Core.round, FP.Core.roundRatio]
    split
    · simp
    · simp only [FP.Core.roundAt, FP.Core.settle, FP.Core.bound]
      repeat' split
      all_goals simp
theorem dm_v (x : Int32) : FP.Core.val64 (FP.dmul (FP.i2d x) 4593671619917905920) ≠ .nan := by
  have e1 : FP.Core.val64 4593671619917905920 = .fin false 4503599627370496 (-55) := by decide +kernel
  have e2 : FP.Core.val64 (FP.dmul (FP.i2d x) 4593671619917905920) = FP.Core.round FP.Core.b64 (FP.Core.exactProduct (FP.Core.val64 (FP.i2d x)) (FP.Core.val64 4593671619917905920)) := FP.Core.val64_dmul _ _
  rw [e2, e1]
  refine rnd_ne ?_
  have e3 : FP.Core.val64 (FP.i2d x) = FP.Core.round FP.Core.b64 (FP.Core.ofInt x.toInt) := FP.Core.val64_i2d x
  have h3 : FP.Core.val64 (FP.i2d x) ≠ .nan := by
    rw [e3]
    exact rnd_ne (by simp [FP.Core.ofInt])
  cases hv : FP.Core.val64 (FP.i2d x) with
  | nan => exact absurd hv h3
  | inf s => simp [FP.Core.exactProduct]
  | fin s c q => simp [FP.Core.exactProduct]
theorem dm_N (x : Int32) : dN (FP.dmul (FP.i2d x) 4593671619917905920) := dN_iff.mp (dm_v x)
theorem dm_ok (x : Int32) : vf_n64 (FP.dmul (FP.i2d x) 4593671619917905920) := zvf_of (dm_v x)
def S0c (C Rr : Nat) : CS := ((zI, zI, zD, (0 : Int32), zI, zI, (0 : Int32)), (zI, (1 : Int32), zI, (0 : Int32), (0 : Int32)), (zI, zI, zD, (0 : Int32), roomF, zI, zI, zI, zI, zD, (0 : Int32)), (zI, zI, zD, (0 : Int32), roomF, zI, zI, zI, zI, zD, (0 : Int32)), (zI, zI, zD, (0 : Int32), roomF, zI, zI, zI, zI, zD, (0 : Int32)), (zI, zI, zD, (0 : Int32), roomF, zI, zI, zI, zI, zD, (0 : Int32)), (zI, (0 : Int32), (0 : Int32), (0 : Int32), (0 : Int32), (0 : UInt64), zI, zI, zI, zD, (0 : Int32)), ((nI C), (nI Rr), zI, (0x3f800000 : UInt32), zD, zD, zI, (0 : Int32)), ((0 : Int32), (0 : Int32), (0 : Int32), (0 : Int32), (0 : Int32), (0 : Int32)))
def S0m (C Rr : Nat) (ea la : Nat → Int64) : MS := (((0 : Int32), zI, zJ, zD, (0 : Int32), (0 : Int32), zJ, zI), (roomF, zI, (1 : Int32), (0 : Int32), (0 : Int32), zI, zI, (0 : Int32)), ((0 : Int32), zI, zJ, zI, zJ, zJ, zJ, zI), ((0 : Int32), (0 : Int32), (0 : Int32), (0 : Int32), zI, zJ, (0 : Int32), (0 : Int32)), ((0 : Int32), (0 : Int32), (nI C), (nI Rr), zI, (0x3f800000 : UInt32), zD, zD), (zI, (0 : Int32), (patF 33), ea, la))
theorem vOk_0 : vOk 0 0 0 := ⟨by decide +kernel, fun _ => by decide +kernel, fun h => by rcases h with h | h <;> (exfalso; revert h; decide +kernel), fun h => by (exfalso; revert h; decide +kernel), by decide +kernel⟩
theorem ink_z : inkOk 0x3f800000 zD zD := ⟨by decide +kernel, fun _ _ => (by decide +kernel : (-4696837146684686336 ≤ dk 0 ∧ dk 0 ≤ 4696837146684686336) ∧ -4696837146684686336 ≤ dk 0 ∧ dk 0 ≤ 4696837146684686336)⟩
theorem z_nat : (0 : Int32).toInt.toNat = 0 := by decide +kernel
theorem fr_z : FrOk 0 0 zI zJ zI zJ zJ zJ :=
  ⟨by decide +kernel, fun k h => absurd (show k < 0 by rw [← z_nat]; exact h) (Nat.not_lt_zero k), by decide +kernel, fun k h => absurd (show k + 1 < 0 by rw [← z_nat]; exact h) (Nat.not_lt_zero _)⟩
theorem CIv0 {C Rr : Nat} (h1 : 1 ≤ C) (h2 : C ≤ 24) (h3 : 1 ≤ Rr) (h4 : Rr ≤ 16) : CIv (S0c C Rr) :=
  ⟨(fun _ _ => (by decide +kernel : dB 0)),
    (fun _ _ => (by decide +kernel : dB 0)),
    (fun _ _ => (by decide +kernel : dB 0)),
    (fun _ _ => (by decide +kernel : dB 0)),
    (fun _ _ => (by decide +kernel : dB 0)),
    (fun _ _ => (by decide +kernel : dB 0)),
    (fun _ _ => (by decide +kernel : dB 0)),
    (fun _ _ => (by decide +kernel : dB 0)),
    (fun _ _ => (by decide +kernel : dB 0)),
    (fun _ _ => (by decide +kernel : dB 0)),
    (by decide +kernel : 0 ≤ (0 : Int32).toInt ∧ (0 : Int32).toInt ≤ 40),
    (by decide +kernel : ∀ k, k < 40 → (zI k).toInt ≤ 8),
    (by decide +kernel : ∀ k, k < 7 → 0 ≤ (zI k).toInt ∧ (zI k).toInt ≤ (roomF k).toInt ∧ (roomF k).toInt ≤ (if k = 0 then 20 else 10)),
    (by decide +kernel : ∀ k, k < 7 → 0 ≤ (zI k).toInt ∧ (zI k).toInt ≤ (roomF k).toInt ∧ (roomF k).toInt ≤ (if k = 0 then 20 else 10)),
    (by decide +kernel : ∀ k, k < 7 → 0 ≤ (zI k).toInt ∧ (zI k).toInt ≤ (roomF k).toInt ∧ (roomF k).toInt ≤ (if k = 0 then 20 else 10)),
    (by decide +kernel : ∀ k, k < 7 → 0 ≤ (zI k).toInt ∧ (zI k).toInt ≤ (roomF k).toInt ∧ (roomF k).toInt ≤ (if k = 0 then 20 else 10)),
    (by decide +kernel : 0 ≤ (0 : Int32).toInt ∧ (0 : Int32).toInt ≤ 120),
    (by decide +kernel : ∀ k, k < 120 → 0 ≤ (zI k).toInt ∧ (zI k).toInt ≤ 127),
    (by decide +kernel : 0 ≤ (0 : Int32).toInt ∧ (0 : Int32).toInt ≤ 300),
    (by decide +kernel : dB (0 : UInt64)),
    (show 1 ≤ (nI C).toInt ∧ (nI C).toInt ≤ 24 ∧ 1 ≤ (nI Rr).toInt ∧ (nI Rr).toInt ≤ 16 from ⟨by have := nI_toInt (n := C) (by omega); omega, by have := nI_toInt (n := C) (by omega); omega, by have := nI_toInt (n := Rr) (by omega); omega, by have := nI_toInt (n := Rr) (by omega); omega⟩),
    (by decide +kernel : 0 ≤ (0 : Int32).toInt ∧ (0 : Int32).toInt ≤ 30),
    ink_z,
    (by decide +kernel : 0 ≤ (0 : Int32).toInt ∧ (0 : Int32).toInt ≤ 8)⟩
theorem MI0 {C Rr : Nat} {ea la : Nat → Int64} (h1 : 1 ≤ C) (h2 : C ≤ 24) (h3 : 1 ≤ Rr) (h4 : Rr ≤ 16) : MI (S0m C Rr ea la) :=
  ⟨(by decide +kernel : 0 ≤ (0 : Int32).toInt ∧ (0 : Int32).toInt ≤ 40),
    (by decide +kernel : 0 ≤ (0 : Int32).toInt ∧ (0 : Int32).toInt ≤ 160),
    (fun _ _ => vOk_0),
    (by decide +kernel : ∀ k, k < 28 → 0 ≤ (zI k).toInt ∧ (zI k).toInt ≤ (roomF k).toInt ∧ (roomF k).toInt ≤ (if k % 7 = 0 then 20 else 10)),
    (by decide +kernel : ∀ k, k < 6 → 0 ≤ (zI k).toInt ∧ (zI k).toInt ≤ 6),
    (by decide +kernel : 1 ≤ (1 : Int32).toInt ∧ (1 : Int32).toInt ≤ 6),
    (by decide +kernel : 0 ≤ (0 : Int32).toInt ∧ (0 : Int32).toInt ≤ 3),
    (by decide +kernel : ∀ k, k < 3 → 0 ≤ (zI k).toInt ∧ (zI k).toInt ≤ 160),
    (by decide +kernel : 0 ≤ (0 : Int32).toInt ∧ (0 : Int32).toInt ≤ 30),
    (by decide +kernel : ∀ k, k < 30 → 0 ≤ (zI k).toInt ∧ (zI k).toInt ≤ 29),
    (by decide +kernel : 0 ≤ (0 : Int32).toInt ∧ (0 : Int32).toInt ≤ 120),
    (by decide +kernel : 0 ≤ (0 : Int32).toInt ∧ (0 : Int32).toInt ≤ 40),
    (show 1 ≤ (nI C).toInt ∧ (nI C).toInt ≤ 24 ∧ 1 ≤ (nI Rr).toInt ∧ (nI Rr).toInt ≤ 16 from ⟨by have := nI_toInt (n := C) (by omega); omega, by have := nI_toInt (n := C) (by omega); omega, by have := nI_toInt (n := Rr) (by omega); omega, by have := nI_toInt (n := Rr) (by omega); omega⟩),
    (by decide +kernel : ∀ k, k < 120 → 0 ≤ (zI k).toInt ∧ (zI k).toInt ≤ 127),
    pat_ok,
    (by decide +kernel : 0 ≤ (0 : Int32).toInt ∧ (0 : Int32).toInt ≤ (0 : Int32).toInt ∧ (0 : Int32).toInt ≤ 500),
    fr_z,
    ink_z⟩
theorem lvN0 {C Rr : Nat} (h2 : C ≤ 24) (h4 : Rr ≤ 16) : lvN (S0c C Rr) = C * Rr := by
  have e1 := nI_toInt (n := C) (by omega)
  have e2 := nI_toInt (n := Rr) (by omega)
  show ((nI C).toInt * (nI Rr).toInt).toNat = C * Rr
  rw [e1, e2, ← Int.natCast_mul]
  rfl
theorem cW_s {T : Nat → ClassId} {pa : Nat → Nat} {C Rr : Nat} (h2 : C ≤ 24) (h4 : Rr ≤ 16) : [((pa 0), .inr (10, [.ref (pa 1), .ref (pa 5), .ref (pa 8), .ref (pa 60), .ref (pa 67), .ref (pa 72)])), ((pa 1), .inr (0, [.ref (pa 2), .ref (pa 3), .ref (pa 4), .int 0])), ((pa 2), .inl (T 0, 40, .inl zI)), ((pa 3), .inl (T 0, 40, .inl zI)), ((pa 4), .inl (T 3, 40, .inr (.inr (.inr (.inl zD))))), ((pa 5), .inr (1, [.ref (pa 6), .ref (pa 7), .int 0])), ((pa 6), .inl (T 2, 320, .inl zI)), ((pa 7), .inl (T 0, 40, .inl zI)), ((pa 8), .inr (2, [.ref (pa 1), .ref (pa 12), .ref (pa 9), .int 1, .ref (pa 10), .ref (pa 11), .int 0, .int 0])), ((pa 9), .inl (T 0, 6, .inl zI)), ((pa 10), .inl (T 4, 3, .inr (.inr (.inr (.inr (kept3 (pa 24) (pa 36) (pa 48))))))), ((pa 11), .inl (T 0, 3, .inl zI)), ((pa 12), .inr (3, [.ref (pa 13), .ref (pa 17), .ref (pa 18), .ref (pa 19), .ref (pa 20)])), ((pa 13), .inr (4, [.ref (pa 14), .ref (pa 15), .ref (pa 16), .int 0])), ((pa 14), .inl (T 0, 160, .inl zI)), ((pa 15), .inl (T 0, 160, .inl zI)), ((pa 16), .inl (T 3, 160, .inr (.inr (.inr (.inl zD))))), ((pa 17), .inl (T 0, 7, .inl roomF)), ((pa 18), .inl (T 0, 7, .inl zI)), ((pa 19), .inl (T 0, 80, .inl zI)), ((pa 20), .inr (4, [.ref (pa 21), .ref (pa 22), .ref (pa 23), .int 0])), ((pa 21), .inl (T 0, 80, .inl zI)), ((pa 22), .inl (T 0, 80, .inl zI)), ((pa 23), .inl (T 3, 80, .inr (.inr (.inr (.inl zD))))), ((pa 24), .inr (3, [.ref (pa 25), .ref (pa 29), .ref (pa 30), .ref (pa 31), .ref (pa 32)])), ((pa 25), .inr (4, [.ref (pa 26), .ref (pa 27), .ref (pa 28), .int 0])), ((pa 26), .inl (T 0, 160, .inl zI)), ((pa 27), .inl (T 0, 160, .inl zI)), ((pa 28), .inl (T 3, 160, .inr (.inr (.inr (.inl zD))))), ((pa 29), .inl (T 0, 7, .inl roomF)), ((pa 30), .inl (T 0, 7, .inl zI)), ((pa 31), .inl (T 0, 80, .inl zI)), ((pa 32), .inr (4, [.ref (pa 33), .ref (pa 34), .ref (pa 35), .int 0])), ((pa 33), .inl (T 0, 80, .inl zI)), ((pa 34), .inl (T 0, 80, .inl zI)), ((pa 35), .inl (T 3, 80, .inr (.inr (.inr (.inl zD))))), ((pa 36), .inr (3, [.ref (pa 37), .ref (pa 41), .ref (pa 42), .ref (pa 43), .ref (pa 44)])), ((pa 37), .inr (4, [.ref (pa 38), .ref (pa 39), .ref (pa 40), .int 0])), ((pa 38), .inl (T 0, 160, .inl zI)), ((pa 39), .inl (T 0, 160, .inl zI)), ((pa 40), .inl (T 3, 160, .inr (.inr (.inr (.inl zD))))), ((pa 41), .inl (T 0, 7, .inl roomF)), ((pa 42), .inl (T 0, 7, .inl zI)), ((pa 43), .inl (T 0, 80, .inl zI)), ((pa 44), .inr (4, [.ref (pa 45), .ref (pa 46), .ref (pa 47), .int 0])), ((pa 45), .inl (T 0, 80, .inl zI)), ((pa 46), .inl (T 0, 80, .inl zI)), ((pa 47), .inl (T 3, 80, .inr (.inr (.inr (.inl zD))))), ((pa 48), .inr (3, [.ref (pa 49), .ref (pa 53), .ref (pa 54), .ref (pa 55), .ref (pa 56)])), ((pa 49), .inr (4, [.ref (pa 50), .ref (pa 51), .ref (pa 52), .int 0])), ((pa 50), .inl (T 0, 160, .inl zI)), ((pa 51), .inl (T 0, 160, .inl zI)), ((pa 52), .inl (T 3, 160, .inr (.inr (.inr (.inl zD))))), ((pa 53), .inl (T 0, 7, .inl roomF)), ((pa 54), .inl (T 0, 7, .inl zI)), ((pa 55), .inl (T 0, 80, .inl zI)), ((pa 56), .inr (4, [.ref (pa 57), .ref (pa 58), .ref (pa 59), .int 0])), ((pa 57), .inl (T 0, 80, .inl zI)), ((pa 58), .inl (T 0, 80, .inl zI)), ((pa 59), .inl (T 3, 80, .inr (.inr (.inr (.inl zD))))), ((pa 60), .inr (5, [.ref (pa 5), .ref (pa 12), .ref (pa 61), .int 0, .int 0, .int 0, .int 0, .double 0, .ref (pa 62), .ref (pa 66)])), ((pa 61), .inl (T 2, 120, .inl zI)), ((pa 62), .inr (4, [.ref (pa 63), .ref (pa 64), .ref (pa 65), .int 0])), ((pa 63), .inl (T 0, 120, .inl zI)), ((pa 64), .inl (T 0, 120, .inl zI)), ((pa 65), .inl (T 3, 120, .inr (.inr (.inr (.inl zD))))), ((pa 66), .inl (T 0, 4, .inl zI)), ((pa 67), .inr (6, [.ref (pa 1), .int (nI C), .int (nI Rr), .ref (pa 68), .float 0x3f800000, .ref (pa 69), .ref (pa 70), .ref (pa 71), .int 0])), ((pa 68), .inl (T 0, (C * Rr), .inl zI)), ((pa 69), .inl (T 3, 30, .inr (.inr (.inr (.inl zD))))), ((pa 70), .inl (T 3, 30, .inr (.inr (.inr (.inl zD))))), ((pa 71), .inl (T 0, 30, .inl zI)), ((pa 72), .inr (7, [.ref (pa 1), .ref (pa 8), .ref (pa 67), .ref (pa 73), .ref (pa 74), .int 0, .int 0, .int 0, .int 0, .int 0, .int 0])), ((pa 73), .inr (8, [.ref (pa 1)])), ((pa 74), .inr (9, [.ref (pa 1)]))] = cW T pa (S0c C Rr) := by
  rw [← lvN0 h2 h4]
  rfl
theorem mW_s {T : Nat → ClassId} {h0 : Nat} {ar : Nat → Nat} {C Rr : Nat} {ea la : Nat → Int64} : [(h0, .inr (11, [.int 0, .ref (ar 0), .ref (ar 1), .ref (ar 2), .int 0, .int 0, .ref (ar 3), .ref (ar 4), .ref (ar 5), .ref (ar 6), .int 1, .int 0, .int 0, .ref (ar 7), .ref (ar 8), .int 0, .int 0, .ref (ar 9), .ref (ar 10), .ref (ar 11), .ref (ar 12), .ref (ar 13), .ref (ar 14), .ref (ar 15), .int 0, .int 0, .int 0, .int 0, .ref (ar 16), .ref (ar 17), .int 0, .int 0, .int 0, .int 0, .int (nI C), .int (nI Rr), .ref (ar 18), .float 0x3f800000, .ref (ar 19), .ref (ar 20), .ref (ar 21), .int 0, .ref (ar 22), .ref (ar 23), .ref (ar 24)])), ((ar 0), .inl (T 0, 1300, .inl zI)), ((ar 1), .inl (T 1, 1300, .inr (.inl zJ))), ((ar 2), .inl (T 3, 1300, .inr (.inr (.inr (.inl zD))))), ((ar 3), .inl (T 1, 320, .inr (.inl zJ))), ((ar 4), .inl (T 0, 28, .inl zI)), ((ar 5), .inl (T 0, 28, .inl roomF)), ((ar 6), .inl (T 0, 6, .inl zI)), ((ar 7), .inl (T 0, 3, .inl zI)), ((ar 8), .inl (T 0, 3, .inl zI)), ((ar 9), .inl (T 0, 560, .inl zI)), ((ar 10), .inl (T 1, 560, .inr (.inl zJ))), ((ar 11), .inl (T 0, 560, .inl zI)), ((ar 12), .inl (T 1, 560, .inr (.inl zJ))), ((ar 13), .inl (T 1, 560, .inr (.inl zJ))), ((ar 14), .inl (T 1, 560, .inr (.inl zJ))), ((ar 15), .inl (T 2, 120, .inl zI)), ((ar 16), .inl (T 0, 4, .inl zI)), ((ar 17), .inl (T 1, 40, .inr (.inl zJ))), ((ar 18), .inl (T 0, 384, .inl zI)), ((ar 19), .inl (T 3, 30, .inr (.inr (.inr (.inl zD))))), ((ar 20), .inl (T 3, 30, .inr (.inr (.inr (.inl zD))))), ((ar 21), .inl (T 0, 30, .inl zI)), ((ar 22), .inl (T 0, 33, .inl (patF 33))), ((ar 23), .inl (T 1, 35, .inr (.inl ea))), ((ar 24), .inl (T 1, 35, .inr (.inl la)))] = mW T h0 ar (S0m C Rr ea la) := rfl
