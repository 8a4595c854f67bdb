/-! THE MODEL: its state as one, its world -/
abbrev MS : Type := ((Int32) × (Nat → Int32) × (Nat → Int64) × (Nat → UInt64) × (Int32) × (Int32) × (Nat → Int64) × (Nat → Int32)) × ((Nat → Int32) × (Nat → Int32) × (Int32) × (Int32) × (Int32) × (Nat → Int32) × (Nat → Int32) × (Int32)) × ((Int32) × (Nat → Int32) × (Nat → Int64) × (Nat → Int32) × (Nat → Int64) × (Nat → Int64) × (Nat → Int64) × (Nat → Int32)) × ((Int32) × (Int32) × (Int32) × (Int32) × (Nat → Int32) × (Nat → Int64) × (Int32) × (Int32)) × ((Int32) × (Int32) × (Int32) × (Int32) × (Nat → Int32) × (UInt32) × (Nat → UInt64) × (Nat → UInt64)) × ((Nat → Int32) × (Int32) × (Nat → Int32) × (Nat → Int64) × (Nat → Int64))
abbrev f_thrown (S : MS) : Int32 := S.1.1
abbrev a_kinds (S : MS) : Nat → Int32 := S.1.2.1
abbrev a_codes (S : MS) : Nat → Int64 := S.1.2.2.1
abbrev a_reals (S : MS) : Nat → UInt64 := S.1.2.2.2.1
abbrev f_size (S : MS) : Int32 := S.1.2.2.2.2.1
abbrev f_taken (S : MS) : Int32 := S.1.2.2.2.2.2.1
abbrev a_words (S : MS) : Nat → Int64 := S.1.2.2.2.2.2.2.1
abbrev a_many (S : MS) : Nat → Int32 := S.1.2.2.2.2.2.2.2
abbrev a_room (S : MS) : Nat → Int32 := S.2.1.1
abbrev a_dicts (S : MS) : Nat → Int32 := S.2.1.2.1
abbrev f_deep (S : MS) : Int32 := S.2.1.2.2.1
abbrev f_saves (S : MS) : Int32 := S.2.1.2.2.2.1
abbrev f_open (S : MS) : Int32 := S.2.1.2.2.2.2.1
abbrev a_numbers (S : MS) : Nat → Int32 := S.2.1.2.2.2.2.2.1
abbrev a_cells (S : MS) : Nat → Int32 := S.2.1.2.2.2.2.2.2.1
abbrev f_frames (S : MS) : Int32 := S.2.1.2.2.2.2.2.2.2
abbrev f_under (S : MS) : Int32 := S.2.2.1.1
abbrev a_what (S : MS) : Nat → Int32 := S.2.2.1.2.1
abbrev a_array (S : MS) : Nat → Int64 := S.2.2.1.2.2.1
abbrev a_far (S : MS) : Nat → Int32 := S.2.2.1.2.2.2.1
abbrev a_value (S : MS) : Nat → Int64 := S.2.2.1.2.2.2.2.1
abbrev a_grows (S : MS) : Nat → Int64 := S.2.2.1.2.2.2.2.2.1
abbrev a_last (S : MS) : Nat → Int64 := S.2.2.1.2.2.2.2.2.2.1
abbrev a_text (S : MS) : Nat → Int32 := S.2.2.1.2.2.2.2.2.2.2
abbrev f_length (S : MS) : Int32 := S.2.2.2.1.1
abbrev f_at (S : MS) : Int32 := S.2.2.2.1.2.1
abbrev f_pending (S : MS) : Int32 := S.2.2.2.1.2.2.1
abbrev f_level (S : MS) : Int32 := S.2.2.2.1.2.2.2.1
abbrev a_starts (S : MS) : Nat → Int32 := S.2.2.2.1.2.2.2.2.1
abbrev a_known (S : MS) : Nat → Int64 := S.2.2.2.1.2.2.2.2.2.1
abbrev f_knows (S : MS) : Int32 := S.2.2.2.1.2.2.2.2.2.2.1
abbrev f_fuel (S : MS) : Int32 := S.2.2.2.1.2.2.2.2.2.2.2
abbrev f_steps (S : MS) : Int32 := S.2.2.2.2.1.1
abbrev f_failure (S : MS) : Int32 := S.2.2.2.2.1.2.1
abbrev f_columns (S : MS) : Int32 := S.2.2.2.2.1.2.2.1
abbrev f_rows (S : MS) : Int32 := S.2.2.2.2.1.2.2.2.1
abbrev a_pixels (S : MS) : Nat → Int32 := S.2.2.2.2.1.2.2.2.2.1
abbrev f_gray (S : MS) : UInt32 := S.2.2.2.2.1.2.2.2.2.2.1
abbrev a_across (S : MS) : Nat → UInt64 := S.2.2.2.2.1.2.2.2.2.2.2.1
abbrev a_along (S : MS) : Nat → UInt64 := S.2.2.2.2.1.2.2.2.2.2.2.2
abbrev a_part (S : MS) : Nat → Int32 := S.2.2.2.2.2.1
abbrev f_points (S : MS) : Int32 := S.2.2.2.2.2.2.1
abbrev a_patterns (S : MS) : Nat → Int32 := S.2.2.2.2.2.2.2.1
abbrev a_early (S : MS) : Nat → Int64 := S.2.2.2.2.2.2.2.2.1
abbrev a_late (S : MS) : Nat → Int64 := S.2.2.2.2.2.2.2.2.2
abbrev mOb (ar : Nat → Nat) (S : MS) : List Value := [.int (f_thrown S), .ref (ar 0), .ref (ar 1), .ref (ar 2), .int (f_size S), .int (f_taken S), .ref (ar 3), .ref (ar 4), .ref (ar 5), .ref (ar 6), .int (f_deep S), .int (f_saves S), .int (f_open S), .ref (ar 7), .ref (ar 8), .int (f_frames S), .int (f_under S), .ref (ar 9), .ref (ar 10), .ref (ar 11), .ref (ar 12), .ref (ar 13), .ref (ar 14), .ref (ar 15), .int (f_length S), .int (f_at S), .int (f_pending S), .int (f_level S), .ref (ar 16), .ref (ar 17), .int (f_knows S), .int (f_fuel S), .int (f_steps S), .int (f_failure S), .int (f_columns S), .int (f_rows S), .ref (ar 18), .float (f_gray S), .ref (ar 19), .ref (ar 20), .ref (ar 21), .int (f_points S), .ref (ar 22), .ref (ar 23), .ref (ar 24)]
abbrev mW (T : Nat → ClassId) (h0 : Nat) (ar : Nat → Nat) (S : MS) : va_W := [(h0, .inr (11, mOb ar S)), (ar 0, .inl (T 0, 1300, .inl (a_kinds S))), (ar 1, .inl (T 1, 1300, .inr (.inl (a_codes S)))), (ar 2, .inl (T 3, 1300, .inr (.inr (.inr (.inl (a_reals S)))))), (ar 3, .inl (T 1, 320, .inr (.inl (a_words S)))), (ar 4, .inl (T 0, 28, .inl (a_many S))), (ar 5, .inl (T 0, 28, .inl (a_room S))), (ar 6, .inl (T 0, 6, .inl (a_dicts S))), (ar 7, .inl (T 0, 3, .inl (a_numbers S))), (ar 8, .inl (T 0, 3, .inl (a_cells S))), (ar 9, .inl (T 0, 560, .inl (a_what S))), (ar 10, .inl (T 1, 560, .inr (.inl (a_array S)))), (ar 11, .inl (T 0, 560, .inl (a_far S))), (ar 12, .inl (T 1, 560, .inr (.inl (a_value S)))), (ar 13, .inl (T 1, 560, .inr (.inl (a_grows S)))), (ar 14, .inl (T 1, 560, .inr (.inl (a_last S)))), (ar 15, .inl (T 2, 120, .inl (a_text S))), (ar 16, .inl (T 0, 4, .inl (a_starts S))), (ar 17, .inl (T 1, 40, .inr (.inl (a_known S)))), (ar 18, .inl (T 0, 384, .inl (a_pixels S))), (ar 19, .inl (T 3, 30, .inr (.inr (.inr (.inl (a_across S)))))), (ar 20, .inl (T 3, 30, .inr (.inr (.inr (.inl (a_along S)))))), (ar 21, .inl (T 0, 30, .inl (a_part S))), (ar 22, .inl (T 0, 33, .inl (a_patterns S))), (ar 23, .inl (T 1, 35, .inr (.inl (a_early S)))), (ar 24, .inl (T 1, 35, .inr (.inl (a_late S))))]
theorem zt_mod {x y : Int32} {a b : Int} {k : Nat} (hx : x.toInt = a) (hy : y.toInt = b) (hk : k < 31) (hb : b = 2 ^ k - 1) (h1 : 0 ≤ a) : (x &&& y).toInt = a % 2 ^ k := by
  have e : ∀ z : Int32, 0 ≤ z.toInt → z.toInt = (z.toBitVec.toNat : Int) := by
    intro z hz
    have h := z.toBitVec.isLt
    rw [← Int32.toInt_toBitVec] at hz ⊢
    rw [BitVec.toInt_eq_toNat_cond] at hz ⊢
    split at hz
    · rename_i q; rw [if_pos q]
    · omega
  have hp : 0 < (2 : Int) ^ k := Int.pow_pos (by decide)
  have ex := e x (by omega)
  have ey := e y (by omega)
  have hx2 : x.toBitVec.toNat = a.toNat := by omega
  have hy2 : y.toBitVec.toNat = 2 ^ k - 1 := by
    have h3 : ((2 ^ k : Nat) : Int) = (2 : Int) ^ k := by simp
    omega
  have e4 : (x &&& y).toBitVec.toNat = a.toNat % 2 ^ k := by
    rw [Int32.toBitVec_and, BitVec.toNat_and, hx2, hy2, Nat.and_two_pow_sub_one_eq_mod]
  have hk2 : 2 ^ k < 2 ^ 31 := Nat.pow_lt_pow_right (by decide) hk
  have hlt : a.toNat % 2 ^ k < 2 ^ k := Nat.mod_lt _ (Nat.two_pow_pos k)
  have e5 : (x &&& y).toInt = ((x &&& y).toBitVec.toNat : Int) := by
    rw [← Int32.toInt_toBitVec, BitVec.toInt_eq_toNat_cond, if_pos (by omega)]
  rw [e5, e4]
  have : ((a.toNat % 2 ^ k : Nat) : Int) = (a.toNat : Int) % ((2 ^ k : Nat) : Int) := by simp
  rw [this, Int.toNat_of_nonneg h1]
  simp
theorem zu_mod {x y : Int64} {a b : Int} {k : Nat} (hx : x.toInt = a) (hy : y.toInt = b) (hk : k < 63) (hb : b = 2 ^ k - 1) (h1 : 0 ≤ a) : (x &&& y).toInt = a % 2 ^ k := by
  have e : ∀ z : Int64, 0 ≤ z.toInt → z.toInt = (z.toBitVec.toNat : Int) := by
    intro z hz
    have h := z.toBitVec.isLt
    rw [← Int64.toInt_toBitVec] at hz ⊢
    rw [BitVec.toInt_eq_toNat_cond] at hz ⊢
    split at hz
    · rename_i q; rw [if_pos q]
    · omega
  have hp : 0 < (2 : Int) ^ k := Int.pow_pos (by decide)
  have ex := e x (by omega)
  have ey := e y (by omega)
  have hx2 : x.toBitVec.toNat = a.toNat := by omega
  have hy2 : y.toBitVec.toNat = 2 ^ k - 1 := by
    have h3 : ((2 ^ k : Nat) : Int) = (2 : Int) ^ k := by simp
    omega
  have e4 : (x &&& y).toBitVec.toNat = a.toNat % 2 ^ k := by
    rw [Int64.toBitVec_and, BitVec.toNat_and, hx2, hy2, Nat.and_two_pow_sub_one_eq_mod]
  have hk2 : 2 ^ k < 2 ^ 63 := Nat.pow_lt_pow_right (by decide) hk
  have hlt : a.toNat % 2 ^ k < 2 ^ k := Nat.mod_lt _ (Nat.two_pow_pos k)
  have e5 : (x &&& y).toInt = ((x &&& y).toBitVec.toNat : Int) := by
    rw [← Int64.toInt_toBitVec, BitVec.toInt_eq_toNat_cond, if_pos (by omega)]
  rw [e5, e4]
  have : ((a.toNat % 2 ^ k : Nat) : Int) = (a.toNat : Int) % ((2 ^ k : Nat) : Int) := by simp
  rw [this, Int.toNat_of_nonneg h1]
  simp
theorem zu_shr {x : Int64} {y : Int32} {a : Int} {k : Nat} (hx : x.toInt = a) (hk : (y.toInt64 &&& 63).toBitVec.smod 64#64 = BitVec.ofNat 64 k) (hk2 : k < 64) : (x >>> (y.toInt64 &&& 63)).toInt = a / 2 ^ k := by
  rw [← Int64.toInt_toBitVec, Int64.toBitVec_shiftRight]
  rw [show (64 : BitVec 64) = 64#64 from rfl, hk]
  rw [BitVec.sshiftRight_eq', BitVec.toInt_sshiftRight, Int64.toInt_toBitVec, hx, BitVec.toNat_ofNat, Nat.mod_eq_of_lt (by omega), Int.shiftRight_eq_div_pow]
  simp
theorem zt_l2i {x : Int64} {a : Int} (hx : x.toInt = a) (h1 : -2147483648 ≤ a) (h2 : a ≤ 2147483647) : x.toInt32.toInt = a := by
  rw [Int64.toInt_toInt32, hx]; exact Int.bmod_eq_of_le (by omega) (by omega)
theorem zt_add {x y : Int32} {a b : Int} (hx : x.toInt = a) (hy : y.toInt = b) (h1 : -2147483648 ≤ a + b) (h2 : a + b ≤ 2147483647) : (x + y).toInt = a + b := by
  rw [Int32.toInt_add, hx, hy]; exact Int.bmod_eq_of_le (by omega) (by omega)
theorem zt_neg {x : Int32} {a : Int} (hx : x.toInt = a) (h1 : -2147483647 ≤ a) (h2 : a ≤ 2147483647) : (-x).toInt = -a := by
  rw [Int32.toInt_neg, hx]; exact Int.bmod_eq_of_le (by omega) (by omega)
theorem zt_ix {x : Int32} {a : Int} (hx : x.toInt = a) : x.toNatClampNeg = a.toNat := by rw [← hx]; rfl
theorem zt_sub {x y : Int32} {a b : Int} (hx : x.toInt = a) (hy : y.toInt = b) (h1 : -2147483648 ≤ a - b) (h2 : a - b ≤ 2147483647) : (x - y).toInt = a - b := by
  rw [Int32.toInt_sub, hx, hy]; exact Int.bmod_eq_of_le (by omega) (by omega)
theorem zt_mul {x y : Int32} {a b q : Int} (hx : x.toInt = a) (hy : y.toInt = b) (hq : a * b = q) (h1 : -2147483648 ≤ q) (h2 : q ≤ 2147483647) : (x * y).toInt = q := by
  rw [Int32.toInt_mul, hx, hy, hq]; exact Int.bmod_eq_of_le (by omega) (by omega)
theorem zt_div {x y : Int32} {a b : Int} (hx : x.toInt = a) (hy : y.toInt = b) (h0 : 0 ≤ a) (h1 : 1 ≤ b) : (x / y).toInt = a / b := by
  rw [Int32.toInt_div_of_ne_right _ _ (fun q => by rw [q] at hy; have : (-1 : Int32).toInt = -1 := by decide +kernel
                                                   omega), hx, hy]
  exact Int.tdiv_eq_ediv_of_nonneg h0
theorem zt_lt {x y : Int32} {a b : Int} (hx : x.toInt = a) (hy : y.toInt = b) (h : x < y) : a < b := by rw [← hx, ← hy]; exact Int32.lt_iff_toInt_lt.mp h
theorem zt_nlt {x y : Int32} {a b : Int} (hx : x.toInt = a) (hy : y.toInt = b) (h : ¬ x < y) : ¬ a < b := by rw [← hx, ← hy]; exact fun q => h (Int32.lt_iff_toInt_lt.mpr q)
theorem zt_le {x y : Int32} {a b : Int} (hx : x.toInt = a) (hy : y.toInt = b) (h : x ≤ y) : a ≤ b := by rw [← hx, ← hy]; exact Int32.le_iff_toInt_le.mp h
theorem zt_nle {x y : Int32} {a b : Int} (hx : x.toInt = a) (hy : y.toInt = b) (h : ¬ x ≤ y) : ¬ a ≤ b := by rw [← hx, ← hy]; exact fun q => h (Int32.le_iff_toInt_le.mpr q)
theorem zt_eq {x y : Int32} {a b : Int} (hx : x.toInt = a) (hy : y.toInt = b) (h : x = y) : a = b := by rw [← hx, ← hy, h]
theorem zt_ne {x y : Int32} {a b : Int} (hx : x.toInt = a) (hy : y.toInt = b) (h : ¬ x = y) : ¬ a = b := by rw [← hx, ← hy]; exact fun q => h (Int32.toInt_inj.mp q)
theorem zu_add {x y : Int64} {a b : Int} (hx : x.toInt = a) (hy : y.toInt = b) (h1 : -9223372036854775808 ≤ a + b) (h2 : a + b ≤ 9223372036854775807) : (x + y).toInt = a + b := by
  rw [Int64.toInt_add, hx, hy]; exact Int.bmod_eq_of_le (by omega) (by omega)
theorem zu_sub {x y : Int64} {a b : Int} (hx : x.toInt = a) (hy : y.toInt = b) (h1 : -9223372036854775808 ≤ a - b) (h2 : a - b ≤ 9223372036854775807) : (x - y).toInt = a - b := by
  rw [Int64.toInt_sub, hx, hy]; exact Int.bmod_eq_of_le (by omega) (by omega)
theorem zu_mul {x y : Int64} {a b q : Int} (hx : x.toInt = a) (hy : y.toInt = b) (hq : a * b = q) (h1 : -9223372036854775808 ≤ q) (h2 : q ≤ 9223372036854775807) : (x * y).toInt = q := by
  rw [Int64.toInt_mul, hx, hy, hq]; exact Int.bmod_eq_of_le (by omega) (by omega)
theorem zu_neg {x : Int64} {a : Int} (hx : x.toInt = a) (h1 : -9223372036854775807 ≤ a) (h2 : a ≤ 9223372036854775807) : (-x).toInt = -a := by
  rw [Int64.toInt_neg, hx]; exact Int.bmod_eq_of_le (by omega) (by omega)
theorem zu_i2l {x : Int32} {a : Int} (hx : x.toInt = a) : x.toInt64.toInt = a := by rw [Int32.toInt_toInt64]; exact hx
theorem tdm {a b : Int} (h0 : 0 ≤ a) (h1 : 1 ≤ b) : 0 ≤ a.tdiv b * b ∧ a.tdiv b * b ≤ a ∧ a - a.tdiv b * b < b ∧ 0 ≤ a.tdiv b ∧ a.tdiv b ≤ a := by
  rw [Int.tdiv_eq_ediv_of_nonneg h0]
  have e := Int.emod_def a b
  have e1 := Int.emod_nonneg a (show b ≠ 0 by omega)
  have e2 := Int.emod_lt_of_pos a (show 0 < b by omega)
  have e3 : 0 ≤ a / b := Int.ediv_nonneg h0 (by omega)
  have e4 : a / b * b = b * (a / b) := Int.mul_comm _ _
  have e5 : a / b ≤ a := Int.ediv_le_self b h0
  have e6 : 0 ≤ a / b * b := Int.mul_nonneg e3 (by omega)
  omega
theorem zt_rem {x y : Int32} {a b : Int} (hx : x.toInt = a) (hy : y.toInt = b) (h0 : 0 ≤ a) (h1 : 1 ≤ b) : (x - x / y * y).toInt = a % b := by
  have hd := zt_div hx hy h0 h1
  have hb := x.toInt_lt
  obtain ⟨m1, m2, m3, m4, m5⟩ := tdm h0 h1
  rw [Int.tdiv_eq_ediv_of_nonneg h0] at m1 m2 m3 m4 m5
  have hm := zt_mul hd hy rfl (by omega) (by omega)
  have hs := zt_sub hx hm (by omega) (by omega)
  rw [hs, Int.emod_def, Int.mul_comm b]
theorem zu_rem {x y : Int64} {a b : Int} (hx : x.toInt = a) (hy : y.toInt = b) (h1 : 1 ≤ b) : -b < (x - x / y * y).toInt ∧ (x - x / y * y).toInt < b ∧ (0 ≤ a → 0 ≤ (x - x / y * y).toInt) := by
  have hb := x.toInt_lt
  have hb2 := x.le_toInt
  have hd : (x / y).toInt = a.tdiv b := by
    rw [Int64.toInt_div_of_ne_right _ _ (fun q => by rw [q] at hy; have : (-1 : Int64).toInt = -1 := by decide +kernel
                                                     omega), hx, hy]
  by_cases h0 : 0 ≤ a
  · obtain ⟨m1, m2, m3, m4, m5⟩ := tdm h0 h1
    have hm := zu_mul hd hy rfl (by omega) (by omega)
    have hs := zu_sub hx hm (by omega) (by omega)
    rw [hs]; omega
  · have e : a.tdiv b = -((-a).tdiv b) := by rw [Int.neg_tdiv, Int.neg_neg]
    obtain ⟨m1, m2, m3, m4, m5⟩ := tdm (a := -a) (b := b) (by omega) h1
    have e2 : a.tdiv b * b = -((-a).tdiv b * b) := by rw [e, Int.neg_mul]
    have hm := zu_mul hd hy rfl (by omega) (by omega)
    have hs := zu_sub hx hm (by omega) (by omega)
    rw [hs, e2]; omega
theorem zt_in {x : Int32} {a : Int} {n : Nat} (hx : x.toInt = a) (h1 : 0 ≤ a) (h2 : a < n) : vp_in x n := vp_in_iff.mpr (by rw [hx]; exact ⟨h1, h2⟩)
theorem zt_cmp {x y : Int64} {a b : Int} (hx : x.toInt = a) (hy : y.toInt = b) : ((lg_cmp x y).toInt = 1 ∧ b < a) ∨ ((lg_cmp x y).toInt = 0 ∧ a = b) ∨ ((lg_cmp x y).toInt = -1 ∧ a < b) := by
  unfold lg_cmp
  rw [← hx, ← hy]
  by_cases h : x > y
  · rw [if_pos h]; exact Or.inl ⟨by decide +kernel, Int64.lt_iff_toInt_lt.mp h⟩
  · rw [if_neg h]
    by_cases h2 : x = y
    · rw [if_pos h2]; exact Or.inr (Or.inl ⟨by decide +kernel, by rw [h2]⟩)
    · rw [if_neg h2]
      refine Or.inr (Or.inr ⟨by decide +kernel, ?_⟩)
      have h3 : ¬ y.toInt < x.toInt := fun q => h (Int64.lt_iff_toInt_lt.mpr q)
      have h4 : ¬ x.toInt = y.toInt := fun q => h2 (Int64.toInt_inj.mp q)
      omega
/-- a code of an array: its cells lie in the store -/
abbrev cOk (c : Int64) : Prop := 0 ≤ c.toInt ∧ c.toInt % 1024 + c.toInt / 1024 ≤ 160
/-- a double's bits as a number with a sign: the order of doubles -/
abbrev dk (x : UInt64) : Int := FP.Core.dkey x
abbrev dN (x : UInt64) : Prop := -9218868437227405312 ≤ dk x ∧ dk x ≤ 9218868437227405312
/-- a double that is no NaN and not infinite -/
abbrev dF (x : UInt64) : Prop := -9218868437227405312 < dk x ∧ dk x < 9218868437227405312
/-- a double of the stack: small enough -/
abbrev dB (x : UInt64) : Prop := -4899916394579099648 < dk x ∧ dk x < 4899916394579099648
theorem dk_abs (a : UInt64) : a.toNat % 2 ^ 63 = (dk a).natAbs := by
  have h := a.toNat_lt
  unfold dk FP.Core.dkey
  split <;> omega
theorem dN_iff {a : UInt64} : FP.Core.val64 a ≠ .nan ↔ dN a := by
  rw [FP.Core.ne_nan]
  have h := dk_abs a
  unfold dN
  omega
theorem dF_iff {a : UInt64} : FP.Core.DFin a ↔ dF a := by
  rw [FP.Core.fin_bits]
  have h := dk_abs a
  unfold dF
  omega
theorem zvf_of {r : UInt64} (h : FP.Core.val64 r ≠ .nan) : vf_n64 r := by
  unfold vf_n64
  rw [UInt64.le_iff_toNat_le, UInt64.toNat_and]
  have hm : (0x7fffffffffffffff : UInt64).toNat = 2 ^ 63 - 1 := by decide +kernel
  have h7 : (0x7ff0000000000000 : UInt64).toNat = 2047 * 4503599627370496 := by decide +kernel
  rw [hm, Nat.and_two_pow_sub_one_eq_mod, h7]
  have hlt : r.toNat < 2 ^ 64 := r.toNat_lt
  rcases Nat.lt_or_ge (2047 * 4503599627370496) (r.toNat % 2 ^ 63) with q | q
  · exfalso
    apply h
    have hE : FP.Core.fieldE FP.Core.b64 r.toNat = FP.Core.b64.exps - 1 := by
      have e1 : FP.Core.b64.exps = 2048 := by decide +kernel
      have e2 : FP.Core.b64.tails = 4503599627370496 := by decide +kernel
      unfold FP.Core.fieldE
      rw [e1, e2]
      omega
    have hT : ¬ FP.Core.fieldT FP.Core.b64 r.toNat = 0 := by
      have e2 : FP.Core.b64.tails = 4503599627370496 := by decide +kernel
      unfold FP.Core.fieldT
      rw [e2]
      omega
    show FP.Core.decode FP.Core.b64 r.toNat = .nan
    unfold FP.Core.decode
    rw [if_pos hE, if_neg hT]
  · exact q
theorem dN_of {a : UInt64} (h : FP.Core.dIsNaN a = false) : dN a := dN_iff.mp ((FP.Core.notNaN_iff a).mp h)
theorem dN_to {a : UInt64} (h : dN a) : FP.Core.dIsNaN a = false := (FP.Core.notNaN_iff a).mpr (dN_iff.mpr h)
theorem vf_N {a : UInt64} (h : dN a) : vf_n64 a := zvf_of (dN_iff.mpr h)
theorem z_clt {a b : Int} (h : a < b) : compare a b = .lt := by simp [compare, compareOfLessAndEq, h]
theorem z_ceq {a b : Int} (h : a = b) : compare a b = .eq := by subst h; simp [compare, compareOfLessAndEq]
theorem z_cgt {a b : Int} (h : b < a) : compare a b = .gt := by
  have h1 : ¬ a < b := by omega
  have h2 : ¬ a = b := by omega
  simp [compare, compareOfLessAndEq, h1, h2]
theorem z_ceq' {a b : Int} (h : compare a b = .eq) : a = b := by
  rcases Int.lt_trichotomy a b with q | q | q
  · rw [z_clt q] at h; cases h
  · exact q
  · rw [z_cgt q] at h; cases h
section ZD
variable {a b : UInt64}
theorem zd_add (ha : dF a) (hb : dF b) : dN (FP.dadd a b) := dN_of (FP.Core.dadd_out ((dF_iff.mpr ha).notNaN) (dF_iff.mpr hb))
theorem zd_sub (ha : dF a) (hb : dF b) : dN (FP.dsub a b) := dN_of (FP.Core.dsub_out ((dF_iff.mpr ha).notNaN) (dF_iff.mpr hb))
theorem zd_mul (ha : dF a) (hb : dF b) : dN (FP.dmul a b) := dN_of (FP.Core.dmul_out (dF_iff.mpr ha) (dF_iff.mpr hb))
theorem zd_div (ha : dF a) (hb : dF b) (hz : ¬ dk b = 0) : dN (FP.ddiv a b) := by
  refine dN_of (FP.Core.ddiv_out ((dF_iff.mpr ha).notNaN) (dF_iff.mpr hb) (fun q => hz ?_))
  have h := FP.Core.dcmp_key (a := b) (b := 0) (dN_iff.mpr ⟨by omega, by omega⟩) (dN_iff.mpr (by decide +kernel))
  rw [FP.Core.zero_iff.mpr q] at h
  have h2 := z_ceq' (Option.some.inj h).symm
  rw [show FP.Core.dkey 0 = 0 by decide +kernel] at h2
  exact h2
theorem dB_iff {a : UInt64} : a.toNat % 2 ^ 63 < 1088 * 2 ^ 52 ↔ dB a := by
  have h := dk_abs a
  unfold dB
  omega
theorem zd_l2d (x : Int64) : dB (FP.l2d x) := dB_iff.mp (FP.Core.l2d_mag x)
theorem zd_i2d (x : Int32) : dB (FP.i2d x) := dB_iff.mp (by have := FP.Core.i2d_mag x; show (FP.Core.i2d x).toNat % 2 ^ 63 < 1088 * 2 ^ 52; omega)
theorem zd_addB (ha : dB a) (hb : dB b) : dF (FP.dadd a b) := by
  have h := FP.Core.dadd_mag (dB_iff.mpr ha) (dB_iff.mpr hb) (by decide)
  exact dF_iff.mp (FP.Core.fin_of_lt h (by decide))
theorem zd_subB (ha : dB a) (hb : dB b) : dF (FP.dsub a b) := by
  have h := FP.Core.dsub_mag (dB_iff.mpr ha) (dB_iff.mpr hb) (by decide)
  exact dF_iff.mp (FP.Core.fin_of_lt h (by decide))
theorem zd_cmp {op : CmpOp} (ha : dN a) (hb : dN b) : ((Op.cmpValue (FP.dcmp a b) op).toInt = 1 ∧ dk b < dk a) ∨ ((Op.cmpValue (FP.dcmp a b) op).toInt = 0 ∧ dk a = dk b) ∨ ((Op.cmpValue (FP.dcmp a b) op).toInt = -1 ∧ dk a < dk b) := by
  have h : FP.dcmp a b = some (compare (dk a) (dk b)) := FP.Core.dcmp_key (dN_iff.mpr ha) (dN_iff.mpr hb)
  rw [h]
  rcases Int.lt_trichotomy (dk a) (dk b) with q | q | q
  · rw [z_clt q]; exact Or.inr (Or.inr ⟨by cases op <;> decide +kernel, q⟩)
  · rw [z_ceq q]; exact Or.inr (Or.inl ⟨by cases op <;> decide +kernel, q⟩)
  · rw [z_cgt q]; exact Or.inl ⟨by cases op <;> decide +kernel, q⟩
end ZD
def vOk (kd : Int32) (cd : Int64) (rl : UInt64) : Prop := (0 ≤ kd.toInt ∧ kd.toInt ≤ 13 ∧ ¬ kd.toInt = 8 ∧ ¬ kd.toInt = 9 ∧ ¬ kd.toInt = 10 ∧ ¬ kd.toInt = 12) ∧ (kd.toInt = 0 → -2147483648 ≤ cd.toInt ∧ cd.toInt ≤ 2147483647) ∧ ((kd.toInt = 5 ∨ kd.toInt = 13) → cOk cd) ∧ (kd.toInt = 6 → 0 ≤ cd.toInt ∧ cd.toInt ≤ 6) ∧ dB rl
section VK
variable {kd : Int32} {cd : Int64} {rl : UInt64}
theorem vk_rng (h : vOk kd cd rl) : 0 ≤ kd.toInt ∧ kd.toInt ≤ 13 := ⟨h.1.1, h.1.2.1⟩
theorem vk_int (h : vOk kd cd rl) (q : kd.toInt = 0) : -2147483648 ≤ cd.toInt ∧ cd.toInt ≤ 2147483647 := h.2.1 q
theorem vk_arr (h : vOk kd cd rl) (q : kd.toInt = 5 ∨ kd.toInt = 13) : cOk cd := h.2.2.1 q
theorem vk_ar8 (h : vOk kd cd rl) (q : kd.toInt % 8 = 5) : cOk cd := h.2.2.1 (by have := h.1; omega)
theorem vk_in8 (h : vOk kd cd rl) (q : kd.toInt % 8 = 0) : kd.toInt = 0 ∧ -2147483648 ≤ cd.toInt ∧ cd.toInt ≤ 2147483647 := by
  have q2 : kd.toInt = 0 := by have := h.1; omega
  exact ⟨q2, h.2.1 q2⟩
theorem vk_dict (h : vOk kd cd rl) (q : kd.toInt % 8 = 6) : 0 ≤ cd.toInt ∧ cd.toInt ≤ 6 := h.2.2.2.1 (by have := h.1; omega)
theorem vk_real (h : vOk kd cd rl) : dB rl := h.2.2.2.2
theorem vO_R (h : vOk kd cd rl) {r : UInt64} (q : dB r) : vOk kd cd r := ⟨h.1, h.2.1, h.2.2.1, h.2.2.2.1, q⟩
theorem vO_int (h : -2147483648 ≤ cd.toInt ∧ cd.toInt ≤ 2147483647) : vOk 0 cd 0 := by
  have e : (0 : Int32).toInt = 0 := by decide +kernel
  exact ⟨by omega, fun _ => h, fun q => by omega, fun q => by omega, by decide +kernel⟩
theorem vO_of {k : Int32} (n : Int) (e : k.toInt = n) (h : n = 1 ∨ n = 2 ∨ n = 3 ∨ n = 4 ∨ n = 7 ∨ n = 11) : vOk k cd 0 :=
  ⟨by omega, fun q => by omega, fun q => by omega, fun q => by omega, by decide +kernel⟩
theorem vO_arr {k : Int32} (n : Int) (e : k.toInt = n) (h : n = 5 ∨ n = 13) (hc : cOk cd) : vOk k cd 0 :=
  ⟨by omega, fun q => by omega, fun q => hc, fun q => by omega, by decide +kernel⟩
theorem vO_dict {k : Int32} (e : k.toInt = 6) (hc : 0 ≤ cd.toInt ∧ cd.toInt ≤ 6) : vOk k cd 0 :=
  ⟨by omega, fun q => by omega, fun q => by omega, fun q => hc, by decide +kernel⟩
end VK
/-- one frame -/
abbrev fOk (what : Int32) (array : Int64) (far : Int32) (value grows last : Int64) : Prop := 1 ≤ what.toInt ∧ what.toInt ≤ 7 ∧ cOk array ∧ (what.toInt = 1 ∨ what.toInt = 6 → 0 ≤ far.toInt) ∧ (what.toInt = 6 → cOk last) ∧
  (what.toInt = 3 → -2147483648 ≤ grows.toInt ∧ grows.toInt ≤ 2147483647 ∧ -2147483648 ≤ last.toInt ∧ last.toInt ≤ 2147483647 ∧ (0 ≤ grows.toInt → -2147483648 ≤ value.toInt) ∧ (grows.toInt < 0 → value.toInt ≤ 2147483647))
/-- how many of the first n frames are runs of procedures and names -/
def runs (what : Nat → Int32) : Nat → Nat
  | 0 => 0
  | n + 1 => runs what n + (if (what n).toInt ≤ 2 then 1 else 0)
/-- the frames: each is right; of two that lie upon each other one is a run -/
abbrev FrOk (frames under : Int32) (what : Nat → Int32) (array : Nat → Int64) (far : Nat → Int32) (value grows last : Nat → Int64) : Prop :=
  (0 ≤ frames.toInt ∧ frames.toInt ≤ 17) ∧ (∀ k, k < frames.toInt.toNat → fOk (what k) (array k) (far k) (value k) (grows k) (last k)) ∧
  (under.toInt = runs what frames.toInt.toNat ∧ under.toInt ≤ 8) ∧ ∀ k, k + 1 < frames.toInt.toNat → (what k).toInt ≤ 2 ∨ (what (k + 1)).toInt ≤ 2
/-- the page's numbers: the gray and the points are no NaN, and small -/
abbrev inkOk (gray : UInt32) (across along : Nat → UInt64) : Prop := FP.Core.fIsNaN gray = false ∧ ∀ k, k < 30 → (-4696837146684686336 ≤ dk (across k) ∧ dk (across k) ≤ 4696837146684686336) ∧ -4696837146684686336 ≤ dk (along k) ∧ dk (along k) ≤ 4696837146684686336
theorem zt_rng (x : Int32) : -2147483648 ≤ x.toInt ∧ x.toInt ≤ 2147483647 := by
  have h1 := x.le_toInt
  have h2 := x.toInt_lt
  omega
theorem zr_cmp {x : Int32} {a b : Int64} (e : x = lg_cmp a b) {p q : Int} (hx : a.toInt = p) (hy : b.toInt = q) : (x.toInt = 1 ∧ q < p) ∨ (x.toInt = 0 ∧ p = q) ∨ (x.toInt = -1 ∧ p < q) := by rw [e]; exact zt_cmp hx hy
theorem zr_dcmp {x : Int32} {op : CmpOp} {a b : UInt64} (e : x = Op.cmpValue (FP.dcmp a b) op) (ha : dN a) (hb : dN b) : (x.toInt = 1 ∧ dk b < dk a) ∨ (x.toInt = 0 ∧ dk a = dk b) ∨ (x.toInt = -1 ∧ dk a < dk b) := by rw [e]; exact zd_cmp ha hb
theorem upd_s {f : Nat → Int32} {k : Nat} {x : Int32} : upd f k x k = x := by unfold upd; exact if_pos rfl
theorem updL_s {f : Nat → Int64} {k : Nat} {x : Int64} : vp_updL f k x k = x := by unfold vp_updL; exact if_pos rfl
theorem vOk_upd {f : Nat → Int32} {g : Nat → Int64} {h : Nat → UInt64} {i : Nat} {a : Int32} {b : Int64} {c : UInt64} (H : ∀ k, k < 1300 → vOk (f k) (g k) (h k)) (hv : vOk a b c) : ∀ k, k < 1300 → vOk (upd f i a k) (vp_updL g i b k) (vf_upd h i c k) := by
  intro k hk
  by_cases e : k = i
  · subst e
    unfold upd vp_updL vf_upd
    rw [if_pos rfl, if_pos rfl, if_pos rfl]
    exact hv
  · unfold upd vp_updL vf_upd
    rw [if_neg e, if_neg e, if_neg e]
    exact H k hk
theorem vOk_updR {f : Nat → Int32} {g : Nat → Int64} {h : Nat → UInt64} {i : Nat} {c : UInt64} (H : ∀ k, k < 1300 → vOk (f k) (g k) (h k)) (hv : dB c) : ∀ k, k < 1300 → vOk (f k) (g k) (vf_upd h i c k) := by
  intro k hk
  by_cases e : k = i
  · subst e
    unfold vf_upd
    rw [if_pos rfl]
    exact vO_R (H k hk) hv
  · unfold vf_upd
    rw [if_neg e]
    exact H k hk
theorem dF_0 : dB 0 := by decide +kernel
theorem vOk_updK {f : Nat → Int32} {g : Nat → Int64} {h : Nat → UInt64} {i : Nat} {a : Int32} (H : ∀ k, k < 1300 → vOk (f k) (g k) (h k)) (hv : vOk a (g i) (h i)) : ∀ k, k < 1300 → vOk (upd f i a k) (g k) (h k) := by
  intro k hk
  by_cases e : k = i
  · subst e
    unfold upd
    rw [if_pos rfl]
    exact hv
  · unfold upd
    rw [if_neg e]
    exact H k hk
theorem zc_mk {x : Int64} {a n : Int} (e : x.toInt = a + 1024 * n) (h : 0 ≤ a ∧ 0 ≤ n ∧ a + n ≤ 160) : cOk x := by
  unfold cOk
  rw [e]
  omega
theorem rm_up {m r : Nat → Int32} {i : Nat} {x : Int32} (H : ∀ k, k < 28 → 0 ≤ (m k).toInt ∧ (m k).toInt ≤ (r k).toInt ∧ (r k).toInt ≤ (if k % 7 = 0 then 20 else 10)) (hv : 0 ≤ x.toInt ∧ x.toInt ≤ (r i).toInt) : ∀ k, k < 28 → 0 ≤ (upd m i x k).toInt ∧ (upd m i x k).toInt ≤ (r k).toInt ∧ (r k).toInt ≤ (if k % 7 = 0 then 20 else 10) := by
  intro k hk
  by_cases e : k = i
  · subst e
    rw [upd_s]
    exact ⟨hv.1, hv.2, (H k hk).2.2⟩
  · unfold upd
    rw [if_neg e]
    exact H k hk
theorem rm_new {m r : Nat → Int32} {i : Nat} {x y : Int32} (H : ∀ k, k < 28 → 0 ≤ (m k).toInt ∧ (m k).toInt ≤ (r k).toInt ∧ (r k).toInt ≤ (if k % 7 = 0 then 20 else 10)) (hv : 0 ≤ y.toInt ∧ y.toInt ≤ x.toInt ∧ x.toInt ≤ 10) : ∀ k, k < 28 → 0 ≤ (upd m i y k).toInt ∧ (upd m i y k).toInt ≤ (upd r i x k).toInt ∧ (upd r i x k).toInt ≤ (if k % 7 = 0 then 20 else 10) := by
  intro k hk
  by_cases e : k = i
  · subst e
    rw [upd_s, upd_s]
    exact ⟨hv.1, hv.2.1, by split <;> omega⟩
  · unfold upd
    rw [if_neg e, if_neg e]
    exact H k hk
theorem rm_at {m r : Nat → Int32} (H : ∀ k, k < 28 → 0 ≤ (m k).toInt ∧ (m k).toInt ≤ (r k).toInt ∧ (r k).toInt ≤ (if k % 7 = 0 then 20 else 10)) {k : Nat} (hk : k < 28) : 0 ≤ (m k).toInt ∧ (m k).toInt ≤ (r k).toInt ∧ (r k).toInt ≤ 20 ∧ (¬ k = 0 → k < 7 → (r k).toInt ≤ 10) := by
  obtain ⟨h1, h2, h3⟩ := H k hk
  refine ⟨h1, h2, ?_, ?_⟩
  · split at h3 <;> omega
  · intro a b
    rw [if_neg (by omega)] at h3
    exact h3
theorem ar_up {f : Nat → Int32} {i N : Nat} {x : Int32} {lo hi : Int} (H : ∀ k, k < N → lo ≤ (f k).toInt ∧ (f k).toInt ≤ hi) (hv : lo ≤ x.toInt ∧ x.toInt ≤ hi) : ∀ k, k < N → lo ≤ (upd f i x k).toInt ∧ (upd f i x k).toInt ≤ hi := by
  intro k hk
  by_cases e : k = i
  · subst e
    rw [upd_s]
    exact hv
  · unfold upd
    rw [if_neg e]
    exact H k hk
/-- the patterns of the operators from 37 on -/
def ptab (k : Nat) : Int := [1, 9, 99, 999, 611, 6, 1, 7, 0, 49, 4, 74, 0, 9, 35, 355, 1115, 15, 5, 65, 0, 0, 9, 0, 0, 8, 2, 0, 22, 22, 0, 0, 0].getD k 0

/-- what holds between two calls -/
abbrev MI (S : MS) : Prop := (0 ≤ (f_size S).toInt ∧ (f_size S).toInt ≤ 40) ∧ (0 ≤ (f_taken S).toInt ∧ (f_taken S).toInt ≤ 160) ∧ (∀ k, k < 1300 → vOk ((a_kinds S) k) ((a_codes S) k) ((a_reals S) k)) ∧ (∀ k, k < 28 → 0 ≤ ((a_many S) k).toInt ∧ ((a_many S) k).toInt ≤ ((a_room S) k).toInt ∧ ((a_room S) k).toInt ≤ (if k % 7 = 0 then 20 else 10)) ∧ (∀ k, k < 6 → 0 ≤ ((a_dicts S) k).toInt ∧ ((a_dicts S) k).toInt ≤ 6) ∧ (1 ≤ (f_deep S).toInt ∧ (f_deep S).toInt ≤ 6) ∧ (0 ≤ (f_open S).toInt ∧ (f_open S).toInt ≤ 3) ∧ (∀ k, k < 3 → 0 ≤ ((a_cells S) k).toInt ∧ ((a_cells S) k).toInt ≤ 160) ∧ (0 ≤ (f_points S).toInt ∧ (f_points S).toInt ≤ 30) ∧ (∀ k, k < 30 → 0 ≤ ((a_part S) k).toInt ∧ ((a_part S) k).toInt ≤ 29) ∧ (0 ≤ (f_length S).toInt ∧ (f_length S).toInt ≤ 120) ∧ (0 ≤ (f_knows S).toInt ∧ (f_knows S).toInt ≤ 40) ∧ (1 ≤ (f_columns S).toInt ∧ (f_columns S).toInt ≤ 24 ∧ 1 ≤ (f_rows S).toInt ∧ (f_rows S).toInt ≤ 16) ∧ (∀ k, k < 120 → 0 ≤ ((a_text S) k).toInt ∧ ((a_text S) k).toInt ≤ 127) ∧ (∀ k, k < 33 → ((a_patterns S) k).toInt = ptab k) ∧ (0 ≤ (f_steps S).toInt ∧ (f_steps S).toInt ≤ (f_fuel S).toInt ∧ (f_fuel S).toInt ≤ 500) ∧ (FrOk (f_frames S) (f_under S) (a_what S) (a_array S) (a_far S) (a_value S) (a_grows S) (a_last S)) ∧ (inkOk (f_gray S) (a_across S) (a_along S))
def kA (S u : MS) : Prop := f_length u = f_length S ∧ f_at u = f_at S ∧ a_text u = a_text S ∧ f_fuel u = f_fuel S ∧ f_steps u = f_steps S ∧ f_pending u = f_pending S ∧ f_level u = f_level S ∧ a_starts u = a_starts S
theorem kA_r (S : MS) : kA S S := ⟨rfl, rfl, rfl, rfl, rfl, rfl, rfl, rfl⟩
theorem kA_t {S u v : MS} (h : kA S u) (g : kA u v) : kA S v := ⟨(g.1).trans h.1, (g.2.1).trans h.2.1, (g.2.2.1).trans h.2.2.1, (g.2.2.2.1).trans h.2.2.2.1, (g.2.2.2.2.1).trans h.2.2.2.2.1, (g.2.2.2.2.2.1).trans h.2.2.2.2.2.1, (g.2.2.2.2.2.2.1).trans h.2.2.2.2.2.2.1, (g.2.2.2.2.2.2.2).trans h.2.2.2.2.2.2.2⟩
def kF (S u : MS) : Prop := f_frames u = f_frames S ∧ f_under u = f_under S ∧ a_what u = a_what S ∧ a_array u = a_array S ∧ a_far u = a_far S ∧ a_value u = a_value S ∧ a_grows u = a_grows S ∧ a_last u = a_last S
theorem kF_r (S : MS) : kF S S := ⟨rfl, rfl, rfl, rfl, rfl, rfl, rfl, rfl⟩
theorem kF_t {S u v : MS} (h : kF S u) (g : kF u v) : kF S v := ⟨(g.1).trans h.1, (g.2.1).trans h.2.1, (g.2.2.1).trans h.2.2.1, (g.2.2.2.1).trans h.2.2.2.1, (g.2.2.2.2.1).trans h.2.2.2.2.1, (g.2.2.2.2.2.1).trans h.2.2.2.2.2.1, (g.2.2.2.2.2.2.1).trans h.2.2.2.2.2.2.1, (g.2.2.2.2.2.2.2).trans h.2.2.2.2.2.2.2⟩
def kT (S u : MS) : Prop := f_length u = f_length S ∧ f_at u = f_at S ∧ a_text u = a_text S ∧ f_pending u = f_pending S ∧ f_level u = f_level S ∧ a_starts u = a_starts S ∧ f_fuel u = f_fuel S
theorem kT_r (S : MS) : kT S S := ⟨rfl, rfl, rfl, rfl, rfl, rfl, rfl⟩
theorem kT_t {S u v : MS} (h : kT S u) (g : kT u v) : kT S v := ⟨(g.1).trans h.1, (g.2.1).trans h.2.1, (g.2.2.1).trans h.2.2.1, (g.2.2.2.1).trans h.2.2.2.1, (g.2.2.2.2.1).trans h.2.2.2.2.1, (g.2.2.2.2.2.1).trans h.2.2.2.2.2.1, (g.2.2.2.2.2.2).trans h.2.2.2.2.2.2⟩
theorem kT_A {S u : MS} (h : kA S u) : kT S u := ⟨h.1, h.2.1, h.2.2.1, h.2.2.2.2.2.1, h.2.2.2.2.2.2.1, h.2.2.2.2.2.2.2, h.2.2.2.1⟩
