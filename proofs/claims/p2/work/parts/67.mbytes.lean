/-! ROWS: the bytes of a long -/
/-- the byte k of eight, from the lowest -/
def byM (x : Int64) (k : Nat) : Int32 := ((x >>> ((nI (8 * k)).toInt64 &&& 63)) &&& 255).toInt32
def cntB (f : Nat → Int32) : Nat → Int
  | 0 => 0
  | n + 1 => cntB f n + (if (f n).toInt = 0 then 0 else 1)
def okZ (b : Int) : Prop := b = 0 ∨ (32 ≤ b ∧ b ≤ 126)
def okTo (f : Nat → Int32) (n : Nat) : Prop := ∀ j, j < n → okZ (f j).toInt
/-- eight can be written behind len chars -/
def wrP (f : Nat → Int32) (len : Int) : Prop := okTo f 8 ∧ len + cntB f 8 ≤ 120
section CN
variable {f : Nat → Int32} {n m : Nat} {c c2 b : Int}
theorem cn_0 (h : c = 0) (hm : m = 0) : c = cntB f m := by subst hm; exact h
theorem cn_up (h : c = cntB f n) (hm : m = n + 1) (hb : b = (f n).toInt) (hc : (b = 0 → c2 = c) ∧ (¬ b = 0 → c2 = c + 1)) : c2 = cntB f m := by
  subst hm
  show c2 = cntB f n + (if (f n).toInt = 0 then 0 else 1)
  by_cases q : b = 0
  · rw [if_pos (by omega), hc.1 q, h]; omega
  · rw [if_neg (by omega), hc.2 q, h]
theorem cn_b (f : Nat → Int32) : ∀ n, 0 ≤ cntB f n ∧ cntB f n ≤ n := by
  intro n
  induction n with
  | zero => exact ⟨Int.le_refl _, Int.le_refl _⟩
  | succ n ih =>
    show 0 ≤ cntB f n + (if (f n).toInt = 0 then 0 else 1) ∧ cntB f n + (if (f n).toInt = 0 then 0 else 1) ≤ _
    split <;> omega
theorem cn_le (f : Nat → Int32) (n : Nat) : ∀ d, cntB f n ≤ cntB f (n + d) := by
  intro d
  induction d with
  | zero => exact Int.le_refl _
  | succ d ih =>
    show cntB f n ≤ cntB f (n + d) + (if (f (n + d)).toInt = 0 then 0 else 1)
    split <;> omega
theorem cn_mono (f : Nat → Int32) {n m : Nat} (h : n ≤ m) : cntB f n ≤ cntB f m := by
  have q := cn_le f n (m - n)
  rw [show n + (m - n) = m by omega] at q
  exact q
theorem ok_0 (hm : m = 0) : okTo f m := fun j hj => absurd hj (by omega)
theorem ok_s (h : okTo f n) (hm : m = n + 1) (hb : b = (f n).toInt) (hz : okZ b) : okTo f m := by
  intro j hj
  by_cases e : j < n
  · exact h j e
  · rw [show j = n by omega, ← hb]
    exact hz
theorem wr_1 {len : Int} (hn : n < 8) (hb : b = (f n).toInt) (hz : ¬ okZ b) : ¬ wrP f len := fun q => hz (by rw [hb]; exact q.1 n hn)
theorem wr_2 {len : Int} (hn : n = 8) (hc : c = cntB f n) (h : 120 < len + c) : ¬ wrP f len := fun q => by
  have h2 := q.2
  subst hn
  rw [← hc] at h2
  omega
theorem by_is {x x2 x3 : Int64} {x1 x4 : Int32} {a : Int} (e2 : x2 = x >>> (x1.toInt64 &&& 63)) (e3 : x3 = x2 &&& 255) (e4 : x4 = x3.toInt32) (h1 : x1.toInt = 8 * a) (h0 : 0 ≤ a) (h8 : a < 8) : x4.toInt = (byM x a.toNat).toInt := by
  have e1 : x1 = nI (8 * a.toNat) := Int32.toInt_inj.mp (by rw [h1, nI_toInt (by omega)]; omega)
  rw [e4, e3, e2, e1]
  rfl
theorem zt_nc {x y : Int32} (e : y = (x.toUInt32 % 65536).toInt32) (h : 0 ≤ x.toInt ∧ x.toInt ≤ 127) : (vp_nar .char y).toInt = x.toInt := by
  have hq : ∀ q : Fin 128, vp_nar .char (((nI q.val).toUInt32 % 65536).toInt32) = nI q.val := by decide +kernel
  have ex : x = nI x.toInt.toNat := Int32.toInt_inj.mp (by rw [nI_toInt (by omega)]; omega)
  have h2 := hq ⟨x.toInt.toNat, by omega⟩
  rw [e]
  rw [← ex] at h2
  exact congrArg Int32.toInt h2
end CN
