def kR (S u : MS) : Prop := f_length u = f_length S ∧ a_text u = a_text S ∧ f_level u = f_level S ∧ f_pending u = f_pending S ∧ a_starts u = a_starts S ∧ f_fuel u = f_fuel S ∧ f_steps u = f_steps S
theorem kR_r (S : MS) : kR S S := ⟨rfl, rfl, rfl, rfl, rfl, rfl, rfl⟩
theorem kR_t {S u v : MS} (h : kR S u) (g : kR u v) : kR S v := ⟨(g.1).trans h.1, (g.2.1).trans h.2.1, (g.2.2.1).trans h.2.2.1, (g.2.2.2.1).trans h.2.2.2.1, (g.2.2.2.2.1).trans h.2.2.2.2.1, (g.2.2.2.2.2.1).trans h.2.2.2.2.2.1, (g.2.2.2.2.2.2).trans h.2.2.2.2.2.2⟩
def kC (S u : MS) : Prop := f_length u = f_length S ∧ a_text u = a_text S ∧ f_fuel u = f_fuel S ∧ f_steps u = f_steps S
theorem kC_r (S : MS) : kC S S := ⟨rfl, rfl, rfl, rfl⟩
theorem kC_t {S u v : MS} (h : kC S u) (g : kC u v) : kC S v := ⟨(g.1).trans h.1, (g.2.1).trans h.2.1, (g.2.2.1).trans h.2.2.1, (g.2.2.2).trans h.2.2.2⟩
theorem kR_A {S u : MS} (h : kA S u) : kR S u := ⟨h.1, h.2.2.1, h.2.2.2.2.2.2.1, h.2.2.2.2.2.1, h.2.2.2.2.2.2.2, h.2.2.2.1, h.2.2.2.2.1⟩
theorem kC_A {S u : MS} (h : kA S u) : kC S u := ⟨h.1, h.2.2.1, h.2.2.2.1, h.2.2.2.2.1⟩
theorem kC_R {S u : MS} (h : kR S u) : kC S u := ⟨h.1, h.2.1, h.2.2.2.2.2.1, h.2.2.2.2.2.2⟩
theorem dM_dB {K : Nat} {x : UInt64} (h : dM K x) (q : K ≤ 1088) : dB x := dB_iff.mp (dM_le h q)
theorem dM_div {a b : UInt64} {K L : Nat} (ha : dM K a) (hb : L * 2 ^ 52 ≤ b.toNat % 2 ^ 63 ∧ b.toNat % 2 ^ 63 < 2047 * 2 ^ 52) (hK : K ≤ 2047) (hL : 1 ≤ L) : dM (K + (1074 - 52 - 1) - L + 3) (FP.ddiv a b) := FP.Core.ddiv_mag ha hb.1 hb.2 hK hL
theorem dM_lo {b : UInt64} (h : 4621819117588971520 ≤ dk b ∧ dk b ≤ 4666723172467343360) : 1026 * 2 ^ 52 ≤ b.toNat % 2 ^ 63 ∧ b.toNat % 2 ^ 63 < 2047 * 2 ^ 52 := by
  have e := dk_abs b
  rw [e]
  omega
theorem dM_l30 {v : Int64} (h : 0 ≤ v.toInt ∧ v.toInt ≤ 1073741824) : dM 1055 (FP.l2d v) := by
  have h2 := FP.Core.fromInt_mag (FP.Core.toNat_l2d v) (j := 30) (K := 1053) (by omega) (by decide) (by decide)
  exact Nat.lt_of_le_of_lt h2 (by decide)
/-- n digits from p on -/
def digP (tx : Nat → Int32) (p n : Nat) : Prop := ∀ j, j < n → 48 ≤ (tx (p + j)).toInt ∧ (tx (p + j)).toInt ≤ 57
theorem dig_0 {tx : Nat → Int32} {p n : Nat} (h : n = 0) : digP tx p n := fun j hj => absurd hj (by omega)
theorem dig_s {tx : Nat → Int32} {p n n2 q : Nat} (h : digP tx p n) (hq : q = p + n) (hn : n2 = n + 1) (hc : 48 ≤ (tx q).toInt ∧ (tx q).toInt ≤ 57) : digP tx p n2 := by
  intro j hj
  by_cases e : j < n
  · exact h j e
  · rw [show p + j = q by omega]
    exact hc
theorem dig_at {tx : Nat → Int32} {p n j q : Nat} (h : digP tx p n) (hj : j < n) (hq : q = p + j) : 48 ≤ (tx q).toInt ∧ (tx q).toInt ≤ 57 := by rw [hq]; exact h j hj
/-- a number of n digits -/
def nuP (v : Int) (n : Nat) : Prop := n ≤ 9 ∧ 0 ≤ v ∧ v < 10 ^ n
theorem nu_0 {v : Int} {n : Nat} (h : v = 0) (hn : n = 0) : nuP v n := by subst h; subst hn; exact ⟨by decide, by decide, by decide⟩
theorem nu_b {v : Int} {n : Nat} (h : nuP v n) : 0 ≤ v ∧ v < 1000000000 := by
  refine ⟨h.2.1, Int.lt_of_lt_of_le h.2.2 ?_⟩
  have h4 : (10 : Int) ^ n = ((10 ^ n : Nat) : Int) := by simp
  have h5 : 10 ^ n ≤ 1000000000 := Nat.le_trans (Nat.pow_le_pow_right (by decide) h.1) (by decide)
  rw [h4]
  exact Int.ofNat_le.mpr h5
theorem nu_s {v w c : Int} {n n2 : Nat} (h : nuP v n) (hn : n2 = n + 1) (h9 : n < 9) (hc : 48 ≤ c ∧ c ≤ 57) (hw : w = 10 * v + c - 48) : nuP w n2 := by
  obtain ⟨h1, h2, h3⟩ := h
  refine ⟨by omega, by omega, ?_⟩
  rw [hn, Int.pow_succ]
  omega
/-- the begins of the open procedures -/
def stI (st : Nat → Int32) (lv pd : Int) : Prop := ∀ k : Nat, (k : Int) < lv → 0 ≤ (st k).toInt ∧ (st k).toInt ≤ pd ∧ ∀ j, j < k → (st j).toInt ≤ (st k).toInt
theorem st_0 {st : Nat → Int32} {lv pd : Int} (h : lv = 0) : stI st lv pd := fun k hk => absurd hk (by omega)
theorem st_up {st : Nat → Int32} {lv pd pd2 : Int} (h : stI st lv pd) (q : pd ≤ pd2) : stI st lv pd2 := fun k hk => ⟨(h k hk).1, by have := (h k hk).2.1; omega, (h k hk).2.2⟩
theorem st_push {st : Nat → Int32} {lv pd lv2 : Int} {i : Nat} {x : Int32} (h : stI st lv pd) (hi : (i : Int) = lv) (h2 : lv2 = lv + 1) (hx : x.toInt = pd) (hp : 0 ≤ pd) : stI (upd st i x) lv2 pd := by
  intro k hk
  by_cases e : k = i
  · subst e
    rw [upd_s, hx]
    refine ⟨hp, by omega, fun j hj => ?_⟩
    rw [updI_n hj]
    exact (h j (by omega)).2.1
  · have hk2 : k < i := by omega
    rw [updI_n hk2]
    refine ⟨(h k (by omega)).1, (h k (by omega)).2.1, fun j hj => ?_⟩
    rw [updI_n (by omega)]
    exact (h k (by omega)).2.2 j hj
theorem st_pop {st : Nat → Int32} {lv pd lv2 q : Int} {i : Nat} (h : stI st lv pd) (hi : (i : Int) = lv2) (h2 : lv2 = lv - 1) (h1 : 1 ≤ lv) (hq : q = (st i).toInt) : stI st lv2 q ∧ 0 ≤ q ∧ q ≤ pd := by
  have hh := h i (by omega)
  refine ⟨fun k hk => ⟨(h k (by omega)).1, ?_, (h k (by omega)).2.2⟩, by omega, by omega⟩
  rw [hq]
  exact hh.2.2 k (by omega)
