theorem pk_0 : pat 0 = 9 := by decide +kernel
theorem pk_1 : pat 1 = 99 := by decide +kernel
theorem pk_2 : pat 2 = 9 := by decide +kernel
theorem pk_3 : pat 3 = 1 := by decide +kernel
theorem pk_4 : pat 4 = 1 := by decide +kernel
theorem pk_5 : pat 5 = 11 := by decide +kernel
theorem pk_6 : pat 6 = 0 := by decide +kernel
theorem pk_7 : pat 7 = 0 := by decide +kernel
theorem pk_8 : pat 8 = 0 := by decide +kernel
theorem pk_9 : pat 9 = 0 := by decide +kernel
theorem pk_10 : pat 10 = 22 := by decide +kernel
theorem pk_11 : pat 11 = 22 := by decide +kernel
theorem pk_12 : pat 12 = 22 := by decide +kernel
theorem pk_13 : pat 13 = 22 := by decide +kernel
theorem pk_14 : pat 14 = 11 := by decide +kernel
theorem pk_15 : pat 15 = 11 := by decide +kernel
theorem pk_16 : pat 16 = 2 := by decide +kernel
theorem pk_17 : pat 17 = 2 := by decide +kernel
theorem pk_18 : pat 18 = 2 := by decide +kernel
theorem pk_19 : pat 19 = 2 := by decide +kernel
theorem pk_20 : pat 20 = 2 := by decide +kernel
theorem pk_21 : pat 21 = 0 := by decide +kernel
theorem pk_22 : pat 22 = 0 := by decide +kernel
theorem pk_23 : pat 23 = 99 := by decide +kernel
theorem pk_24 : pat 24 = 99 := by decide +kernel
theorem pk_25 : pat 25 = 22 := by decide +kernel
theorem pk_26 : pat 26 = 22 := by decide +kernel
theorem pk_27 : pat 27 = 22 := by decide +kernel
theorem pk_28 : pat 28 = 22 := by decide +kernel
theorem pk_29 : pat 29 = 99 := by decide +kernel
theorem pk_30 : pat 30 = 99 := by decide +kernel
theorem pk_31 : pat 31 = 9 := by decide +kernel
theorem pk_32 : pat 32 = 11 := by decide +kernel
theorem pk_33 : pat 33 = 9 := by decide +kernel
theorem pk_34 : pat 34 = 9 := by decide +kernel
theorem pk_35 : pat 35 = 9 := by decide +kernel
theorem pk_36 : pat 36 = 9 := by decide +kernel
theorem pk_37 : pat 37 = 1 := by decide +kernel
theorem pk_38 : pat 38 = 9 := by decide +kernel
theorem pk_39 : pat 39 = 99 := by decide +kernel
theorem pk_40 : pat 40 = 999 := by decide +kernel
theorem pk_41 : pat 41 = 611 := by decide +kernel
theorem pk_42 : pat 42 = 6 := by decide +kernel
theorem pk_43 : pat 43 = 1 := by decide +kernel
theorem pk_44 : pat 44 = 7 := by decide +kernel
theorem pk_45 : pat 45 = 0 := by decide +kernel
theorem pk_46 : pat 46 = 49 := by decide +kernel
theorem pk_47 : pat 47 = 4 := by decide +kernel
theorem pk_48 : pat 48 = 74 := by decide +kernel
theorem pk_49 : pat 49 = 0 := by decide +kernel
theorem pk_50 : pat 50 = 9 := by decide +kernel
theorem pk_51 : pat 51 = 35 := by decide +kernel
theorem pk_52 : pat 52 = 355 := by decide +kernel
theorem pk_53 : pat 53 = 1115 := by decide +kernel
theorem pk_54 : pat 54 = 15 := by decide +kernel
theorem pk_55 : pat 55 = 5 := by decide +kernel
theorem pk_56 : pat 56 = 65 := by decide +kernel
theorem pk_57 : pat 57 = 0 := by decide +kernel
theorem pk_58 : pat 58 = 0 := by decide +kernel
theorem pk_59 : pat 59 = 9 := by decide +kernel
theorem pk_60 : pat 60 = 0 := by decide +kernel
theorem pk_61 : pat 61 = 0 := by decide +kernel
theorem pk_62 : pat 62 = 8 := by decide +kernel
theorem pk_63 : pat 63 = 2 := by decide +kernel
theorem pk_64 : pat 64 = 0 := by decide +kernel
theorem pk_65 : pat 65 = 22 := by decide +kernel
theorem pk_66 : pat 66 = 22 := by decide +kernel
theorem pk_67 : pat 67 = 0 := by decide +kernel
theorem pk_68 : pat 68 = 0 := by decide +kernel
theorem pk_69 : pat 69 = 0 := by decide +kernel
theorem pk_70 : pat 70 = 0 := by decide +kernel
theorem pk_71 : pat 71 = 0 := by decide +kernel
theorem pat_rng {op : Int} (h : 0 ≤ op ∧ op ≤ 71) : 0 ≤ pat op ∧ pat op ≤ 1115 := by
  have h2 : ∀ k : Fin 72, 0 ≤ pat (k.val : Int) ∧ pat (k.val : Int) ≤ 1115 := by decide +kernel
  have h3 := h2 ⟨op.toNat, by omega⟩
  rw [show ((op.toNat : Nat) : Int) = op by omega] at h3
  exact h3
def ndP (p sz : Int) : Prop := (1 ≤ p → 1 ≤ sz) ∧ (10 ≤ p → 2 ≤ sz) ∧ (100 ≤ p → 3 ≤ sz) ∧ (1000 ≤ p → 4 ≤ sz)
def sufP (S : MS) (p : Int) (n : Nat) : Prop := ∀ j : Nat, j < n → suitP (p / 10 ^ j % 10) (a_kinds S ((f_size S).toInt - 1 - j).toNat).toInt
def opL (S : MS) (p t g k : Int) : Prop := (g = 0 ∨ g = 1) ∧ ∃ n : Nat, n ≤ 4 ∧ t = p / 10 ^ n ∧ k = (f_size S).toInt - 1 - n ∧ (g = 1 → sufP S p n)
def stP (S : MS) (g t k r : Int) : Prop := (r = 0 ∨ r = 1) ∧ (r = 1 → g = 1 ∧ suitP (t % 10) (a_kinds S k.toNat).toInt)
def opD (S : MS) (op : Int) : Prop := ndP (pat op) (f_size S).toInt ∧ ∃ n : Nat, pat op / 10 ^ n = 0 ∧ sufP S (pat op) n
section OP
variable {S : MS} {op p t g k t2 g2 k2 : Int}
theorem opL_0 (ht : t = p) (hg : g = 1) (hk : k = (f_size S).toInt - 1) : opL S p t g k :=
  ⟨Or.inr hg, 0, by omega, by omega, by omega, fun _ j hj => absurd hj (by omega)⟩
theorem p10 (n : Nat) (h : n ≤ 4) : (n = 0 ∧ (10 : Int) ^ n = 1) ∨ (n = 1 ∧ (10 : Int) ^ n = 10) ∨ (n = 2 ∧ (10 : Int) ^ n = 100) ∨ (n = 3 ∧ (10 : Int) ^ n = 1000) ∨ (n = 4 ∧ (10 : Int) ^ n = 10000) := by
  have h2 : n = 0 ∨ n = 1 ∨ n = 2 ∨ n = 3 ∨ n = 4 := by omega
  rcases h2 with q | q | q | q | q <;> subst q <;> simp
theorem opL_k (h : opL S p t g k) (ht : 0 < t) (hp : 0 ≤ p ∧ p ≤ 1115) (hn : ndP p (f_size S).toInt) : 0 ≤ k ∧ k ≤ (f_size S).toInt - 1 := by
  obtain ⟨_, n, h1, h2, h3, _⟩ := h
  unfold ndP at hn
  rcases p10 n h1 with ⟨q, e⟩ | ⟨q, e⟩ | ⟨q, e⟩ | ⟨q, e⟩ | ⟨q, e⟩ <;> rw [e] at h2 <;> omega
theorem opL_s (h : opL S p t g k) (ht : 0 < t) (hp : 0 ≤ p ∧ p ≤ 1115) (st : stP S g t k g2) (ht2 : t2 = t / 10) (hk : k2 = k - 1) : opL S p t2 g2 k2 := by
  obtain ⟨_, n, h1, h2, h3, h4⟩ := h
  have hn : n < 4 := by
    rcases p10 n h1 with ⟨q, e⟩ | ⟨q, e⟩ | ⟨q, e⟩ | ⟨q, e⟩ | ⟨q, e⟩ <;> rw [e] at h2 <;> omega
  refine ⟨st.1, n + 1, by omega, ?_, by omega, fun q j hj => ?_⟩
  · rw [ht2, h2, Int.pow_succ, ← Int.ediv_ediv_of_nonneg (by exact Int.le_of_lt (Int.pow_pos (by decide)))]
  · obtain ⟨s1, s2⟩ := st.2 q
    by_cases e : j < n
    · exact h4 s1 j e
    · have e2 : j = n := by omega
      subst e2
      rw [← h2, ← h3]
      exact s2
theorem op_end (h : opL S (pat op) t g k) (ht : t = 0) (hg : g = 1) (hn : ndP (pat op) (f_size S).toInt) : opD S op := by
  obtain ⟨_, n, h1, h2, h3, h4⟩ := h
  exact ⟨hn, n, by omega, h4 hg⟩
theorem suf_at {n : Nat} (h : sufP S p n) (hz : p / 10 ^ n = 0) (hp : 0 ≤ p) (j : Nat) {d i : Int} (hd : p / 10 ^ j % 10 = d) (h0 : ¬ d = 0) (hi : i = (f_size S).toInt - 1 - j) : suitP d (a_kinds S i.toNat).toInt := by
  have hj : j < n := by
    rcases Nat.lt_or_ge j n with q | q
    · exact q
    · exfalso
      apply h0
      rw [← hd]
      have e : p / 10 ^ j = 0 := by
        have e1 : (10 : Int) ^ j = 10 ^ n * 10 ^ (j - n) := by rw [← Int.pow_add, show n + (j - n) = j by omega]
        rw [e1, ← Int.ediv_ediv_of_nonneg (Int.le_of_lt (Int.pow_pos (by decide))), hz]
        simp
      rw [e]
      rfl
  have q := h j hj
  rw [hd] at q
  rw [hi]
  exact q
theorem op_sum (h : opD S op) (hr : 10 ≤ op ∧ op ≤ 15) : 2 ≤ (f_size S).toInt := by
  obtain ⟨nd, n, hz, h⟩ := h
  have hc : op = 10 ∨ op = 11 ∨ op = 12 ∨ op = 13 ∨ op = 14 ∨ op = 15 := by omega
  rcases hc with c | c | c | c | c | c
  · subst c
    rw [pk_10] at nd hz h
    unfold ndP at nd
    have s0 := suf_at h hz (by decide) 0 (d := 2) (i := (f_size S).toInt - 1) (by decide) (by decide) (by omega)
    unfold suitP at s0
    have s1 := suf_at h hz (by decide) 1 (d := 2) (i := (f_size S).toInt - 2) (by decide) (by decide) (by omega)
    unfold suitP at s1
    omega
  · subst c
    rw [pk_11] at nd hz h
    unfold ndP at nd
    have s0 := suf_at h hz (by decide) 0 (d := 2) (i := (f_size S).toInt - 1) (by decide) (by decide) (by omega)
    unfold suitP at s0
    have s1 := suf_at h hz (by decide) 1 (d := 2) (i := (f_size S).toInt - 2) (by decide) (by decide) (by omega)
    unfold suitP at s1
    omega
  · subst c
    rw [pk_12] at nd hz h
    unfold ndP at nd
    have s0 := suf_at h hz (by decide) 0 (d := 2) (i := (f_size S).toInt - 1) (by decide) (by decide) (by omega)
    unfold suitP at s0
    have s1 := suf_at h hz (by decide) 1 (d := 2) (i := (f_size S).toInt - 2) (by decide) (by decide) (by omega)
    unfold suitP at s1
    omega
  · subst c
    rw [pk_13] at nd hz h
    unfold ndP at nd
    have s0 := suf_at h hz (by decide) 0 (d := 2) (i := (f_size S).toInt - 1) (by decide) (by decide) (by omega)
    unfold suitP at s0
    have s1 := suf_at h hz (by decide) 1 (d := 2) (i := (f_size S).toInt - 2) (by decide) (by decide) (by omega)
    unfold suitP at s1
    omega
  · subst c
    rw [pk_14] at nd hz h
    unfold ndP at nd
    have s0 := suf_at h hz (by decide) 0 (d := 1) (i := (f_size S).toInt - 1) (by decide) (by decide) (by omega)
    unfold suitP at s0
    have s1 := suf_at h hz (by decide) 1 (d := 1) (i := (f_size S).toInt - 2) (by decide) (by decide) (by omega)
    unfold suitP at s1
    omega
  · subst c
    rw [pk_15] at nd hz h
    unfold ndP at nd
    have s0 := suf_at h hz (by decide) 0 (d := 1) (i := (f_size S).toInt - 1) (by decide) (by decide) (by omega)
    unfold suitP at s0
    have s1 := suf_at h hz (by decide) 1 (d := 1) (i := (f_size S).toInt - 2) (by decide) (by decide) (by omega)
    unfold suitP at s1
    omega
theorem op_sin (h : opD S op) (hr : 16 ≤ op ∧ op ≤ 20) : 1 ≤ (f_size S).toInt := by
  obtain ⟨nd, n, hz, h⟩ := h
  have hc : op = 16 ∨ op = 17 ∨ op = 18 ∨ op = 19 ∨ op = 20 := by omega
  rcases hc with c | c | c | c | c
  · subst c
    rw [pk_16] at nd hz h
    unfold ndP at nd
    have s0 := suf_at h hz (by decide) 0 (d := 2) (i := (f_size S).toInt - 1) (by decide) (by decide) (by omega)
    unfold suitP at s0
    omega
  · subst c
    rw [pk_17] at nd hz h
    unfold ndP at nd
    have s0 := suf_at h hz (by decide) 0 (d := 2) (i := (f_size S).toInt - 1) (by decide) (by decide) (by omega)
    unfold suitP at s0
    omega
  · subst c
    rw [pk_18] at nd hz h
    unfold ndP at nd
    have s0 := suf_at h hz (by decide) 0 (d := 2) (i := (f_size S).toInt - 1) (by decide) (by decide) (by omega)
    unfold suitP at s0
    omega
  · subst c
    rw [pk_19] at nd hz h
    unfold ndP at nd
    have s0 := suf_at h hz (by decide) 0 (d := 2) (i := (f_size S).toInt - 1) (by decide) (by decide) (by omega)
    unfold suitP at s0
    omega
  · subst c
    rw [pk_20] at nd hz h
    unfold ndP at nd
    have s0 := suf_at h hz (by decide) 0 (d := 2) (i := (f_size S).toInt - 1) (by decide) (by decide) (by omega)
    unfold suitP at s0
    omega
theorem op_tru (h : opD S op) (hr : 21 ≤ op ∧ op ≤ 36) : (23 ≤ op → 1 ≤ (f_size S).toInt) ∧ ((23 ≤ op ∧ op ≤ 30 ∨ op = 32) → 2 ≤ (f_size S).toInt) := by
  obtain ⟨nd, n, hz, h⟩ := h
  have hc : op = 21 ∨ op = 22 ∨ op = 23 ∨ op = 24 ∨ op = 25 ∨ op = 26 ∨ op = 27 ∨ op = 28 ∨ op = 29 ∨ op = 30 ∨ op = 31 ∨ op = 32 ∨ op = 33 ∨ op = 34 ∨ op = 35 ∨ op = 36 := by omega
  rcases hc with c | c | c | c | c | c | c | c | c | c | c | c | c | c | c | c
  · subst c
    rw [pk_21] at nd hz h
    unfold ndP at nd
    omega
  · subst c
    rw [pk_22] at nd hz h
    unfold ndP at nd
    omega
  · subst c
    rw [pk_23] at nd hz h
    unfold ndP at nd
    omega
  · subst c
    rw [pk_24] at nd hz h
    unfold ndP at nd
    omega
  · subst c
    rw [pk_25] at nd hz h
    unfold ndP at nd
    have s0 := suf_at h hz (by decide) 0 (d := 2) (i := (f_size S).toInt - 1) (by decide) (by decide) (by omega)
    unfold suitP at s0
    have s1 := suf_at h hz (by decide) 1 (d := 2) (i := (f_size S).toInt - 2) (by decide) (by decide) (by omega)
    unfold suitP at s1
    omega
  · subst c
    rw [pk_26] at nd hz h
    unfold ndP at nd
    have s0 := suf_at h hz (by decide) 0 (d := 2) (i := (f_size S).toInt - 1) (by decide) (by decide) (by omega)
    unfold suitP at s0
    have s1 := suf_at h hz (by decide) 1 (d := 2) (i := (f_size S).toInt - 2) (by decide) (by decide) (by omega)
    unfold suitP at s1
    omega
  · subst c
    rw [pk_27] at nd hz h
    unfold ndP at nd
    have s0 := suf_at h hz (by decide) 0 (d := 2) (i := (f_size S).toInt - 1) (by decide) (by decide) (by omega)
    unfold suitP at s0
    have s1 := suf_at h hz (by decide) 1 (d := 2) (i := (f_size S).toInt - 2) (by decide) (by decide) (by omega)
    unfold suitP at s1
    omega
  · subst c
    rw [pk_28] at nd hz h
    unfold ndP at nd
    have s0 := suf_at h hz (by decide) 0 (d := 2) (i := (f_size S).toInt - 1) (by decide) (by decide) (by omega)
    unfold suitP at s0
    have s1 := suf_at h hz (by decide) 1 (d := 2) (i := (f_size S).toInt - 2) (by decide) (by decide) (by omega)
    unfold suitP at s1
    omega
  · subst c
    rw [pk_29] at nd hz h
    unfold ndP at nd
    omega
  · subst c
    rw [pk_30] at nd hz h
    unfold ndP at nd
    omega
  · subst c
    rw [pk_31] at nd hz h
    unfold ndP at nd
    omega
  · subst c
    rw [pk_32] at nd hz h
    unfold ndP at nd
    have s0 := suf_at h hz (by decide) 0 (d := 1) (i := (f_size S).toInt - 1) (by decide) (by decide) (by omega)
    unfold suitP at s0
    have s1 := suf_at h hz (by decide) 1 (d := 1) (i := (f_size S).toInt - 2) (by decide) (by decide) (by omega)
    unfold suitP at s1
    omega
  · subst c
    rw [pk_33] at nd hz h
    unfold ndP at nd
    omega
  · subst c
    rw [pk_34] at nd hz h
    unfold ndP at nd
    omega
  · subst c
    rw [pk_35] at nd hz h
    unfold ndP at nd
    omega
  · subst c
    rw [pk_36] at nd hz h
    unfold ndP at nd
    omega
theorem op_stk (h : opD S op) (hr : (0 ≤ op ∧ op ≤ 9) ∨ op = 70 ∨ op = 71) : stkP op S := by
  obtain ⟨nd, n, hz, h⟩ := h
  have hc : op = 0 ∨ op = 1 ∨ op = 2 ∨ op = 3 ∨ op = 4 ∨ op = 5 ∨ op = 6 ∨ op = 7 ∨ op = 8 ∨ op = 9 ∨ op = 70 ∨ op = 71 := by omega
  rcases hc with c | c | c | c | c | c | c | c | c | c | c | c
  · subst c
    rw [pk_0] at nd hz h
    unfold ndP at nd
    unfold stkP; omega
  · subst c
    rw [pk_1] at nd hz h
    unfold ndP at nd
    unfold stkP; omega
  · subst c
    rw [pk_2] at nd hz h
    unfold ndP at nd
    unfold stkP; omega
  · subst c
    rw [pk_3] at nd hz h
    unfold ndP at nd
    have s0 := suf_at h hz (by decide) 0 (d := 1) (i := (f_size S).toInt - 1) (by decide) (by decide) (by omega)
    unfold suitP at s0
    unfold stkP; omega
  · subst c
    rw [pk_4] at nd hz h
    unfold ndP at nd
    have s0 := suf_at h hz (by decide) 0 (d := 1) (i := (f_size S).toInt - 1) (by decide) (by decide) (by omega)
    unfold suitP at s0
    unfold stkP; omega
  · subst c
    rw [pk_5] at nd hz h
    unfold ndP at nd
    have s0 := suf_at h hz (by decide) 0 (d := 1) (i := (f_size S).toInt - 1) (by decide) (by decide) (by omega)
    unfold suitP at s0
    have s1 := suf_at h hz (by decide) 1 (d := 1) (i := (f_size S).toInt - 2) (by decide) (by decide) (by omega)
    unfold suitP at s1
    unfold stkP; omega
  · subst c
    rw [pk_6] at nd hz h
    unfold ndP at nd
    unfold stkP; omega
  · subst c
    rw [pk_7] at nd hz h
    unfold ndP at nd
    unfold stkP; omega
  · subst c
    rw [pk_8] at nd hz h
    unfold ndP at nd
    unfold stkP; omega
  · subst c
    rw [pk_9] at nd hz h
    unfold ndP at nd
    unfold stkP; omega
  · subst c
    rw [pk_70] at nd hz h
    unfold ndP at nd
    unfold stkP; omega
  · subst c
    rw [pk_71] at nd hz h
    unfold ndP at nd
    unfold stkP; omega
theorem op_arr (h : opD S op) (ho : othP op S) (hr : 37 ≤ op ∧ op ≤ 42) : arrP op S := by
  obtain ⟨nd, n, hz, h⟩ := h
  have hc : op = 37 ∨ op = 38 ∨ op = 39 ∨ op = 40 ∨ op = 41 ∨ op = 42 := by omega
  rcases hc with c | c | c | c | c | c
  · subst c
    rw [pk_37] at nd hz h
    unfold ndP at nd
    have s0 := suf_at h hz (by decide) 0 (d := 1) (i := (f_size S).toInt - 1) (by decide) (by decide) (by omega)
    unfold suitP at s0
    unfold othP at ho; unfold arrP; refine ⟨by omega, fun q => by omega, fun q => by omega, fun q => by omega, fun q => by omega, fun q => by omega⟩
  · subst c
    rw [pk_38] at nd hz h
    unfold ndP at nd
    unfold othP at ho; unfold arrP; refine ⟨by omega, fun q => by omega, fun q => by omega, fun q => by omega, fun q => by omega, fun q => by omega⟩
  · subst c
    rw [pk_39] at nd hz h
    unfold ndP at nd
    unfold othP at ho; unfold arrP; refine ⟨by omega, fun q => by omega, fun q => by omega, fun q => by omega, fun q => by omega, fun q => by omega⟩
  · subst c
    rw [pk_40] at nd hz h
    unfold ndP at nd
    unfold othP at ho; unfold arrP; refine ⟨by omega, fun q => by omega, fun q => by omega, fun q => by omega, fun q => by omega, fun q => by omega⟩
  · subst c
    rw [pk_41] at nd hz h
    unfold ndP at nd
    have s0 := suf_at h hz (by decide) 0 (d := 1) (i := (f_size S).toInt - 1) (by decide) (by decide) (by omega)
    unfold suitP at s0
    have s1 := suf_at h hz (by decide) 1 (d := 1) (i := (f_size S).toInt - 2) (by decide) (by decide) (by omega)
    unfold suitP at s1
    have s2 := suf_at h hz (by decide) 2 (d := 6) (i := (f_size S).toInt - 3) (by decide) (by decide) (by omega)
    unfold suitP at s2
    unfold othP at ho; unfold arrP; refine ⟨by omega, fun q => by omega, fun q => by omega, fun q => by omega, fun q => by omega, fun q => by omega⟩
  · subst c
    rw [pk_42] at nd hz h
    unfold ndP at nd
    have s0 := suf_at h hz (by decide) 0 (d := 6) (i := (f_size S).toInt - 1) (by decide) (by decide) (by omega)
    unfold suitP at s0
    unfold othP at ho; unfold arrP; refine ⟨by omega, fun q => by omega, fun q => by omega, fun q => by omega, fun q => by omega, fun q => by omega⟩
theorem op_dic (h : opD S op) (hr : 43 ≤ op ∧ op ≤ 49) : dicP op S := by
  obtain ⟨nd, n, hz, h⟩ := h
  have hc : op = 43 ∨ op = 44 ∨ op = 45 ∨ op = 46 ∨ op = 47 ∨ op = 48 ∨ op = 49 := by omega
  rcases hc with c | c | c | c | c | c | c
  · subst c
    rw [pk_43] at nd hz h
    unfold ndP at nd
    have s0 := suf_at h hz (by decide) 0 (d := 1) (i := (f_size S).toInt - 1) (by decide) (by decide) (by omega)
    unfold suitP at s0
    unfold dicP; omega
  · subst c
    rw [pk_44] at nd hz h
    unfold ndP at nd
    have s0 := suf_at h hz (by decide) 0 (d := 7) (i := (f_size S).toInt - 1) (by decide) (by decide) (by omega)
    unfold suitP at s0
    unfold dicP; omega
  · subst c
    rw [pk_45] at nd hz h
    unfold ndP at nd
    unfold dicP; omega
  · subst c
    rw [pk_46] at nd hz h
    unfold ndP at nd
    have s1 := suf_at h hz (by decide) 1 (d := 4) (i := (f_size S).toInt - 2) (by decide) (by decide) (by omega)
    unfold suitP at s1
    unfold dicP; omega
  · subst c
    rw [pk_47] at nd hz h
    unfold ndP at nd
    have s0 := suf_at h hz (by decide) 0 (d := 4) (i := (f_size S).toInt - 1) (by decide) (by decide) (by omega)
    unfold suitP at s0
    unfold dicP; omega
  · subst c
    rw [pk_48] at nd hz h
    unfold ndP at nd
    have s0 := suf_at h hz (by decide) 0 (d := 4) (i := (f_size S).toInt - 1) (by decide) (by decide) (by omega)
    unfold suitP at s0
    have s1 := suf_at h hz (by decide) 1 (d := 7) (i := (f_size S).toInt - 2) (by decide) (by decide) (by omega)
    unfold suitP at s1
    unfold dicP; omega
  · subst c
    rw [pk_49] at nd hz h
    unfold ndP at nd
    unfold dicP; omega
theorem op_beg (h : opD S op) (hr : 50 ≤ op ∧ op ≤ 56) : begP op S := by
  obtain ⟨nd, n, hz, h⟩ := h
  have hc : op = 50 ∨ op = 51 ∨ op = 52 ∨ op = 53 ∨ op = 54 ∨ op = 55 ∨ op = 56 := by omega
  rcases hc with c | c | c | c | c | c | c
  · subst c
    rw [pk_50] at nd hz h
    unfold ndP at nd
    unfold begP; refine ⟨fun q => by omega, fun q => by omega, fun q => by omega, fun q => by omega, fun q => by omega, fun q => by omega, fun q => by omega⟩
  · subst c
    rw [pk_51] at nd hz h
    unfold ndP at nd
    have s0 := suf_at h hz (by decide) 0 (d := 5) (i := (f_size S).toInt - 1) (by decide) (by decide) (by omega)
    unfold suitP at s0
    have s1 := suf_at h hz (by decide) 1 (d := 3) (i := (f_size S).toInt - 2) (by decide) (by decide) (by omega)
    unfold suitP at s1
    unfold begP; refine ⟨fun q => by omega, fun q => by omega, fun q => by omega, fun q => by omega, fun q => by omega, fun q => by omega, fun q => by omega⟩
  · subst c
    rw [pk_52] at nd hz h
    unfold ndP at nd
    have s0 := suf_at h hz (by decide) 0 (d := 5) (i := (f_size S).toInt - 1) (by decide) (by decide) (by omega)
    unfold suitP at s0
    have s1 := suf_at h hz (by decide) 1 (d := 5) (i := (f_size S).toInt - 2) (by decide) (by decide) (by omega)
    unfold suitP at s1
    have s2 := suf_at h hz (by decide) 2 (d := 3) (i := (f_size S).toInt - 3) (by decide) (by decide) (by omega)
    unfold suitP at s2
    unfold begP; refine ⟨fun q => by omega, fun q => by omega, fun q => by omega, fun q => by omega, fun q => by omega, fun q => by omega, fun q => by omega⟩
  · subst c
    rw [pk_53] at nd hz h
    unfold ndP at nd
    have s0 := suf_at h hz (by decide) 0 (d := 5) (i := (f_size S).toInt - 1) (by decide) (by decide) (by omega)
    unfold suitP at s0
    have s1 := suf_at h hz (by decide) 1 (d := 1) (i := (f_size S).toInt - 2) (by decide) (by decide) (by omega)
    unfold suitP at s1
    have s2 := suf_at h hz (by decide) 2 (d := 1) (i := (f_size S).toInt - 3) (by decide) (by decide) (by omega)
    unfold suitP at s2
    have s3 := suf_at h hz (by decide) 3 (d := 1) (i := (f_size S).toInt - 4) (by decide) (by decide) (by omega)
    unfold suitP at s3
    unfold begP; refine ⟨fun q => by omega, fun q => by omega, fun q => by omega, fun q => by omega, fun q => by omega, fun q => by omega, fun q => by omega⟩
  · subst c
    rw [pk_54] at nd hz h
    unfold ndP at nd
    have s0 := suf_at h hz (by decide) 0 (d := 5) (i := (f_size S).toInt - 1) (by decide) (by decide) (by omega)
    unfold suitP at s0
    have s1 := suf_at h hz (by decide) 1 (d := 1) (i := (f_size S).toInt - 2) (by decide) (by decide) (by omega)
    unfold suitP at s1
    unfold begP; refine ⟨fun q => by omega, fun q => by omega, fun q => by omega, fun q => by omega, fun q => by omega, fun q => by omega, fun q => by omega⟩
  · subst c
    rw [pk_55] at nd hz h
    unfold ndP at nd
    have s0 := suf_at h hz (by decide) 0 (d := 5) (i := (f_size S).toInt - 1) (by decide) (by decide) (by omega)
    unfold suitP at s0
    unfold begP; refine ⟨fun q => by omega, fun q => by omega, fun q => by omega, fun q => by omega, fun q => by omega, fun q => by omega, fun q => by omega⟩
  · subst c
    rw [pk_56] at nd hz h
    unfold ndP at nd
    have s0 := suf_at h hz (by decide) 0 (d := 5) (i := (f_size S).toInt - 1) (by decide) (by decide) (by omega)
    unfold suitP at s0
    have s1 := suf_at h hz (by decide) 1 (d := 6) (i := (f_size S).toInt - 2) (by decide) (by decide) (by omega)
    unfold suitP at s1
    unfold begP; refine ⟨fun q => by omega, fun q => by omega, fun q => by omega, fun q => by omega, fun q => by omega, fun q => by omega, fun q => by omega⟩
theorem op_ctl (h : opD S op) (hr : 57 ≤ op ∧ op ≤ 62) : (op = 59 ∨ op = 62) → 1 ≤ (f_size S).toInt := by
  obtain ⟨nd, n, hz, h⟩ := h
  have hc : op = 57 ∨ op = 58 ∨ op = 59 ∨ op = 60 ∨ op = 61 ∨ op = 62 := by omega
  rcases hc with c | c | c | c | c | c
  · subst c
    rw [pk_57] at nd hz h
    unfold ndP at nd
    omega
  · subst c
    rw [pk_58] at nd hz h
    unfold ndP at nd
    omega
  · subst c
    rw [pk_59] at nd hz h
    unfold ndP at nd
    omega
  · subst c
    rw [pk_60] at nd hz h
    unfold ndP at nd
    omega
  · subst c
    rw [pk_61] at nd hz h
    unfold ndP at nd
    omega
  · subst c
    rw [pk_62] at nd hz h
    unfold ndP at nd
    have s0 := suf_at h hz (by decide) 0 (d := 8) (i := (f_size S).toInt - 1) (by decide) (by decide) (by omega)
    unfold suitP at s0
    omega
theorem op_pai (h : opD S op) (hr : 63 ≤ op ∧ op ≤ 69) : (op = 63 → 1 ≤ (f_size S).toInt) ∧ ((op = 65 ∨ op = 66) → 2 ≤ (f_size S).toInt) := by
  obtain ⟨nd, n, hz, h⟩ := h
  have hc : op = 63 ∨ op = 64 ∨ op = 65 ∨ op = 66 ∨ op = 67 ∨ op = 68 ∨ op = 69 := by omega
  rcases hc with c | c | c | c | c | c | c
  · subst c
    rw [pk_63] at nd hz h
    unfold ndP at nd
    have s0 := suf_at h hz (by decide) 0 (d := 2) (i := (f_size S).toInt - 1) (by decide) (by decide) (by omega)
    unfold suitP at s0
    omega
  · subst c
    rw [pk_64] at nd hz h
    unfold ndP at nd
    omega
  · subst c
    rw [pk_65] at nd hz h
    unfold ndP at nd
    have s0 := suf_at h hz (by decide) 0 (d := 2) (i := (f_size S).toInt - 1) (by decide) (by decide) (by omega)
    unfold suitP at s0
    have s1 := suf_at h hz (by decide) 1 (d := 2) (i := (f_size S).toInt - 2) (by decide) (by decide) (by omega)
    unfold suitP at s1
    omega
  · subst c
    rw [pk_66] at nd hz h
    unfold ndP at nd
    have s0 := suf_at h hz (by decide) 0 (d := 2) (i := (f_size S).toInt - 1) (by decide) (by decide) (by omega)
    unfold suitP at s0
    have s1 := suf_at h hz (by decide) 1 (d := 2) (i := (f_size S).toInt - 2) (by decide) (by decide) (by omega)
    unfold suitP at s1
    omega
  · subst c
    rw [pk_67] at nd hz h
    unfold ndP at nd
    omega
  · subst c
    rw [pk_68] at nd hz h
    unfold ndP at nd
    omega
  · subst c
    rw [pk_69] at nd hz h
    unfold ndP at nd
    omega
theorem op_oth (h : opD S op) (hr : 29 ≤ op ∧ op ≤ 40) : 1 ≤ (f_size S).toInt ∧ ((op = 29 ∨ op = 30 ∨ op = 39) → 2 ≤ (f_size S).toInt) ∧ (op = 40 → 3 ≤ (f_size S).toInt) := by
  obtain ⟨nd, n, hz, h⟩ := h
  have hc : op = 29 ∨ op = 30 ∨ op = 31 ∨ op = 32 ∨ op = 33 ∨ op = 34 ∨ op = 35 ∨ op = 36 ∨ op = 37 ∨ op = 38 ∨ op = 39 ∨ op = 40 := by omega
  rcases hc with c | c | c | c | c | c | c | c | c | c | c | c
  · subst c
    rw [pk_29] at nd hz h
    unfold ndP at nd
    omega
  · subst c
    rw [pk_30] at nd hz h
    unfold ndP at nd
    omega
  · subst c
    rw [pk_31] at nd hz h
    unfold ndP at nd
    omega
  · subst c
    rw [pk_32] at nd hz h
    unfold ndP at nd
    have s0 := suf_at h hz (by decide) 0 (d := 1) (i := (f_size S).toInt - 1) (by decide) (by decide) (by omega)
    unfold suitP at s0
    have s1 := suf_at h hz (by decide) 1 (d := 1) (i := (f_size S).toInt - 2) (by decide) (by decide) (by omega)
    unfold suitP at s1
    omega
  · subst c
    rw [pk_33] at nd hz h
    unfold ndP at nd
    omega
  · subst c
    rw [pk_34] at nd hz h
    unfold ndP at nd
    omega
  · subst c
    rw [pk_35] at nd hz h
    unfold ndP at nd
    omega
  · subst c
    rw [pk_36] at nd hz h
    unfold ndP at nd
    omega
  · subst c
    rw [pk_37] at nd hz h
    unfold ndP at nd
    have s0 := suf_at h hz (by decide) 0 (d := 1) (i := (f_size S).toInt - 1) (by decide) (by decide) (by omega)
    unfold suitP at s0
    omega
  · subst c
    rw [pk_38] at nd hz h
    unfold ndP at nd
    omega
  · subst c
    rw [pk_39] at nd hz h
    unfold ndP at nd
    omega
  · subst c
    rw [pk_40] at nd hz h
    unfold ndP at nd
    omega
theorem vk_8 {kd : Int32} {cd : Int64} {rl : UInt64} (h : vOk kd cd rl) : ¬ kd.toInt = 8 ∧ ¬ kd.toInt = 10 ∧ 0 ≤ kd.toInt ∧ kd.toInt ≤ 13 := by have := h.1; omega
theorem op_bit {op : Int32} (ho : othP op.toInt S) (hv : ∀ k, k < 1300 → vOk (a_kinds S k) (a_codes S k) (a_reals S k)) (hs : 0 ≤ (f_size S).toInt ∧ (f_size S).toInt ≤ 40) : bitP op (a_kinds S ((f_size S).toInt - 1).toNat) (a_kinds S ((f_size S).toInt - 2).toNat) := by
  have h1 := vk_8 (hv ((f_size S).toInt - 1).toNat (by omega))
  have h2 := vk_8 (hv ((f_size S).toInt - 2).toNat (by omega))
  unfold othP at ho
  refine ⟨fun q => ?_, fun q => ?_⟩
  · have := ho.1 q
    omega
  · have := ho.2.1 q
    omega
end OP
