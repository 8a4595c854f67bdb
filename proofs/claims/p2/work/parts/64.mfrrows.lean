def frQ (w : Int32) (a : Int64) (f : Int32) (v g l : Int64) : Prop := (1 ≤ w.toInt ∧ w.toInt ≤ 7) ∧ cOk a ∧ (w.toInt = 1 ∨ w.toInt = 6 → 0 ≤ f.toInt) ∧ (w.toInt = 6 → cOk l) ∧
    (w.toInt = 3 → -2147483648 ≤ g.toInt ∧ g.toInt ≤ 2147483647 ∧ -2147483648 ≤ l.toInt ∧ l.toInt ≤ 2147483647 ∧ (0 ≤ g.toInt → -2147483648 ≤ v.toInt) ∧ (g.toInt < 0 → v.toInt ≤ 2147483647))
theorem fr_at {frames under : Int32} {w : Nat → Int32} {a : Nat → Int64} {f : Nat → Int32} {v g l : Nat → Int64} (H : FrOk frames under w a f v g l) (k : Nat) (h : (k : Int) < frames.toInt) : frQ (w k) (a k) (f k) (v k) (g k) (l k) := by
  obtain ⟨h1, h2, h3, h4, h5, h6⟩ := H.2.1 k (by omega)
  exact ⟨⟨h1, h2⟩, h3, h4, h5, h6⟩
section FQ
variable {w : Int32} {a : Int64} {f : Int32} {v g l : Int64}
theorem fq_r (h : frQ w a f v g l) : 1 ≤ w.toInt ∧ w.toInt ≤ 7 := h.1
theorem fq_a (h : frQ w a f v g l) : cOk a := h.2.1
theorem fq_f (h : frQ w a f v g l) (q : w.toInt = 1 ∨ w.toInt = 6) : 0 ≤ f.toInt := h.2.2.1 q
theorem fq_l (h : frQ w a f v g l) (q : w.toInt = 6) : cOk l := h.2.2.2.1 q
theorem fq_o (h : frQ w a f v g l) (q : w.toInt = 3) : -2147483648 ≤ g.toInt ∧ g.toInt ≤ 2147483647 ∧ -2147483648 ≤ l.toInt ∧ l.toInt ≤ 2147483647 := ⟨(h.2.2.2.2 q).1, (h.2.2.2.2 q).2.1, (h.2.2.2.2 q).2.2.1, (h.2.2.2.2 q).2.2.2.1⟩
theorem fq_v (h : frQ w a f v g l) (q : w.toInt = 3) (o : (g.toInt < 0 → l.toInt ≤ v.toInt) ∧ (0 ≤ g.toInt → v.toInt ≤ l.toInt)) : -2147483648 ≤ v.toInt ∧ v.toInt ≤ 2147483647 := by
  obtain ⟨h1, h2, h3, h4, h5, h6⟩ := h.2.2.2.2 q
  omega
end FQ
theorem fr_far {frames under : Int32} {w : Nat → Int32} {a : Nat → Int64} {f : Nat → Int32} {v g l : Nat → Int64} {i : Nat} {x : Int32} (H : FrOk frames under w a f v g l)
    (hx : (w i).toInt = 1 ∨ (w i).toInt = 6 → 0 ≤ x.toInt) : FrOk frames under w a (upd f i x) v g l := by
  obtain ⟨h1, h2, h3, h4⟩ := H
  refine ⟨h1, fun k hk => ?_, h3, h4⟩
  by_cases e : k = i
  · subst e
    obtain ⟨q1, q2, q3, q4, q5, q6⟩ := h2 k hk
    rw [upd_s]
    exact ⟨q1, q2, q3, hx, q5, q6⟩
  · have e2 : upd f i x k = f k := by unfold upd; exact if_neg e
    rw [e2]
    exact h2 k hk
theorem fr_val {frames under : Int32} {w : Nat → Int32} {a : Nat → Int64} {f : Nat → Int32} {v g l : Nat → Int64} {i : Nat} {x : Int64} (H : FrOk frames under w a f v g l)
    (hx : (w i).toInt = 3 → (0 ≤ (g i).toInt → -2147483648 ≤ x.toInt) ∧ ((g i).toInt < 0 → x.toInt ≤ 2147483647)) : FrOk frames under w a f (vp_updL v i x) g l := by
  obtain ⟨h1, h2, h3, h4⟩ := H
  refine ⟨h1, fun k hk => ?_, h3, h4⟩
  by_cases e : k = i
  · subst e
    obtain ⟨q1, q2, q3, q4, q5, q6⟩ := h2 k hk
    rw [updL_s]
    exact ⟨q1, q2, q3, q4, q5, fun q => ⟨(q6 q).1, (q6 q).2.1, (q6 q).2.2.1, (q6 q).2.2.2.1, (hx q).1, (hx q).2⟩⟩
  · have e2 : vp_updL v i x k = v k := by unfold vp_updL; exact if_neg e
    rw [e2]
    exact h2 k hk
