theorem fr_at {frames under : Int32} {w : Nat → Int32} {a : Nat → Int64} {f : Nat → Int32} {v g l : Nat → Int64} (H : FrOk frames under w a f v g l) (k : Nat) (h : (k : Int) < frames.toInt) :
    (1 ≤ (w k).toInt ∧ (w k).toInt ≤ 7) ∧ cOk (a k) ∧ ((w k).toInt = 1 ∨ (w k).toInt = 6 → 0 ≤ (f k).toInt) ∧ ((w k).toInt = 6 → cOk (l k)) ∧
    ((w k).toInt = 3 → -2147483648 ≤ (g k).toInt ∧ (g k).toInt ≤ 2147483647 ∧ -2147483648 ≤ (l k).toInt ∧ (l k).toInt ≤ 2147483647 ∧ (0 ≤ (g k).toInt → -2147483648 ≤ (v k).toInt) ∧ ((g k).toInt < 0 → (v k).toInt ≤ 2147483647)) := by
  obtain ⟨h1, h2, h3, h4, h5, h6⟩ := H.2.1 k (by omega)
  exact ⟨⟨h1, h2⟩, h3, h4, h5, h6⟩
theorem fr_far {frames under : Int32} {w : Nat → Int32} {a : Nat → Int64} {f : Nat → Int32} {v g l : Nat → Int64} {i : Nat} {x : Int32} (H : FrOk frames under w a f v g l)
    (hx : (w i).toInt = 1 ∨ (w i).toInt = 6 → 0 ≤ x.toInt) : FrOk frames under w a (upd f i x) v g l := by
  obtain ⟨h1, h2, h3, h4⟩ := H
  refine ⟨h1, fun k hk => ?_, h3, h4⟩
  by_cases e : k = i
  · subst e
    obtain ⟨q1, q2, q3, q4, q5, q6⟩ := h2 k hk
    rw [upd_s]
    exact ⟨q1, q2, q3, hx, q5, q6⟩
  · have e2 : upd f i x k = f k := by unfold upd; exact if_neg e
    rw [e2]
    exact h2 k hk
theorem fr_val {frames under : Int32} {w : Nat → Int32} {a : Nat → Int64} {f : Nat → Int32} {v g l : Nat → Int64} {i : Nat} {x : Int64} (H : FrOk frames under w a f v g l)
    (hx : (w i).toInt = 3 → (0 ≤ (g i).toInt → -2147483648 ≤ x.toInt) ∧ ((g i).toInt < 0 → x.toInt ≤ 2147483647)) : FrOk frames under w a f (vp_updL v i x) g l := by
  obtain ⟨h1, h2, h3, h4⟩ := H
  refine ⟨h1, fun k hk => ?_, h3, h4⟩
  by_cases e : k = i
  · subst e
    obtain ⟨q1, q2, q3, q4, q5, q6⟩ := h2 k hk
    rw [updL_s]
    exact ⟨q1, q2, q3, q4, q5, fun q => ⟨(q6 q).1, (q6 q).2.1, (q6 q).2.2.1, (q6 q).2.2.2.1, (hx q).1, (hx q).2⟩⟩
  · have e2 : vp_updL v i x k = v k := by unfold vp_updL; exact if_neg e
    rw [e2]
    exact h2 k hk
