def kept3 (a b c : Nat) : Nat → Option Nat := fun k => if k = 0 then some a else if k = 1 then some b else some c
theorem arrV_congr {cA : ClassId} {n : Nat} {f g : Nat → Value} (h : ∀ j, j < n → f j = g j) : arrV cA n f = arrV cA n g := by
  unfold arrV
  congr 1
  apply Array.ext
  · simp
  · intro i h1 h2
    simp at h1
    simp [h i h1]
theorem va_qset {D : va_G} {A : Nat → Prop} {ws : va_W} {H : Heap} {k a n : Nat} {cA : ClassId} {f f' : Nat → Option Nat} (hP : va_P D classes ws H) (hD : va_D A ws) (ha : ws[k]? = some (a, .inl (cA, n, .inr (.inr (.inr (.inr f)))))) (h : ∀ j, j < n → f j = f' j) : va_P D classes (ws.set k (a, .inl (cA, n, .inr (.inr (.inr (.inr f')))))) H ∧ va_D A (ws.set k (a, .inl (cA, n, .inr (.inr (.inr (.inr f')))))) := by
  refine ⟨hP.set hD ha ?_ (fun _ _ => rfl), hD.set ha⟩
  show H[a]? = some (vp_cell cA (n, .inr (.inr (.inr (.inr f')))))
  have h1 : H[a]? = some (vp_cell cA (n, .inr (.inr (.inr (.inr f))))) := hP k _ ha
  rw [h1, vp_cell_q, vp_cell_q]
  exact congrArg some (arrV_congr fun j hj => by rw [h j hj])
theorem kept3_up (a b c : Nat) : ∀ j, j < 3 → va_up (va_up (va_up zQ (0 : Int32).toNatClampNeg (some a)) (1 : Int32).toNatClampNeg (some b)) (2 : Int32).toNatClampNeg (some c) j = kept3 a b c j := by
  intro j hj
  rw [show (0 : Int32).toNatClampNeg = 0 by decide +kernel, show (1 : Int32).toNatClampNeg = 1 by decide +kernel, show (2 : Int32).toNatClampNeg = 2 by decide +kernel]
  rcases (show j = 0 ∨ j = 1 ∨ j = 2 by omega) with rfl | rfl | rfl <;> rfl
def roomF : Nat → Int32 := fun k => if k = 0 then 20 else 0
theorem roomF_up : upd zI (0 : Int32).toNatClampNeg 20 = roomF := by
  funext k
  have h : (0 : Int32).toNatClampNeg = 0 := by decide +kernel
  rw [h]
  by_cases hk : k = 0
  · subst hk; rfl
  · simp [upd, roomF, hk]
