def tcs : List (List Cond) := [tables_1_1, tables_1_2, tables_1_3, tables_1_4, tables_1_5, tables_1_6, tables_1_7, tables_1_8, tables_1_9]
theorem tcs_in : ∀ c ∈ tcs, ∀ w ∈ c, w ∈ lw_tbl := by
  intro c hc w hw
  simp only [tcs, List.mem_cons, List.not_mem_nil, or_false] at hc
  rcases hc with rfl | rfl | rfl | rfl | rfl | rfl | rfl | rfl | rfl
  · exact tb_1 hw
  · exact tb_2 hw
  · exact tb_3 hw
  · exact tb_4 hw
  · exact tb_5 hw
  · exact tb_6 hw
  · exact tb_7 hw
  · exact tb_8 hw
  · exact tb_9 hw
def lsC : List Nat := [7, 7, 7, 7, 7, 7, 7, 7, 7, 7, 7, 7, 3, 3, 7, 7, 3, 7, 7, 7, 7, 7, 7, 7, 3, 7, 3, 7, 7, 7, 7, 7, 3, 7, 7, 3, 7, 7, 7, 7, 7, 7, 7, 7, 7, 7, 7, 7, 7, 7, 7, 7, 7, 7, 7, 7, 7, 8, 8, 8, 8, 8, 8, 4, 8, 8, 8, 4, 8, 8, 8, 4]
def lsI : List Nat := [190, 191, 192, 193, 194, 195, 196, 197, 198, 199, 200, 201, 165, 167, 202, 203, 127, 204, 205, 206, 207, 208, 209, 210, 175, 211, 191, 212, 213, 214, 215, 216, 197, 217, 218, 210, 219, 220, 221, 222, 223, 224, 225, 226, 227, 228, 229, 230, 231, 232, 233, 234, 235, 236, 237, 238, 239, 0, 1, 2, 3, 4, 5, 82, 6, 7, 8, 139, 9, 10, 11, 166]
theorem ls_ok0 : ∀ i : Fin 72, lsC.getD i.1 0 < 9 ∧ (tcs.getD (lsC.getD i.1 0) [])[lsI.getD i.1 0]? = some (Cond.laysStatic "PageScribe$Op" (opNm.getD i.1 "") "LPageScribe$Op;") := by decide +kernel
theorem ls_ok {i : Nat} (h : i < 72) : Cond.laysStatic "PageScribe$Op" (opNm.getD i "") "LPageScribe$Op;" ∈ lw_tbl := by
  obtain ⟨h1, h2⟩ := ls_ok0 ⟨i, h⟩
  refine tcs_in (tcs.getD (lsC.getD i 0) []) ?_ _ (List.mem_of_getElem? h2)
  rw [List.getD_eq_getElem?_getD, List.getElem?_eq_getElem (show lsC.getD i 0 < tcs.length from h1)]
  exact List.getElem_mem _
def tkI : List Nat := [72, 73, 72, 74, 74, 75, 76, 76, 76, 76, 76, 76, 77, 77, 77, 77, 75, 75, 78, 78, 78, 78, 78, 75, 76, 76, 73, 73, 77, 77, 77, 77, 79, 79, 80, 72, 72, 72, 72, 74, 81, 82, 83, 84, 85, 74, 86, 76, 87, 88, 89, 76, 72, 90, 91, 92, 93, 94, 95, 76, 76, 72, 76, 76, 96, 78, 76, 77, 77, 76, 76, 76]
theorem tx_ok0 : ∀ i : Fin 72, seL.getD (tkI.getD i.1 0) 0 = tkE.getD i.1 0 ∧ tkI.getD i.1 0 < 97 ∧ seL.getD i.1 0 = wdE.getD i.1 0 := by decide +kernel
theorem tx_ap0 : ∀ i j : Fin 97, txL.getD i.1 0 = txL.getD j.1 0 → (∀ k, k < txL.getD i.1 0 → (txB.getD i.1 []).getD k 0 = (txB.getD j.1 []).getD k 0) → i = j := by decide +kernel
theorem tx_31 : ∀ i : Nat, i < 97 → txL.getD i 0 < 2 ^ 31 := fun i _ => Nat.lt_of_le_of_lt (tx_le i) (by decide)
theorem vk_S2 {args : Array Value} {s : State} {N : Nat} {tm : Nat → Term} {len : List Nat} {byt : List (List Int32)} {A : Nat → Prop} (hN : ∀ i : Nat, i < N → len.getD i 0 < 2 ^ 31) (hex : ∀ i : Nat, i < N → (Cond.exactly (tm i) "java/lang/String").before args s = true) (hco : ∀ i : Nat, i < N → (Cond.eq (.field (tm i) "java/lang/String" "coder" "B") (.int 0)).before args s = true)
    (har : ∀ i : Nat, i < N → (Cond.arrayOf (.field (tm i) "java/lang/String" "value" "[B") .byte).before args s = true) (hle : ∀ i : Nat, i < N → (Cond.eq (.length (.field (tm i) "java/lang/String" "value" "[B")) (.int (Int32.ofNat (len.getD i 0)))).before args s = true)
    (hel : ∀ i : Nat, i < N → ∀ j : Nat, j < len.getD i 0 → (Cond.eq (.elem (.field (tm i) "java/lang/String" "value" "[B") (.int (Int32.ofNat j))) (.int ((byt.getD i []).getD j 0))).before args s = true)
    (hap : ∀ i j : Nat, i < N → j < N → len.getD i 0 = len.getD j 0 → (∀ k, k < len.getD i 0 → (byt.getD i []).getD k 0 = (byt.getD j []).getD k 0) → i = j) (hA : ∀ a : Nat, a < s.heap.size → ¬ A a) :
    ∃ adK adV : Nat → Nat, vk_S N len byt adK adV A s s.heap ∧ ∀ i : Nat, i < N → (tm i).eval args s none [] s = some (.ref (adK i)) := by
  have h0 : ∀ i : Nat, ∃ q : Nat × Nat, i < N → (tm i).eval args s none [] s = some (.ref q.1) ∧ va_O "java/lang/String" q.1 A s s.heap ∧ va_OF "java/lang/String" "coder" "B" (.int 0) q.1 A s s.heap ∧ va_OF "java/lang/String" "value" "[B" (.ref q.2) q.1 A s s.heap ∧ va_T .byte q.2 (len.getD i 0) (fun j => .int ((byt.getD i []).getD j 0)) A s s.heap := by
    intro i
    by_cases hi : i < N
    · obtain ⟨a, c, cA, kA, q1, q2, q3, q4, q5, q6, -⟩ := Cond.exactly_spec (args := args) (first := s) (o := none) (s := s) (idx := []) (t := tm i) (cls := "java/lang/String") (hex i hi)
      obtain ⟨t, ht, hT⟩ := va_Tof (f := fun j => .int ((byt.getD i []).getD j 0)) (A := A) (hN i hi) (har i hi) (va_eqt (hle i hi)) (fun j hj => va_eqt (hel i hi j hj)) hA
      exact ⟨(a, t), fun _ => ⟨q1, ⟨cA, q3, q5, by rw [q6]; exact q2, hA a (Array.getElem?_eq_some_iff.mp q3).1⟩, vk_OFof q1 (va_eqt (hco i hi)) hA, vk_OFof q1 ht hA, hT⟩⟩
    · exact ⟨(0, 0), fun h => absurd h hi⟩
  obtain ⟨ad, had⟩ := Classical.axiomOfChoice h0
  refine ⟨fun i => (ad i).1, fun i => (ad i).2, ⟨fun i hi => (had i hi).2, fun i j hi hj e => ?_⟩, fun i hi => (had i hi).1⟩
  have e : (ad i).1 = (ad j).1 := e
  obtain ⟨cf, k, fi, f, cell, f1, f2, f3, f4, f5, -⟩ := (had i hi).2.2.2.1
  obtain ⟨cf', k', fi', f', cell', g1, g2, g3, g4, g5, -⟩ := (had j hj).2.2.2.1
  cases f1.symm.trans g1
  rw [e] at f3
  cases f3.symm.trans g3
  have e2 : (ad i).2 = (ad j).2 := by
    have h := f5.symm.trans g5
    injection h with h
    injection h
  obtain ⟨c1, a1, -, -, a4, a5, a6, -⟩ := (had i hi).2.2.2.2
  obtain ⟨c2, b1, -, -, b4, b5, b6, -⟩ := (had j hj).2.2.2.2
  rw [e2] at a1
  cases a1.symm.trans b1
  have hlen : len.getD i 0 = len.getD j 0 := by
    have h := congrArg Int32.toInt (a5.symm.trans b5)
    have h1 := nI_toInt (hN i hi)
    have h2 := nI_toInt (hN j hj)
    unfold nI at h1 h2
    omega
  refine hap i j hi hj hlen (fun k hk => ?_)
  have h := (a6 k hk).symm.trans (b6 k (by omega))
  injection h with h
  injection h
