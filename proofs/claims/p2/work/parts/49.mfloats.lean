/-! ROWS: floats, magnitudes, frames above -/
theorem updL_n {f : Nat → Int64} {i k : Nat} {x : Int64} (h : k < i) : vp_updL f i x k = f k := by unfold vp_updL; exact if_neg (by omega)
theorem updI_n {f : Nat → Int32} {i k : Nat} {x : Int32} (h : k < i) : upd f i x k = f k := by unfold upd; exact if_neg (by omega)
def dM (K : Nat) (x : UInt64) : Prop := x.toNat % 2 ^ 63 < K * 2 ^ 52
section DM
variable {a b : UInt64} {K Ka Kb : Nat}
theorem dM_le {K2 : Nat} (h : dM K a) (q : K ≤ K2) : dM K2 a := Nat.lt_of_lt_of_le h (Nat.mul_le_mul_right _ q)
theorem dM_F (h : dM K a) (q : K ≤ 2047) : dF a := by
  have e := dk_abs a
  have h2 : a.toNat % 2 ^ 63 < 9218868437227405312 := Nat.lt_of_lt_of_le h (Nat.mul_le_mul_right _ q)
  rw [e] at h2
  unfold dF
  omega
theorem dF_N (h : dF a) : dN a := by unfold dF at h; unfold dN; omega
theorem dM_B (h : dB a) : dM 1088 a := dB_iff.mpr h
theorem dM_pt (h : -4696837146684686336 ≤ dk a ∧ dk a ≤ 4696837146684686336) : dM 1043 a := by
  have e := dk_abs a
  show a.toNat % 2 ^ 63 < 4697254411347427328
  rw [e]
  omega
theorem dM_add (ha : dM K a) (hb : dM K b) (hK : K ≤ 2047) : dM (K + 2) (FP.dadd a b) := FP.Core.dadd_mag ha hb hK
theorem dM_sub (ha : dM K a) (hb : dM K b) (hK : K ≤ 2047) : dM (K + 2) (FP.dsub a b) := FP.Core.dsub_mag ha hb hK
theorem dM_mul (ha : dM Ka a) (hb : dM Kb b) (h1 : Ka ≤ 2047) (h2 : Kb ≤ 2047) : dM (Ka + Kb - 1025 + 3) (FP.dmul a b) := FP.Core.dmul_mag ha hb h1 h2
theorem zf_N {x : UInt32} (h : FP.Core.fIsNaN x = false) : vf_n32 x := by
  have h2 : ¬ 2139095040 < x.toNat % 2 ^ 31 := fun q => by
    rw [(FP.Core.isNaN_bits32 x).mpr q] at h
    cases h
  unfold vf_n32
  rw [UInt32.le_iff_toNat_le, UInt32.toNat_and]
  have hm : (0x7fffffff : UInt32).toNat = 2 ^ 31 - 1 := by decide +kernel
  have h7 : (0x7f800000 : UInt32).toNat = 2139095040 := by decide +kernel
  rw [hm, Nat.and_two_pow_sub_one_eq_mod, h7]
  omega
theorem zf_mul15 {g : UInt32} (h : FP.Core.fIsNaN g = false) : FP.Core.fIsNaN (FP.fmul 1097859072 g) = false := by
  show FP.Core.fIsNaN (FP.Core.fmul 1097859072 g) = false
  rw [FP.Core.fmul_comm]
  exact FP.Core.fmul_out' h ((FP.Core.fin_bits32 _).mpr (by decide +kernel)) (fun q => absurd ((FP.Core.zero_bits232 _).mp q) (by decide +kernel))
theorem zf_add05 {g : UInt32} (h : FP.Core.fIsNaN g = false) : FP.Core.fIsNaN (FP.fadd g 1056964608) = false :=
  FP.Core.fadd_out h ((FP.Core.fin_bits32 _).mpr (by decide +kernel))
theorem zf_d2f {d : UInt64} (h : dN d) : FP.Core.fIsNaN (FP.d2f d) = false := by
  have e := FP.d2f_nan d
  rw [show FP.dIsNaN d = false from dN_to h] at e
  exact e
end DM
section LF
variable {p : Program} {l : Launch} {e : Env} {R : Room} {s : State} {m : MethodId} {args : Array Value} {below : List Frame} {meth : Method} {c : Code} {H : Heap} {locs : List Loc} {cells slots : Nat} {Q : State → Prop} {cc : ByteArray} {pc : Nat} {ls : Array Slot} {rest : List Value}
theorem zx_ldcwf {T : State} (X : Stand p l e R s m args below meth c T locs cells slots) (hexec : p.tables.exec = Jvm.exec) {own : String} {index : Nat} {v : UInt32} (hown : s.vm.findClass own = some m.cls)
    (hconst : (Cond.constantFloat own index v).before args s = true) {g : JFrame} (hg : g.method = m) (hdg : decode c.code g.pc = .ok (.ldc_w index, 3)) :
    ∀ target, Steps p.tables e below (T.setTop { g with pc := g.pc + 3, stack := .float v :: g.stack }) target → Steps p.tables e below (T.setTop g) target := by
  obtain ⟨k, cf, hk, hcf, hcp⟩ := Cond.constantFloat_spec hown hconst
  obtain ⟨k', hk', he⟩ := X.warmed.alike.2.2 _ _ hk
  intro target hrest
  subst hg
  jvm_step X.here [hexec, hdg, Op.ldc_w.wp_float (s := T) (f := g) X.here.top hk' (by rw [he]; exact hcf) hcp]
  exact hrest
theorem lv_ldcwf (hexec : p.tables.exec = Jvm.exec) (hb : c.code = cc) {own : String} {index : Nat} {v : UInt32} (hown : s.vm.findClass own = some m.cls) (hconst : (Jvm.Cond.constantFloat own index v).before args s = true) (hdg : decode cc pc = .ok (.ldc_w index, 3)) (k : W p l e R s m args below meth c H locs cells slots Q (F0 m (pc + 3) ls (.float v :: rest))) : W p l e R s m args below meth c H locs cells slots Q (F0 m pc ls rest) := by
  intro T hT X
  obtain ⟨t, a, b⟩ := k T hT X
  exact ⟨t, zx_ldcwf X hexec hown hconst (g := F0 m pc ls rest) rfl (by rw [hb]; exact hdg) t a, b⟩
end LF
theorem px_div {p c r : Int} (h0 : 0 ≤ p) (hc : 1 ≤ c) (hr : r ≤ 16) (h : p < c * r) : 0 ≤ p / c ∧ p / c ≤ 15 := by
  refine ⟨Int.ediv_nonneg h0 (by omega), ?_⟩
  have h2 : p / c < r := Int.ediv_lt_of_lt_mul (by omega) (by rw [Int.mul_comm]; exact h)
  omega
theorem px_mod {p c : Int} (hc : 1 ≤ c) (h24 : c ≤ 24) : 0 ≤ p % c ∧ p % c ≤ 23 := by
  have h1 := Int.emod_nonneg p (show c ≠ 0 by omega)
  have h2 := Int.emod_lt_of_pos p (show 0 < c by omega)
  omega
theorem zt_mulS {x y : Int32} {a b : Int} (hx : x.toInt = a) (hy : y.toInt = b) (ha : 1 ≤ a ∧ a ≤ 24) (hb : 1 ≤ b ∧ b ≤ 16) : (x * y).toInt = a * b ∧ 1 ≤ a * b ∧ a * b ≤ 384 := by
  have h1 : a * b ≤ 24 * 16 := Int.mul_le_mul ha.2 hb.2 (by omega) (by omega)
  have h2 : 1 * 1 ≤ a * b := Int.mul_le_mul ha.1 hb.1 (by omega) (by omega)
  exact ⟨zt_mul hx hy rfl (by omega) (by omega), by omega, by omega⟩
def pxP (p c r : Int) : Prop := 0 ≤ p ∧ p < c * r
