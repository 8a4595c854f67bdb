theorem runs_le (w : Nat → Int32) : ∀ n, (∀ k, k + 1 < n → (w k).toInt ≤ 2 ∨ (w (k + 1)).toInt ≤ 2) → n ≤ 2 * runs w n + 1 ∧ ((n = 0 ∨ (w (n - 1)).toInt ≤ 2) → n ≤ 2 * runs w n) := by
  intro n
  induction n with
  | zero => intro _; exact ⟨by omega, fun _ => by omega⟩
  | succ n ih =>
    intro h
    obtain ⟨h1, h2⟩ := ih (fun k hk => h k (by omega))
    by_cases c : (w n).toInt ≤ 2
    · have e : runs w (n + 1) = runs w n + 1 := by simp [runs, c]
      rw [e]
      exact ⟨by omega, fun _ => by omega⟩
    · have e : runs w (n + 1) = runs w n := by simp [runs, c]
      rw [e]
      have h3 : n ≤ 2 * runs w n := by
        apply h2
        rcases Nat.eq_zero_or_pos n with z | z
        · exact Or.inl z
        · right
          rcases h (n - 1) (by omega) with q | q
          · exact q
          · rw [show n - 1 + 1 = n by omega] at q
            exact absurd q c
      refine ⟨by omega, fun q => ?_⟩
      rcases q with q | q
      · omega
      · rw [show n + 1 - 1 = n by omega] at q
        exact absurd q c
theorem runs_up {w : Nat → Int32} {i : Nat} {x : Int32} : ∀ n, n ≤ i → runs (upd w i x) n = runs w n := by
  intro n
  induction n with
  | zero => intro _; rfl
  | succ n ih =>
    intro h
    have e : upd w i x n = w n := by unfold upd; exact if_neg (by omega)
    simp only [runs, e, ih (by omega)]
theorem fr_push {frames under f2 u2 : Int32} {w : Nat → Int32} {a : Nat → Int64} {f : Nat → Int32} {v g l : Nat → Int64} {i : Nat} {kd : Int32} {cd : Int64} {z : Int32}
    (H : FrOk frames under w a f v g l) (hi : i = frames.toInt.toNat) (hf : f2.toInt = frames.toInt + 1) (hz : z.toInt = 0)
    (hu : (kd.toInt ≤ 2 ∧ u2.toInt = under.toInt + 1 ∧ under.toInt < 8) ∨ (2 < kd.toInt ∧ u2.toInt = under.toInt ∧ (frames.toInt = 0 ∨ (w (frames.toInt - 1).toNat).toInt ≤ 2)))
    (hk : fOk kd cd z (v i) (g i) (l i)) : FrOk f2 u2 (upd w i kd) (vp_updL a i cd) (upd f i z) v g l := by
  subst hi
  obtain ⟨h1, h2, h3, h4⟩ := H
  have es : f2.toInt.toNat = frames.toInt.toNat + 1 := by omega
  have er : runs (upd w frames.toInt.toNat kd) (frames.toInt.toNat + 1) = runs w frames.toInt.toNat + (if kd.toInt ≤ 2 then 1 else 0) := by
    have e : upd w frames.toInt.toNat kd frames.toInt.toNat = kd := by unfold upd; exact if_pos rfl
    simp only [runs, e, runs_up _ (Nat.le_refl _)]
  obtain ⟨r1, r2⟩ := runs_le w _ h4
  have en : (frames.toInt - 1).toNat = frames.toInt.toNat - 1 := by omega
  rw [en] at hu
  refine ⟨?_, ?_, ?_, ?_⟩
  · rcases hu with hu | hu
    · omega
    · have : frames.toInt.toNat ≤ 2 * runs w frames.toInt.toNat := r2 (by rcases hu.2.2 with q | q; exact Or.inl (by omega); exact Or.inr q)
      omega
  · intro k hk2
    by_cases e : k = frames.toInt.toNat
    · subst e
      unfold upd vp_updL
      rw [if_pos rfl, if_pos rfl, if_pos rfl]
      exact hk
    · unfold upd vp_updL
      rw [if_neg e, if_neg e, if_neg e]
      exact h2 k (by omega)
  · rw [es, er]
    rcases hu with hu | hu
    · rw [if_pos hu.1]; omega
    · rw [if_neg (by omega)]; omega
  · intro k hk2
    rw [es] at hk2
    have e1 : upd w frames.toInt.toNat kd k = w k := by unfold upd; exact if_neg (by omega)
    rw [e1]
    by_cases e : k + 1 = frames.toInt.toNat
    · have e2 : upd w frames.toInt.toNat kd (k + 1) = kd := by unfold upd; exact if_pos e
      rw [e2]
      rcases hu with hu | hu
      · exact Or.inr hu.1
      · rcases hu.2.2 with q | q
        · omega
        · left; rw [show k = frames.toInt.toNat - 1 by omega]; exact q
    · have e2 : upd w frames.toInt.toNat kd (k + 1) = w (k + 1) := by unfold upd; exact if_neg e
      rw [e2]
      exact h4 k (by omega)
theorem fr_pop {frames under f2 u2 : Int32} {w : Nat → Int32} {a : Nat → Int64} {f : Nat → Int32} {v g l : Nat → Int64}
    (H : FrOk frames under w a f v g l) (h0 : 0 < frames.toInt) (hf : f2.toInt = frames.toInt - 1) (hu : u2.toInt = under.toInt - (if (w (frames.toInt - 1).toNat).toInt ≤ 2 then 1 else 0)) : FrOk f2 u2 w a f v g l := by
  obtain ⟨h1, h2, h3, h4⟩ := H
  have es : frames.toInt.toNat = f2.toInt.toNat + 1 := by omega
  have en : (frames.toInt - 1).toNat = f2.toInt.toNat := by omega
  rw [en] at hu
  rw [es] at h3
  simp only [runs] at h3
  refine ⟨by omega, fun k hk => h2 k (by omega), ?_, fun k hk => h4 k (by omega)⟩
  split at hu
  · rename_i q; rw [if_pos q] at h3; omega
  · rename_i q; rw [if_neg q] at h3; omega
theorem fr_above {frames under : Int32} {w : Nat → Int32} {a : Nat → Int64} {f : Nat → Int32} {v g l v' g' l' : Nat → Int64} (H : FrOk frames under w a f v g l)
    (hv : ∀ k, k < frames.toInt.toNat → v' k = v k ∧ g' k = g k ∧ l' k = l k) : FrOk frames under w a f v' g' l' := by
  obtain ⟨h1, h2, h3, h4⟩ := H
  refine ⟨h1, fun k hk => ?_, h3, h4⟩
  obtain ⟨e1, e2, e3⟩ := hv k hk
  rw [e1, e2, e3]
  exact h2 k hk
theorem d_Mo_frame_0 : decode prog_15_method_28_code 0 = .ok (.aload_n 0, 1) := by decide +kernel
theorem k_6_177 : Cond.fieldLink "PageScribeModel" 43 "PageScribeModel" "what" "[I" ∈ gw := gw_of (tb_6 (List.mem_of_getElem? (i := 177) (by decide +kernel))) (by decide +kernel)
theorem d_Mo_frame_1 : decode prog_15_method_28_code 1 = .ok (.getfield 43, 3) := by decide +kernel
theorem d_Mo_frame_4 : decode prog_15_method_28_code 4 = .ok (.aload_n 0, 1) := by decide +kernel
theorem k_6_175 : Cond.fieldLink "PageScribeModel" 346 "PageScribeModel" "frames" "I" ∈ gw := gw_of (tb_6 (List.mem_of_getElem? (i := 175) (by decide +kernel))) (by decide +kernel)
theorem d_Mo_frame_5 : decode prog_15_method_28_code 5 = .ok (.getfield 346, 3) := by decide +kernel
theorem d_Mo_frame_8 : decode prog_15_method_28_code 8 = .ok (.iload_n 1, 1) := by decide +kernel
theorem d_Mo_frame_9 : decode prog_15_method_28_code 9 = .ok (.iastore, 1) := by decide +kernel
theorem d_Mo_frame_10 : decode prog_15_method_28_code 10 = .ok (.aload_n 0, 1) := by decide +kernel
theorem k_6_178 : Cond.fieldLink "PageScribeModel" 46 "PageScribeModel" "array" "[J" ∈ gw := gw_of (tb_6 (List.mem_of_getElem? (i := 178) (by decide +kernel))) (by decide +kernel)
theorem d_Mo_frame_11 : decode prog_15_method_28_code 11 = .ok (.getfield 46, 3) := by decide +kernel
theorem d_Mo_frame_14 : decode prog_15_method_28_code 14 = .ok (.aload_n 0, 1) := by decide +kernel
theorem d_Mo_frame_15 : decode prog_15_method_28_code 15 = .ok (.getfield 346, 3) := by decide +kernel
theorem d_Mo_frame_18 : decode prog_15_method_28_code 18 = .ok (.lload_n 2, 1) := by decide +kernel
theorem d_Mo_frame_19 : decode prog_15_method_28_code 19 = .ok (.lastore, 1) := by decide +kernel
theorem d_Mo_frame_20 : decode prog_15_method_28_code 20 = .ok (.aload_n 0, 1) := by decide +kernel
theorem k_6_179 : Cond.fieldLink "PageScribeModel" 49 "PageScribeModel" "far" "[I" ∈ gw := gw_of (tb_6 (List.mem_of_getElem? (i := 179) (by decide +kernel))) (by decide +kernel)
theorem d_Mo_frame_21 : decode prog_15_method_28_code 21 = .ok (.getfield 49, 3) := by decide +kernel
theorem d_Mo_frame_24 : decode prog_15_method_28_code 24 = .ok (.aload_n 0, 1) := by decide +kernel
theorem d_Mo_frame_25 : decode prog_15_method_28_code 25 = .ok (.getfield 346, 3) := by decide +kernel
theorem d_Mo_frame_28 : decode prog_15_method_28_code 28 = .ok (.iconst 0, 1) := by decide +kernel
theorem d_Mo_frame_29 : decode prog_15_method_28_code 29 = .ok (.iastore, 1) := by decide +kernel
theorem d_Mo_frame_30 : decode prog_15_method_28_code 30 = .ok (.aload_n 0, 1) := by decide +kernel
theorem d_Mo_frame_31 : decode prog_15_method_28_code 31 = .ok (.dup, 1) := by decide +kernel
theorem d_Mo_frame_32 : decode prog_15_method_28_code 32 = .ok (.getfield 346, 3) := by decide +kernel
theorem d_Mo_frame_35 : decode prog_15_method_28_code 35 = .ok (.iconst 1, 1) := by decide +kernel
theorem d_Mo_frame_36 : decode prog_15_method_28_code 36 = .ok (.iadd, 1) := by decide +kernel
theorem d_Mo_frame_37 : decode prog_15_method_28_code 37 = .ok (.putfield 346, 3) := by decide +kernel
theorem d_Mo_frame_40 : decode prog_15_method_28_code 40 = .ok (.aload_n 0, 1) := by decide +kernel
theorem d_Mo_frame_41 : decode prog_15_method_28_code 41 = .ok (.dup, 1) := by decide +kernel
theorem k_6_176 : Cond.fieldLink "PageScribeModel" 349 "PageScribeModel" "under" "I" ∈ gw := gw_of (tb_6 (List.mem_of_getElem? (i := 176) (by decide +kernel))) (by decide +kernel)
theorem d_Mo_frame_42 : decode prog_15_method_28_code 42 = .ok (.getfield 349, 3) := by decide +kernel
theorem d_Mo_frame_55 : decode prog_15_method_28_code 55 = .ok (.iadd, 1) := by decide +kernel
theorem d_Mo_frame_56 : decode prog_15_method_28_code 56 = .ok (.putfield 349, 3) := by decide +kernel
theorem d_Mo_frame_59 : decode prog_15_method_28_code 59 = .ok (.return_, 1) := by decide +kernel
theorem d_Mo_frame_45 : decode prog_15_method_28_code 45 = .ok (.iload_n 1, 1) := by decide +kernel
theorem d_Mo_frame_46 : decode prog_15_method_28_code 46 = .ok (.iconst 2, 1) := by decide +kernel
theorem d_Mo_frame_47 : decode prog_15_method_28_code 47 = .ok (.if_icmp .gt 7, 3) := by decide +kernel
theorem d_Mo_frame_54 : decode prog_15_method_28_code 54 = .ok (.iconst 0, 1) := by decide +kernel
theorem d_Mo_frame_50 : decode prog_15_method_28_code 50 = .ok (.iconst 1, 1) := by decide +kernel
theorem d_Mo_frame_51 : decode prog_15_method_28_code 51 = .ok (.goto 4, 3) := by decide +kernel
set_option maxHeartbeats 4000000 in
set_option maxRecDepth 100000 in
theorem m_frame (l : Launch) (D : va_G) (T : Nat → ClassId) (h0 : Nat) (ar : Nat → Nat) (S : MS) (p0 : Int32) (v0 : Int64) (sz : Nat) (hI : MI S) (h2 : (p0.toInt ≤ 2 ∧ (f_under S).toInt < 8) ∨ (2 < p0.toInt ∧ ((f_frames S).toInt = 0 ∨ ((a_what S) ((f_frames S).toInt - 1).toNat).toInt ≤ 2))) (h3 : fOk p0 v0 0 ((a_value S) (f_frames S).toInt.toNat) ((a_grows S) (f_frames S).toInt.toNat) ((a_last S) (f_frames S).toInt.toNat)) : Met l ⟨"PageScribeModel", "frame", "(IJ)V"⟩ (wy ⟨"PageScribeModel", "frame", "(IJ)V"⟩ prog_15_method_28_code 4 none) ({ frames := 0, cells := 0, slots := 0, locals := 0 }) (va_Pc [.ref h0, .int p0, .long v0] (Pw D T (mW T h0 ar S) sz E0)) (va_Qv (fun (u : MS) => MI u ∧ kA S u ∧ ((f_frames u).toInt = (f_frames S).toInt + 1 ∧ ((a_what u) ((f_frames u).toInt - 1).toNat).toInt = p0.toInt ∧ (f_size u) = (f_size S) ∧ (a_kinds u) = (a_kinds S) ∧ (a_codes u) = (a_codes S))) (fun u t => Bw D T (va_A (mW T h0 ar S) sz) (mW T h0 ar u) t) (va_A (mW T h0 ar S) sz)) 0 0 (va_A (mW T h0 ar S) sz) := by
  refine j_met (y := ⟨"PageScribeModel", "frame", "(IJ)V"⟩) (b := prog_15_method_28_code) (n := 4) (ret := none) (av := [.ref h0, .int p0, .long v0]) (Qc := fun A => va_Qv (fun (u : MS) => MI u ∧ kA S u ∧ ((f_frames u).toInt = (f_frames S).toInt + 1 ∧ ((a_what u) ((f_frames u).toInt - 1).toNat).toInt = p0.toInt ∧ (f_size u) = (f_size S) ∧ (a_kinds u) = (a_kinds S) ∧ (a_codes u) = (a_codes S))) (fun u t => Bw D T A (mW T h0 ar u) t) A) (by decide +kernel) (Nat.le_of_ble_eq_true rfl) (fun p e s m args below meth c A ls F hr hlocks hnm hK hP hD hS hA hN hE hl => ?_)
  obtain ⟨hx, hb, hml, hown, hts⟩ := id F
  have hl : lv_has ls 4 [(0, .ref h0), (1, .int p0), (2, .long v0)] := hl
  obtain ⟨i_size, i_taken, i_vals, i_room, i_dicts, i_deep, i_open, i_cells, i_points, i_part, i_length, i_knows, i_page, i_text, i_pats, i_fuel, i_fr, i_ink⟩ := id hI
  refine lv_aload_n hx hb d_Mo_frame_0 rfl (lv_at hl 0 rfl) ?_
  refine va_get (D := D) (ci := 11) (v := .ref (ar 9)) (C := "PageScribeModel") (T := F_Mo) (N := 45) hx hb hts i_Mo hown hK hP 0 mW_0 cl_11 17 (by decide) (hts _ k_6_177) (fun _ h9 => h9) (mg_what _ _) d_Mo_frame_1 ?_
  refine lv_aload_n hx hb d_Mo_frame_4 rfl (lv_at hl 0 rfl) ?_
  refine va_get (D := D) (ci := 11) (v := .int (f_frames S)) (C := "PageScribeModel") (T := F_Mo) (N := 45) hx hb hts i_Mo hown hK hP 0 mW_0 cl_11 15 (by decide) (hts _ k_6_175) (fun _ h9 => h9) (mg_frames _ _) d_Mo_frame_5 ?_
  refine lv_iload_n hx hb d_Mo_frame_8 rfl (lv_at hl 1 rfl) ?_
  refine va_iast hx hb hK hP hD hS 10 0 (ma_what _ _ _ _) rfl (zt_in (show (f_frames S).toInt = _ from rfl) (by omega) (by omega)) d_Mo_frame_9 (fun H locs hP hD hS => ?_)
  rw [ms_what] at hP hD
  rw [zt_ix (show (f_frames S).toInt = _ from rfl)] at hP hD
  have hP : va_P D classes (mW T h0 ar ((S.1, S.2.1, ((f_under S), (upd (a_what S) ((f_frames S).toInt.toNat) p0), (a_array S), (a_far S), (a_value S), (a_grows S), (a_last S), (a_text S)), S.2.2.2.1, S.2.2.2.2.1, S.2.2.2.2.2) : MS)) H := hP
  have hD : va_D A (mW T h0 ar ((S.1, S.2.1, ((f_under S), (upd (a_what S) ((f_frames S).toInt.toNat) p0), (a_array S), (a_far S), (a_value S), (a_grows S), (a_last S), (a_text S)), S.2.2.2.1, S.2.2.2.2.1, S.2.2.2.2.2) : MS)) := hD
  refine lv_aload_n hx hb d_Mo_frame_10 rfl (lv_at hl 0 rfl) ?_
  refine va_get (D := D) (ci := 11) (v := .ref (ar 10)) (C := "PageScribeModel") (T := F_Mo) (N := 45) hx hb hts i_Mo hown hK hP 0 mW_0 cl_11 18 (by decide) (hts _ k_6_178) (fun _ h9 => h9) (mg_array _ _) d_Mo_frame_11 ?_
  refine lv_aload_n hx hb d_Mo_frame_14 rfl (lv_at hl 0 rfl) ?_
  refine va_get (D := D) (ci := 11) (v := .int (f_frames S)) (C := "PageScribeModel") (T := F_Mo) (N := 45) hx hb hts i_Mo hown hK hP 0 mW_0 cl_11 15 (by decide) (hts _ k_6_175) (fun _ h9 => h9) (mg_frames _ _) d_Mo_frame_15 ?_
  refine lv_lload_n hx hb d_Mo_frame_18 rfl (lv_at hl 2 rfl) ?_
  refine va_last hx hb hK hP hD hS 11 1 (ma_array _ _ _ _) rfl (zt_in (show (f_frames S).toInt = _ from rfl) (by omega) (by omega)) d_Mo_frame_19 (fun H locs hP hD hS => ?_)
  rw [ms_array] at hP hD
  rw [zt_ix (show (f_frames S).toInt = _ from rfl)] at hP hD
  have hP : va_P D classes (mW T h0 ar ((S.1, S.2.1, ((f_under S), (upd (a_what S) ((f_frames S).toInt.toNat) p0), (vp_updL (a_array S) ((f_frames S).toInt.toNat) v0), (a_far S), (a_value S), (a_grows S), (a_last S), (a_text S)), S.2.2.2.1, S.2.2.2.2.1, S.2.2.2.2.2) : MS)) H := hP
  have hD : va_D A (mW T h0 ar ((S.1, S.2.1, ((f_under S), (upd (a_what S) ((f_frames S).toInt.toNat) p0), (vp_updL (a_array S) ((f_frames S).toInt.toNat) v0), (a_far S), (a_value S), (a_grows S), (a_last S), (a_text S)), S.2.2.2.1, S.2.2.2.2.1, S.2.2.2.2.2) : MS)) := hD
  refine lv_aload_n hx hb d_Mo_frame_20 rfl (lv_at hl 0 rfl) ?_
  refine va_get (D := D) (ci := 11) (v := .ref (ar 11)) (C := "PageScribeModel") (T := F_Mo) (N := 45) hx hb hts i_Mo hown hK hP 0 mW_0 cl_11 19 (by decide) (hts _ k_6_179) (fun _ h9 => h9) (mg_far _ _) d_Mo_frame_21 ?_
  refine lv_aload_n hx hb d_Mo_frame_24 rfl (lv_at hl 0 rfl) ?_
  refine va_get (D := D) (ci := 11) (v := .int (f_frames S)) (C := "PageScribeModel") (T := F_Mo) (N := 45) hx hb hts i_Mo hown hK hP 0 mW_0 cl_11 15 (by decide) (hts _ k_6_175) (fun _ h9 => h9) (mg_frames _ _) d_Mo_frame_25 ?_
  refine lv_iconst (v := 0) hx hb d_Mo_frame_28 (by decide) ?_
  refine va_iast hx hb hK hP hD hS 12 0 (ma_far _ _ _ _) rfl (zt_in (show (f_frames S).toInt = _ from rfl) (by omega) (by omega)) d_Mo_frame_29 (fun H locs hP hD hS => ?_)
  rw [ms_far] at hP hD
  rw [zt_ix (show (f_frames S).toInt = _ from rfl)] at hP hD
  have hP : va_P D classes (mW T h0 ar ((S.1, S.2.1, ((f_under S), (upd (a_what S) ((f_frames S).toInt.toNat) p0), (vp_updL (a_array S) ((f_frames S).toInt.toNat) v0), (upd (a_far S) ((f_frames S).toInt.toNat) (0 : Int32)), (a_value S), (a_grows S), (a_last S), (a_text S)), S.2.2.2.1, S.2.2.2.2.1, S.2.2.2.2.2) : MS)) H := hP
  have hD : va_D A (mW T h0 ar ((S.1, S.2.1, ((f_under S), (upd (a_what S) ((f_frames S).toInt.toNat) p0), (vp_updL (a_array S) ((f_frames S).toInt.toNat) v0), (upd (a_far S) ((f_frames S).toInt.toNat) (0 : Int32)), (a_value S), (a_grows S), (a_last S), (a_text S)), S.2.2.2.1, S.2.2.2.2.1, S.2.2.2.2.2) : MS)) := hD
  refine lv_aload_n hx hb d_Mo_frame_30 rfl (lv_at hl 0 rfl) ?_
  refine lv_dup hx hb d_Mo_frame_31 rfl ?_
  refine va_get (D := D) (ci := 11) (v := .int (f_frames S)) (C := "PageScribeModel") (T := F_Mo) (N := 45) hx hb hts i_Mo hown hK hP 0 mW_0 cl_11 15 (by decide) (hts _ k_6_175) (fun _ h9 => h9) (mg_frames _ _) d_Mo_frame_32 ?_
  refine lv_iconst (v := 1) hx hb d_Mo_frame_35 (by decide) ?_
  refine lv_iadd hx hb d_Mo_frame_36 ?_
  refine lv_topi (fun x1 ex1 => ?_)
  have fx1 : x1.toInt = ((f_frames S).toInt + 1) := by rw [ex1]; exact (zt_add (show (f_frames S).toInt = _ from rfl) tI_1 (by omega) (by omega)).trans (by omega)
  refine va_put (D := D) (ci := 11) (v := .int x1) (ty := .int) (C := "PageScribeModel") (T := F_Mo) (N := 45) hx hb hts i_Mo t_Mo t_Mo_ok n_Mo hown hK hP hD hS 0 mW_0 cl_11 15 (by decide) (hts _ k_6_175) (fun _ h9 => h9) rfl (by decide +kernel) rfl rfl (Nat.le_of_ble_eq_true rfl) d_Mo_frame_37 (fun H locs hP hD hS => ?_)
  rw [mp_frames] at hP hD
  have hP : va_P D classes (mW T h0 ar ((S.1, ((a_room S), (a_dicts S), (f_deep S), (f_saves S), (f_open S), (a_numbers S), (a_cells S), x1), ((f_under S), (upd (a_what S) ((f_frames S).toInt.toNat) p0), (vp_updL (a_array S) ((f_frames S).toInt.toNat) v0), (upd (a_far S) ((f_frames S).toInt.toNat) (0 : Int32)), (a_value S), (a_grows S), (a_last S), (a_text S)), S.2.2.2.1, S.2.2.2.2.1, S.2.2.2.2.2) : MS)) H := hP
  have hD : va_D A (mW T h0 ar ((S.1, ((a_room S), (a_dicts S), (f_deep S), (f_saves S), (f_open S), (a_numbers S), (a_cells S), x1), ((f_under S), (upd (a_what S) ((f_frames S).toInt.toNat) p0), (vp_updL (a_array S) ((f_frames S).toInt.toNat) v0), (upd (a_far S) ((f_frames S).toInt.toNat) (0 : Int32)), (a_value S), (a_grows S), (a_last S), (a_text S)), S.2.2.2.1, S.2.2.2.2.1, S.2.2.2.2.2) : MS)) := hD
  refine lv_aload_n hx hb d_Mo_frame_40 rfl (lv_at hl 0 rfl) ?_
  refine lv_dup hx hb d_Mo_frame_41 rfl ?_
  refine va_get (D := D) (ci := 11) (v := .int (f_under S)) (C := "PageScribeModel") (T := F_Mo) (N := 45) hx hb hts i_Mo hown hK hP 0 mW_0 cl_11 16 (by decide) (hts _ k_6_176) (fun _ h9 => h9) (mg_under _ _) d_Mo_frame_42 ?_
  refine j_joinH (α := Int32) (fun x H locs ls => ((x.toInt = 1 ∧ p0.toInt ≤ 2) ∨ (x.toInt = 0 ∧ 2 < p0.toInt)) ∧ va_P D classes (mW T h0 ar ((S.1, ((a_room S), (a_dicts S), (f_deep S), (f_saves S), (f_open S), (a_numbers S), (a_cells S), x1), ((f_under S), (upd (a_what S) ((f_frames S).toInt.toNat) p0), (vp_updL (a_array S) ((f_frames S).toInt.toNat) v0), (upd (a_far S) ((f_frames S).toInt.toNat) (0 : Int32)), (a_value S), (a_grows S), (a_last S), (a_text S)), S.2.2.2.1, S.2.2.2.2.1, S.2.2.2.2.2) : MS)) H ∧ va_D A (mW T h0 ar ((S.1, ((a_room S), (a_dicts S), (f_deep S), (f_saves S), (f_open S), (a_numbers S), (a_cells S), x1), ((f_under S), (upd (a_what S) ((f_frames S).toInt.toNat) p0), (vp_updL (a_array S) ((f_frames S).toInt.toNat) v0), (upd (a_far S) ((f_frames S).toInt.toNat) (0 : Int32)), (a_value S), (a_grows S), (a_last S), (a_text S)), S.2.2.2.1, S.2.2.2.2.1, S.2.2.2.2.2) : MS)) ∧ va_S A s.heap H locs ∧ lv_has ls 4 [(0, .ref h0), (1, .int p0), (2, .long v0)]) (fun x ls => F0 m 55 ls (.int x :: [.int (f_under S), .ref h0])) (fun x H locs ls hI9 => ?_) (fun key1 => ?_)
  · obtain ⟨j1, rfl⟩ : ∃ z, z = x := ⟨_, rfl⟩
    obtain ⟨hj1, hP, hD, hS, hl⟩ := hI9
    have hj1 : (j1.toInt = 1 ∧ p0.toInt ≤ 2) ∨ (j1.toInt = 0 ∧ 2 < p0.toInt) := hj1
    have hP : va_P D classes (mW T h0 ar ((S.1, ((a_room S), (a_dicts S), (f_deep S), (f_saves S), (f_open S), (a_numbers S), (a_cells S), x1), ((f_under S), (upd (a_what S) ((f_frames S).toInt.toNat) p0), (vp_updL (a_array S) ((f_frames S).toInt.toNat) v0), (upd (a_far S) ((f_frames S).toInt.toNat) (0 : Int32)), (a_value S), (a_grows S), (a_last S), (a_text S)), S.2.2.2.1, S.2.2.2.2.1, S.2.2.2.2.2) : MS)) H := hP
    have hD : va_D A (mW T h0 ar ((S.1, ((a_room S), (a_dicts S), (f_deep S), (f_saves S), (f_open S), (a_numbers S), (a_cells S), x1), ((f_under S), (upd (a_what S) ((f_frames S).toInt.toNat) p0), (vp_updL (a_array S) ((f_frames S).toInt.toNat) v0), (upd (a_far S) ((f_frames S).toInt.toNat) (0 : Int32)), (a_value S), (a_grows S), (a_last S), (a_text S)), S.2.2.2.1, S.2.2.2.2.1, S.2.2.2.2.2) : MS)) := hD
    have hl : lv_has ls 4 [(0, .ref h0), (1, .int p0), (2, .long v0)] := hl
    refine lv_iadd hx hb d_Mo_frame_55 ?_
    refine lv_topi (fun x2 ex2 => ?_)
    have fx2 : x2.toInt = ((f_under S).toInt + j1.toInt) := by rw [ex2]; exact (zt_add (show (f_under S).toInt = _ from rfl) (show j1.toInt = _ from rfl) (by omega) (by omega)).trans (by omega)
    refine va_put (D := D) (ci := 11) (v := .int x2) (ty := .int) (C := "PageScribeModel") (T := F_Mo) (N := 45) hx hb hts i_Mo t_Mo t_Mo_ok n_Mo hown hK hP hD hS 0 mW_0 cl_11 16 (by decide) (hts _ k_6_176) (fun _ h9 => h9) rfl (by decide +kernel) rfl rfl (Nat.le_of_ble_eq_true rfl) d_Mo_frame_56 (fun H locs hP hD hS => ?_)
    rw [mp_under] at hP hD
    have hP : va_P D classes (mW T h0 ar ((S.1, ((a_room S), (a_dicts S), (f_deep S), (f_saves S), (f_open S), (a_numbers S), (a_cells S), x1), (x2, (upd (a_what S) ((f_frames S).toInt.toNat) p0), (vp_updL (a_array S) ((f_frames S).toInt.toNat) v0), (upd (a_far S) ((f_frames S).toInt.toNat) (0 : Int32)), (a_value S), (a_grows S), (a_last S), (a_text S)), S.2.2.2.1, S.2.2.2.2.1, S.2.2.2.2.2) : MS)) H := hP
    have hD : va_D A (mW T h0 ar ((S.1, ((a_room S), (a_dicts S), (f_deep S), (f_saves S), (f_open S), (a_numbers S), (a_cells S), x1), (x2, (upd (a_what S) ((f_frames S).toInt.toNat) p0), (vp_updL (a_array S) ((f_frames S).toInt.toNat) v0), (upd (a_far S) ((f_frames S).toInt.toNat) (0 : Int32)), (a_value S), (a_grows S), (a_last S), (a_text S)), S.2.2.2.1, S.2.2.2.2.1, S.2.2.2.2.2) : MS)) := hD
    exact j_vret F hr hlocks hK hS ((S.1, ((a_room S), (a_dicts S), (f_deep S), (f_saves S), (f_open S), (a_numbers S), (a_cells S), x1), (x2, (upd (a_what S) ((f_frames S).toInt.toNat) p0), (vp_updL (a_array S) ((f_frames S).toInt.toNat) v0), (upd (a_far S) ((f_frames S).toInt.toNat) (0 : Int32)), (a_value S), (a_grows S), (a_last S), (a_text S)), S.2.2.2.1, S.2.2.2.2.1, S.2.2.2.2.2) : MS) ⟨⟨i_size, i_taken, i_vals, i_room, i_dicts, i_deep, i_open, i_cells, i_points, i_part, i_length, i_knows, i_page, i_text, i_pats, i_fuel, (fr_push (f2 := x1) (u2 := x2) i_fr rfl (by omega) tI_0 (by omega) h3), i_ink⟩, (kA_r S), (show x1.toInt = (f_frames S).toInt + 1 ∧ ((upd (a_what S) ((f_frames S).toInt.toNat) p0) (x1.toInt - 1).toNat).toInt = p0.toInt ∧ (f_size S) = (f_size S) ∧ (a_kinds S) = (a_kinds S) ∧ (a_codes S) = (a_codes S) by exact ⟨by omega, (by rw [show (x1.toInt - 1).toNat = (f_frames S).toInt.toNat by omega]; exact congrArg Int32.toInt upd_s), rfl, rfl, rfl⟩)⟩ hP hD d_Mo_frame_59
  · refine lv_iload_n hx hb d_Mo_frame_45 rfl (lv_at hl 1 rfl) ?_
    refine lv_iconst (v := 2) hx hb d_Mo_frame_46 (by decide) ?_
    refine lv_icmp_gt (tgt := 54) hx hb d_Mo_frame_47 (by decide) (fun c47_1 => ?_) (fun c47_1 => ?_)
    · have fc47_1 : 2 < p0.toInt := zt_lt tI_2 (show p0.toInt = _ from rfl) c47_1
      refine lv_iconst (v := 0) hx hb d_Mo_frame_54 (by decide) ?_
      exact key1 (0 : Int32) _ _ _ ⟨(show ((0 : Int32).toInt = 1 ∧ p0.toInt ≤ 2) ∨ ((0 : Int32).toInt = 0 ∧ 2 < p0.toInt) by have := tI_0; omega), hP, hD, hS, lv_sub hl [0, 1, 2] rfl⟩
    · have fc47_1 : p0.toInt ≤ 2 := Int.not_lt.mp (zt_nlt tI_2 (show p0.toInt = _ from rfl) c47_1)
      refine lv_iconst (v := 1) hx hb d_Mo_frame_50 (by decide) ?_
      refine lv_goto (tgt := 55) hx hb d_Mo_frame_51 (by decide) ?_
      exact key1 (1 : Int32) _ _ _ ⟨(show ((1 : Int32).toInt = 1 ∧ p0.toInt ≤ 2) ∨ ((1 : Int32).toInt = 0 ∧ 2 < p0.toInt) by have := tI_1; omega), hP, hD, hS, lv_sub hl [0, 1, 2] rfl⟩
theorem d_Mo_leave_0 : decode prog_15_method_29_code 0 = .ok (.aload_n 0, 1) := by decide +kernel
theorem d_Mo_leave_1 : decode prog_15_method_29_code 1 = .ok (.dup, 1) := by decide +kernel
theorem d_Mo_leave_2 : decode prog_15_method_29_code 2 = .ok (.getfield 346, 3) := by decide +kernel
theorem d_Mo_leave_5 : decode prog_15_method_29_code 5 = .ok (.iconst 1, 1) := by decide +kernel
theorem d_Mo_leave_6 : decode prog_15_method_29_code 6 = .ok (.isub, 1) := by decide +kernel
theorem d_Mo_leave_7 : decode prog_15_method_29_code 7 = .ok (.putfield 346, 3) := by decide +kernel
theorem d_Mo_leave_10 : decode prog_15_method_29_code 10 = .ok (.aload_n 0, 1) := by decide +kernel
theorem d_Mo_leave_11 : decode prog_15_method_29_code 11 = .ok (.dup, 1) := by decide +kernel
theorem d_Mo_leave_12 : decode prog_15_method_29_code 12 = .ok (.getfield 349, 3) := by decide +kernel
theorem d_Mo_leave_33 : decode prog_15_method_29_code 33 = .ok (.isub, 1) := by decide +kernel
theorem d_Mo_leave_34 : decode prog_15_method_29_code 34 = .ok (.putfield 349, 3) := by decide +kernel
theorem d_Mo_leave_37 : decode prog_15_method_29_code 37 = .ok (.return_, 1) := by decide +kernel
theorem d_Mo_leave_15 : decode prog_15_method_29_code 15 = .ok (.aload_n 0, 1) := by decide +kernel
theorem d_Mo_leave_16 : decode prog_15_method_29_code 16 = .ok (.getfield 43, 3) := by decide +kernel
theorem d_Mo_leave_19 : decode prog_15_method_29_code 19 = .ok (.aload_n 0, 1) := by decide +kernel
theorem d_Mo_leave_20 : decode prog_15_method_29_code 20 = .ok (.getfield 346, 3) := by decide +kernel
theorem d_Mo_leave_23 : decode prog_15_method_29_code 23 = .ok (.iaload, 1) := by decide +kernel
theorem d_Mo_leave_24 : decode prog_15_method_29_code 24 = .ok (.iconst 2, 1) := by decide +kernel
theorem d_Mo_leave_25 : decode prog_15_method_29_code 25 = .ok (.if_icmp .gt 7, 3) := by decide +kernel
theorem d_Mo_leave_32 : decode prog_15_method_29_code 32 = .ok (.iconst 0, 1) := by decide +kernel
theorem d_Mo_leave_28 : decode prog_15_method_29_code 28 = .ok (.iconst 1, 1) := by decide +kernel
theorem d_Mo_leave_29 : decode prog_15_method_29_code 29 = .ok (.goto 4, 3) := by decide +kernel
set_option maxHeartbeats 4000000 in
set_option maxRecDepth 100000 in
theorem m_leave (l : Launch) (D : va_G) (T : Nat → ClassId) (h0 : Nat) (ar : Nat → Nat) (S : MS)  (sz : Nat) (hI : MI S) (h2 : 0 < (f_frames S).toInt) : Met l ⟨"PageScribeModel", "leave", "()V"⟩ (wy ⟨"PageScribeModel", "leave", "()V"⟩ prog_15_method_29_code 1 none) ({ frames := 0, cells := 0, slots := 0, locals := 0 }) (va_Pc [.ref h0] (Pw D T (mW T h0 ar S) sz E0)) (va_Qv (fun (u : MS) => MI u ∧ kA S u ∧ ((f_frames u).toInt = (f_frames S).toInt - 1 ∧ (a_what u) = (a_what S) ∧ (f_size u) = (f_size S) ∧ (a_kinds u) = (a_kinds S) ∧ (a_codes u) = (a_codes S))) (fun u t => Bw D T (va_A (mW T h0 ar S) sz) (mW T h0 ar u) t) (va_A (mW T h0 ar S) sz)) 0 0 (va_A (mW T h0 ar S) sz) := by
  refine j_met (y := ⟨"PageScribeModel", "leave", "()V"⟩) (b := prog_15_method_29_code) (n := 1) (ret := none) (av := [.ref h0]) (Qc := fun A => va_Qv (fun (u : MS) => MI u ∧ kA S u ∧ ((f_frames u).toInt = (f_frames S).toInt - 1 ∧ (a_what u) = (a_what S) ∧ (f_size u) = (f_size S) ∧ (a_kinds u) = (a_kinds S) ∧ (a_codes u) = (a_codes S))) (fun u t => Bw D T A (mW T h0 ar u) t) A) (by decide +kernel) (Nat.le_of_ble_eq_true rfl) (fun p e s m args below meth c A ls F hr hlocks hnm hK hP hD hS hA hN hE hl => ?_)
  obtain ⟨hx, hb, hml, hown, hts⟩ := id F
  have hl : lv_has ls 1 [(0, .ref h0)] := hl
  obtain ⟨i_size, i_taken, i_vals, i_room, i_dicts, i_deep, i_open, i_cells, i_points, i_part, i_length, i_knows, i_page, i_text, i_pats, i_fuel, i_fr, i_ink⟩ := id hI
  refine lv_aload_n hx hb d_Mo_leave_0 rfl (lv_at hl 0 rfl) ?_
  refine lv_dup hx hb d_Mo_leave_1 rfl ?_
  refine va_get (D := D) (ci := 11) (v := .int (f_frames S)) (C := "PageScribeModel") (T := F_Mo) (N := 45) hx hb hts i_Mo hown hK hP 0 mW_0 cl_11 15 (by decide) (hts _ k_6_175) (fun _ h9 => h9) (mg_frames _ _) d_Mo_leave_2 ?_
  refine lv_iconst (v := 1) hx hb d_Mo_leave_5 (by decide) ?_
  refine lv_isub hx hb d_Mo_leave_6 ?_
  refine lv_topi (fun x1 ex1 => ?_)
  have fx1 : x1.toInt = ((f_frames S).toInt - 1) := by rw [ex1]; exact (zt_sub (show (f_frames S).toInt = _ from rfl) tI_1 (by omega) (by omega)).trans (by omega)
  refine va_put (D := D) (ci := 11) (v := .int x1) (ty := .int) (C := "PageScribeModel") (T := F_Mo) (N := 45) hx hb hts i_Mo t_Mo t_Mo_ok n_Mo hown hK hP hD hS 0 mW_0 cl_11 15 (by decide) (hts _ k_6_175) (fun _ h9 => h9) rfl (by decide +kernel) rfl rfl (Nat.le_of_ble_eq_true rfl) d_Mo_leave_7 (fun H locs hP hD hS => ?_)
  rw [mp_frames] at hP hD
  have hP : va_P D classes (mW T h0 ar ((S.1, ((a_room S), (a_dicts S), (f_deep S), (f_saves S), (f_open S), (a_numbers S), (a_cells S), x1), S.2.2.1, S.2.2.2.1, S.2.2.2.2.1, S.2.2.2.2.2) : MS)) H := hP
  have hD : va_D A (mW T h0 ar ((S.1, ((a_room S), (a_dicts S), (f_deep S), (f_saves S), (f_open S), (a_numbers S), (a_cells S), x1), S.2.2.1, S.2.2.2.1, S.2.2.2.2.1, S.2.2.2.2.2) : MS)) := hD
  refine lv_aload_n hx hb d_Mo_leave_10 rfl (lv_at hl 0 rfl) ?_
  refine lv_dup hx hb d_Mo_leave_11 rfl ?_
  refine va_get (D := D) (ci := 11) (v := .int (f_under S)) (C := "PageScribeModel") (T := F_Mo) (N := 45) hx hb hts i_Mo hown hK hP 0 mW_0 cl_11 16 (by decide) (hts _ k_6_176) (fun _ h9 => h9) (mg_under _ _) d_Mo_leave_12 ?_
  refine j_joinH (α := Int32) (fun x H locs ls => ((x.toInt = 1 ∧ ((a_what S) ((f_frames S).toInt - 1).toNat).toInt ≤ 2) ∨ (x.toInt = 0 ∧ 2 < ((a_what S) ((f_frames S).toInt - 1).toNat).toInt)) ∧ va_P D classes (mW T h0 ar ((S.1, ((a_room S), (a_dicts S), (f_deep S), (f_saves S), (f_open S), (a_numbers S), (a_cells S), x1), S.2.2.1, S.2.2.2.1, S.2.2.2.2.1, S.2.2.2.2.2) : MS)) H ∧ va_D A (mW T h0 ar ((S.1, ((a_room S), (a_dicts S), (f_deep S), (f_saves S), (f_open S), (a_numbers S), (a_cells S), x1), S.2.2.1, S.2.2.2.1, S.2.2.2.2.1, S.2.2.2.2.2) : MS)) ∧ va_S A s.heap H locs ∧ lv_has ls 1 [(0, .ref h0)]) (fun x ls => F0 m 33 ls (.int x :: [.int (f_under S), .ref h0])) (fun x H locs ls hI9 => ?_) (fun key1 => ?_)
  · obtain ⟨j1, rfl⟩ : ∃ z, z = x := ⟨_, rfl⟩
    obtain ⟨hj1, hP, hD, hS, hl⟩ := hI9
    have hj1 : (j1.toInt = 1 ∧ ((a_what S) ((f_frames S).toInt - 1).toNat).toInt ≤ 2) ∨ (j1.toInt = 0 ∧ 2 < ((a_what S) ((f_frames S).toInt - 1).toNat).toInt) := hj1
    have hP : va_P D classes (mW T h0 ar ((S.1, ((a_room S), (a_dicts S), (f_deep S), (f_saves S), (f_open S), (a_numbers S), (a_cells S), x1), S.2.2.1, S.2.2.2.1, S.2.2.2.2.1, S.2.2.2.2.2) : MS)) H := hP
    have hD : va_D A (mW T h0 ar ((S.1, ((a_room S), (a_dicts S), (f_deep S), (f_saves S), (f_open S), (a_numbers S), (a_cells S), x1), S.2.2.1, S.2.2.2.1, S.2.2.2.2.1, S.2.2.2.2.2) : MS)) := hD
    have hl : lv_has ls 1 [(0, .ref h0)] := hl
    refine lv_isub hx hb d_Mo_leave_33 ?_
    refine lv_topi (fun x2 ex2 => ?_)
    have fx2 : x2.toInt = ((f_under S).toInt - j1.toInt) := by rw [ex2]; exact (zt_sub (show (f_under S).toInt = _ from rfl) (show j1.toInt = _ from rfl) (by omega) (by omega)).trans (by omega)
    refine va_put (D := D) (ci := 11) (v := .int x2) (ty := .int) (C := "PageScribeModel") (T := F_Mo) (N := 45) hx hb hts i_Mo t_Mo t_Mo_ok n_Mo hown hK hP hD hS 0 mW_0 cl_11 16 (by decide) (hts _ k_6_176) (fun _ h9 => h9) rfl (by decide +kernel) rfl rfl (Nat.le_of_ble_eq_true rfl) d_Mo_leave_34 (fun H locs hP hD hS => ?_)
    rw [mp_under] at hP hD
    have hP : va_P D classes (mW T h0 ar ((S.1, ((a_room S), (a_dicts S), (f_deep S), (f_saves S), (f_open S), (a_numbers S), (a_cells S), x1), (x2, (a_what S), (a_array S), (a_far S), (a_value S), (a_grows S), (a_last S), (a_text S)), S.2.2.2.1, S.2.2.2.2.1, S.2.2.2.2.2) : MS)) H := hP
    have hD : va_D A (mW T h0 ar ((S.1, ((a_room S), (a_dicts S), (f_deep S), (f_saves S), (f_open S), (a_numbers S), (a_cells S), x1), (x2, (a_what S), (a_array S), (a_far S), (a_value S), (a_grows S), (a_last S), (a_text S)), S.2.2.2.1, S.2.2.2.2.1, S.2.2.2.2.2) : MS)) := hD
    exact j_vret F hr hlocks hK hS ((S.1, ((a_room S), (a_dicts S), (f_deep S), (f_saves S), (f_open S), (a_numbers S), (a_cells S), x1), (x2, (a_what S), (a_array S), (a_far S), (a_value S), (a_grows S), (a_last S), (a_text S)), S.2.2.2.1, S.2.2.2.2.1, S.2.2.2.2.2) : MS) ⟨⟨i_size, i_taken, i_vals, i_room, i_dicts, i_deep, i_open, i_cells, i_points, i_part, i_length, i_knows, i_page, i_text, i_pats, i_fuel, (fr_pop (f2 := x1) (u2 := x2) (w := a_what S) i_fr (by omega) (by omega) (by split <;> omega)), i_ink⟩, (kA_r S), (show x1.toInt = (f_frames S).toInt - 1 ∧ (a_what S) = (a_what S) ∧ (f_size S) = (f_size S) ∧ (a_kinds S) = (a_kinds S) ∧ (a_codes S) = (a_codes S) by exact ⟨by omega, rfl, rfl, rfl, rfl⟩)⟩ hP hD d_Mo_leave_37
  · refine lv_aload_n hx hb d_Mo_leave_15 rfl (lv_at hl 0 rfl) ?_
    refine va_get (D := D) (ci := 11) (v := .ref (ar 9)) (C := "PageScribeModel") (T := F_Mo) (N := 45) hx hb hts i_Mo hown hK hP 0 mW_0 cl_11 17 (by decide) (hts _ k_6_177) (fun _ h9 => h9) (mg_what _ _) d_Mo_leave_16 ?_
    refine lv_aload_n hx hb d_Mo_leave_19 rfl (lv_at hl 0 rfl) ?_
    refine va_get (D := D) (ci := 11) (v := .int x1) (C := "PageScribeModel") (T := F_Mo) (N := 45) hx hb hts i_Mo hown hK hP 0 mW_0 cl_11 15 (by decide) (hts _ k_6_175) (fun _ h9 => h9) (mg_frames _ _) d_Mo_leave_20 ?_
    refine va_iald hx hb hK hP 10 0 (ma_what _ _ _ _) rfl (zt_in fx1 (by omega) (by omega)) d_Mo_leave_23 ?_
    refine lv_topi (fun x3 ex3 => ?_)
    have gx3 : x3 = (a_what S) ((f_frames S).toInt - 1).toNat := ex3.trans (congrArg _ (zt_ix fx1))
    have fx3 : x3.toInt = ((a_what S) ((f_frames S).toInt - 1).toNat).toInt := by rw [gx3]
    refine lv_iconst (v := 2) hx hb d_Mo_leave_24 (by decide) ?_
    refine lv_icmp_gt (tgt := 32) hx hb d_Mo_leave_25 (by decide) (fun c25_1 => ?_) (fun c25_1 => ?_)
    · have fc25_1 : 2 < x3.toInt := zt_lt tI_2 (show x3.toInt = _ from rfl) c25_1
      refine lv_iconst (v := 0) hx hb d_Mo_leave_32 (by decide) ?_
      exact key1 (0 : Int32) _ _ _ ⟨(show ((0 : Int32).toInt = 1 ∧ ((a_what S) ((f_frames S).toInt - 1).toNat).toInt ≤ 2) ∨ ((0 : Int32).toInt = 0 ∧ 2 < ((a_what S) ((f_frames S).toInt - 1).toNat).toInt) by have := tI_0; omega), hP, hD, hS, lv_sub hl [0] rfl⟩
    · have fc25_1 : x3.toInt ≤ 2 := Int.not_lt.mp (zt_nlt tI_2 (show x3.toInt = _ from rfl) c25_1)
      refine lv_iconst (v := 1) hx hb d_Mo_leave_28 (by decide) ?_
      refine lv_goto (tgt := 33) hx hb d_Mo_leave_29 (by decide) ?_
      exact key1 (1 : Int32) _ _ _ ⟨(show ((1 : Int32).toInt = 1 ∧ ((a_what S) ((f_frames S).toInt - 1).toNat).toInt ≤ 2) ∨ ((1 : Int32).toInt = 0 ∧ 2 < ((a_what S) ((f_frames S).toInt - 1).toNat).toInt) by have := tI_1; omega), hP, hD, hS, lv_sub hl [0] rfl⟩
