/-! ===== what is read, as numbers of the state ===== -/
theorem uw_in {j n : Nat} (hj : j < n) (hn : n < 2 ^ 31) : um_in (nI j) n = true := by rw [um_in_nI (by omega) hn, decide_eq_true hj]
theorem uw_no {j n : Nat} (hj : ¬ j < n) (h : j < 2 ^ 31) (hn : n < 2 ^ 31) : um_in (nI j) n = false := by rw [um_in_nI h hn, decide_eq_false hj]
theorem uw_ropeOf {f : Nat → Nat} {c j i : Nat} (hI : um_I f c) (hj : j < f 0) (hi : i < 6) : ux_ropeOf f (nI j) (nI i) = nI (f (11 + 6 * j + i)) := by
  have hn := hI.2.1
  have e : ufX9_ropeOf (um_nv f) (nI j) (nI i) = some (nI (f (11 + 6 * j + i))) := by
    unfold ufX9_ropeOf
    rw [um_isRope (by omega), uw_in hj (by omega)]
    simp -implicitDefEqProofs (disch := omega) only [um_l0, um_l1, um_l2, um_l3, um_l4, um_l5, um_l6, um_l7, um_l8, um_l9, um_l10, um_l11, um_l12, um_l16, um_l20, um_l23, um_l24, um_l31, um_l32, um_l35, um_l42, um_l43, um_l45, um_l48, um_l57, um_l58, um_l59, um_l60, um_l61, um_l63, um_l64, um_l68, um_l83, um_l99, um_l100, um_l101, um_l102, um_l103, um_l104, um_l105, um_l106, um_l107, um_l108, um_l109, um_l110, um_l111, um_l112, um_l113, um_l114, um_l115, um_l116, um_l117, um_l118, um_l126, um_l128, um_l130, um_l131, um_l132, um_l133, um_l134, um_l135, um_l180, um_l210, um_l211, um_l235, um_l1645, um_l1880, ↓um_nm, um_b1, um_b2, um_b3, um_b4, um_b5, um_b6, um_b7, um_b8, um_b9, um_b10, um_gd, um_bz0, um_bz1, um_m1, nI_add, pk_mul, um_sub_lt0, um_sub_gt0, um_sub_eq0, um_sub_le0, pk_sub, nI_ltI, nI_leI, nI_eq, nI_clamp, um_nv_at, um_nv_up, um_up_eq, um_up_ne, if_true, if_false, if_pos, if_neg, um_at, um_at0, um_put, um_add, um_b2n_t, @um_isInK _ 5 6, uw_in hi (by decide), um_x_at]
  unfold ux_ropeOf
  rw [e]
  rfl
theorem uw_ropeOf6 {f : Nat → Nat} {c j : Nat} (hI : um_I f c) (hj : j < f 0) : ux_ropeOf f (nI j) (nI 6) = nI (um_cnt (fun k => decide (f (83 + 3 * k) = j)) (f 1)) := by
  obtain ⟨q0, q1, q2, q3, q4, q5, q6, q7, q8, q9, q10, q11, q12, q13, q14, q15⟩ := hI
  have hb' : ∀ k, k < f 1 → f (83 + 3 * k) < 2 ^ 31 := fun k hk => by have := (q14 k hk).1; omega
  have e : ufX9_ropeOf (um_nv f) (nI j) (nI 6) = some (nI (um_cnt (fun k => decide (f (83 + 3 * k) = j)) (f 1))) := by
    unfold ufX9_ropeOf
    rw [um_isRope (by omega), uw_in hj (by omega)]
    simp -implicitDefEqProofs (disch := omega) only [um_l0, um_l1, um_l2, um_l3, um_l4, um_l5, um_l6, um_l7, um_l8, um_l9, um_l10, um_l11, um_l12, um_l16, um_l20, um_l23, um_l24, um_l31, um_l32, um_l35, um_l42, um_l43, um_l45, um_l48, um_l57, um_l58, um_l59, um_l60, um_l61, um_l63, um_l64, um_l68, um_l83, um_l99, um_l100, um_l101, um_l102, um_l103, um_l104, um_l105, um_l106, um_l107, um_l108, um_l109, um_l110, um_l111, um_l112, um_l113, um_l114, um_l115, um_l116, um_l117, um_l118, um_l126, um_l128, um_l130, um_l131, um_l132, um_l133, um_l134, um_l135, um_l180, um_l210, um_l211, um_l235, um_l1645, um_l1880, ↓um_nm, um_b1, um_b2, um_b3, um_b4, um_b5, um_b6, um_b7, um_b8, um_b9, um_b10, um_gd, um_bz0, um_bz1, um_m1, nI_add, pk_mul, um_sub_lt0, um_sub_gt0, um_sub_eq0, um_sub_le0, pk_sub, nI_ltI, nI_leI, nI_eq, nI_clamp, um_nv_at, um_nv_up, um_up_eq, um_up_ne, if_true, if_false, if_pos, if_neg, um_at, um_at0, um_put, um_add, um_b2n_t, @um_isInK _ 5 6, um_in_nI, um_waitingOf q2 (show j < 2 ^ 31 by omega) hb', Nat.reduceLT, decide_false, um_b2n_f]
  unfold ux_ropeOf
  rw [e]
  rfl
theorem uw_waiting {f : Nat → Nat} {c j i : Nat} (hI : um_I f c) (hj : j < f 1) (hi : i < 3) : ux_waiting f (nI j) (nI i) = nI (f (83 + 3 * j + i)) := by
  have hn := hI.2.2.1
  have e : ufX9_waiting (um_nv f) (nI j) (nI i) = some (nI (f (83 + 3 * j + i))) := by
    unfold ufX9_waiting
    simp -implicitDefEqProofs (disch := omega) only [um_l0, um_l1, um_l2, um_l3, um_l4, um_l5, um_l6, um_l7, um_l8, um_l9, um_l10, um_l11, um_l12, um_l16, um_l20, um_l23, um_l24, um_l31, um_l32, um_l35, um_l42, um_l43, um_l45, um_l48, um_l57, um_l58, um_l59, um_l60, um_l61, um_l63, um_l64, um_l68, um_l83, um_l99, um_l100, um_l101, um_l102, um_l103, um_l104, um_l105, um_l106, um_l107, um_l108, um_l109, um_l110, um_l111, um_l112, um_l113, um_l114, um_l115, um_l116, um_l117, um_l118, um_l126, um_l128, um_l130, um_l131, um_l132, um_l133, um_l134, um_l135, um_l180, um_l210, um_l211, um_l235, um_l1645, um_l1880, ↓um_nm, um_b1, um_b2, um_b3, um_b4, um_b5, um_b6, um_b7, um_b8, um_b9, um_b10, um_gd, um_bz0, um_bz1, um_m1, nI_add, pk_mul, um_sub_lt0, um_sub_gt0, um_sub_eq0, um_sub_le0, pk_sub, nI_ltI, nI_leI, nI_eq, nI_clamp, um_nv_at, um_nv_up, um_up_eq, um_up_ne, if_true, if_false, if_pos, if_neg, um_at, um_at0, um_put, um_add, um_b2n_t, @um_isInK _ (f 1 - 1) (f 1), uw_in hj (by omega), @um_isInK _ 2 3, uw_in hi (by decide), um_pulled]
  unfold ux_waiting
  rw [e]
  rfl
theorem uw_waitingNo {f : Nat → Nat} {c j : Nat} {w : Int32} (hI : um_I f c) (hj : ¬ j < f 1) (h : j < 2 ^ 31) : ux_waiting f (nI j) w = -1011 := by
  have hn := hI.2.2.1
  have e : ufX9_waiting (um_nv f) (nI j) w = some (-1011) := by
    unfold ufX9_waiting
    simp -implicitDefEqProofs (disch := omega) only [um_l0, um_l1, um_l2, um_l3, um_l4, um_l5, um_l6, um_l7, um_l8, um_l9, um_l10, um_l11, um_l12, um_l16, um_l20, um_l23, um_l24, um_l31, um_l32, um_l35, um_l42, um_l43, um_l45, um_l48, um_l57, um_l58, um_l59, um_l60, um_l61, um_l63, um_l64, um_l68, um_l83, um_l99, um_l100, um_l101, um_l102, um_l103, um_l104, um_l105, um_l106, um_l107, um_l108, um_l109, um_l110, um_l111, um_l112, um_l113, um_l114, um_l115, um_l116, um_l117, um_l118, um_l126, um_l128, um_l130, um_l131, um_l132, um_l133, um_l134, um_l135, um_l180, um_l210, um_l211, um_l235, um_l1645, um_l1880, ↓um_nm, um_b1, um_b2, um_b3, um_b4, um_b5, um_b6, um_b7, um_b8, um_b9, um_b10, um_gd, um_bz0, um_bz1, um_m1, nI_add, pk_mul, um_sub_lt0, um_sub_gt0, um_sub_eq0, um_sub_le0, pk_sub, nI_ltI, nI_leI, nI_eq, nI_clamp, um_nv_at, um_nv_up, um_up_eq, um_up_ne, if_true, if_false, if_pos, if_neg, um_at, um_at0, um_put, um_add, um_isIn0, uw_no hj h (by omega), um_b2n_f]
  unfold ux_waiting
  rw [e]
  rfl
theorem uw_would {f : Nat → Nat} {c j s : Nat} (hI : um_I f c) (hj : j < f 0) (h1 : 1 ≤ s) (h9 : s ≤ 9) : ux_would f (nI j) (nI s) = nI (um_b2n (decide (f (12 + 6 * j) = 1) && decide (f (13 + 6 * j) < s))) := by
  have hn := hI.2.1
  have hq := hI.2.2.2.2.2.2.2.2.2.1 j (by omega)
  have e : ufX9_would (um_nv f) (nI j) (nI s) = some (nI (um_b2n (decide (f (12 + 6 * j) = 1) && decide (f (13 + 6 * j) < s)))) := by
    unfold ufX9_would
    rw [um_isRope (by omega), uw_in hj (by omega)]
    have e2 : ufX9_isIn (nI s) 1 9 = some 1 := by
      unfold ufX9_isIn
      rw [if_neg (show ¬ nI s < (1 : Int32) from nI_nlt (a := s) (b := 1) h1 (by omega)), if_neg (show ¬ (9 : Int32) < nI s from nI_nlt (a := 9) (b := s) h9 (by decide))]
    rw [e2, um_b1, if_neg (by decide), um_b1, if_neg (by decide), um_isHeard (by omega) (by omega) (by omega) (by omega), um_b1]
    cases (decide (f (12 + 6 * j) = 1) && decide (f (13 + 6 * j) < s)) <;> rfl
  unfold ux_would
  rw [e]
  rfl
theorem uw_wouldNo {f : Nat → Nat} {c j : Nat} {w : Int32} (hI : um_I f c) (hj : ¬ j < f 0) (h : j < 2 ^ 31) : ux_would f (nI j) w = -1011 := by
  have hn := hI.2.1
  have e : ufX9_would (um_nv f) (nI j) w = some (-1011) := by
    unfold ufX9_would
    rw [um_isRope (by omega), uw_no hj h (by omega)]
    rfl
  unfold ux_would
  rw [e]
  rfl
theorem uw_answerOf {f : Nat → Nat} {c j i : Nat} (hI : um_I f c) (hj : j < f 9) (hi : i < 4) : ux_answerOf f (nI j) (nI i) = nI (f (131 + 4 * j + i)) := by
  have hn : f 9 ≤ 20 := hI.2.2.2.2.2.2.2.2.1
  have e : ufX9_answerOf (um_nv f) (nI j) (nI i) = some (nI (f (131 + 4 * j + i))) := by
    unfold ufX9_answerOf
    simp -implicitDefEqProofs (disch := omega) only [um_l0, um_l1, um_l2, um_l3, um_l4, um_l5, um_l6, um_l7, um_l8, um_l9, um_l10, um_l11, um_l12, um_l16, um_l20, um_l23, um_l24, um_l31, um_l32, um_l35, um_l42, um_l43, um_l45, um_l48, um_l57, um_l58, um_l59, um_l60, um_l61, um_l63, um_l64, um_l68, um_l83, um_l99, um_l100, um_l101, um_l102, um_l103, um_l104, um_l105, um_l106, um_l107, um_l108, um_l109, um_l110, um_l111, um_l112, um_l113, um_l114, um_l115, um_l116, um_l117, um_l118, um_l126, um_l128, um_l130, um_l131, um_l132, um_l133, um_l134, um_l135, um_l180, um_l210, um_l211, um_l235, um_l1645, um_l1880, ↓um_nm, um_b1, um_b2, um_b3, um_b4, um_b5, um_b6, um_b7, um_b8, um_b9, um_b10, um_gd, um_bz0, um_bz1, um_m1, nI_add, pk_mul, um_sub_lt0, um_sub_gt0, um_sub_eq0, um_sub_le0, pk_sub, nI_ltI, nI_leI, nI_eq, nI_clamp, um_nv_at, um_nv_up, um_up_eq, um_up_ne, if_true, if_false, if_pos, if_neg, um_at, um_at0, um_put, um_add, um_b2n_t, @um_isInK _ (f 9 - 1) (f 9), uw_in hj (by omega), @um_isInK _ 3 4, uw_in hi (by decide)]
  unfold ux_answerOf
  rw [e]
  rfl
theorem uw_answerOfNo {f : Nat → Nat} {c j : Nat} {w : Int32} (hI : um_I f c) (hj : ¬ j < f 9) (h : j < 2 ^ 31) : ux_answerOf f (nI j) w = -1011 := by
  have hn : f 9 ≤ 20 := hI.2.2.2.2.2.2.2.2.1
  have e : ufX9_answerOf (um_nv f) (nI j) w = some (-1011) := by
    unfold ufX9_answerOf
    simp -implicitDefEqProofs (disch := omega) only [um_l0, um_l1, um_l2, um_l3, um_l4, um_l5, um_l6, um_l7, um_l8, um_l9, um_l10, um_l11, um_l12, um_l16, um_l20, um_l23, um_l24, um_l31, um_l32, um_l35, um_l42, um_l43, um_l45, um_l48, um_l57, um_l58, um_l59, um_l60, um_l61, um_l63, um_l64, um_l68, um_l83, um_l99, um_l100, um_l101, um_l102, um_l103, um_l104, um_l105, um_l106, um_l107, um_l108, um_l109, um_l110, um_l111, um_l112, um_l113, um_l114, um_l115, um_l116, um_l117, um_l118, um_l126, um_l128, um_l130, um_l131, um_l132, um_l133, um_l134, um_l135, um_l180, um_l210, um_l211, um_l235, um_l1645, um_l1880, ↓um_nm, um_b1, um_b2, um_b3, um_b4, um_b5, um_b6, um_b7, um_b8, um_b9, um_b10, um_gd, um_bz0, um_bz1, um_m1, nI_add, pk_mul, um_sub_lt0, um_sub_gt0, um_sub_eq0, um_sub_le0, pk_sub, nI_ltI, nI_leI, nI_eq, nI_clamp, um_nv_at, um_nv_up, um_up_eq, um_up_ne, if_true, if_false, if_pos, if_neg, um_at, um_at0, um_put, um_add, um_isIn0, uw_no hj h (by omega), um_b2n_f]
  unfold ux_answerOf
  rw [e]
  rfl
theorem uw_answered {f : Nat → Nat} {h : Nat} (hh : h < 24) : ux_answered f (nI h) = nI (f (211 + h)) := by
  have e : ufX9_answered (um_nv f) (nI h) = some (nI (f (211 + h))) := by
    unfold ufX9_answered
    rw [um_isHour, uw_in hh (by decide)]
    simp -implicitDefEqProofs (disch := omega) only [um_l0, um_l1, um_l2, um_l3, um_l4, um_l5, um_l6, um_l7, um_l8, um_l9, um_l10, um_l11, um_l12, um_l16, um_l20, um_l23, um_l24, um_l31, um_l32, um_l35, um_l42, um_l43, um_l45, um_l48, um_l57, um_l58, um_l59, um_l60, um_l61, um_l63, um_l64, um_l68, um_l83, um_l99, um_l100, um_l101, um_l102, um_l103, um_l104, um_l105, um_l106, um_l107, um_l108, um_l109, um_l110, um_l111, um_l112, um_l113, um_l114, um_l115, um_l116, um_l117, um_l118, um_l126, um_l128, um_l130, um_l131, um_l132, um_l133, um_l134, um_l135, um_l180, um_l210, um_l211, um_l235, um_l1645, um_l1880, ↓um_nm, um_b1, um_b2, um_b3, um_b4, um_b5, um_b6, um_b7, um_b8, um_b9, um_b10, um_gd, um_bz0, um_bz1, um_m1, nI_add, pk_mul, um_sub_lt0, um_sub_gt0, um_sub_eq0, um_sub_le0, pk_sub, nI_ltI, nI_leI, nI_eq, nI_clamp, um_nv_at, um_nv_up, um_up_eq, um_up_ne, if_true, if_false, if_pos, if_neg, um_at, um_at0, um_put, um_add, um_b2n_t]
  unfold ux_answered
  rw [e]
  rfl
theorem uw_guess {f : Nat → Nat} {c h : Nat} (hI : um_I f c) (hh : h < 24) : ux_guess f (nI h) = um_guess (um_pa f) (f 0) (f (211 + h)) := by
  have hs := um_I_set hI hh
  have e : ufX9_guess (um_nv f) (nI h) = some (um_guess (um_pa f) (f 0) (f (211 + h))) := by
    unfold ufX9_guess
    rw [um_isHour, uw_in hh (by decide), um_b1, if_neg (by decide), um_guessed hI.2.1 hh hs (fun r hr => (hI.2.2.2.2.2.2.2.2.2.1 r (by have := hI.2.1; omega)).1), um_b1]
  unfold ux_guess
  rw [e]
  rfl
theorem uw_guess24 {f : Nat → Nat} : ux_guess f (nI 24) = -1012 := by
  have e : ufX9_guess (um_nv f) (nI 24) = some (-1012) := by
    unfold ufX9_guess
    rw [um_isHour, uw_no (by decide) (by decide) (by decide)]
    rfl
  unfold ux_guess
  rw [e]
  rfl
theorem uw_rustiest {f : Nat → Nat} {c : Nat} {x : Int32} (hI : um_I f c) : ux_rustiest f x = um_fst (fun i => decide (nI (um_cnt (fun o => um_rustier (fun r => f (13 + 6 * r)) (fun r => f (14 + 6 * r)) o i) (f 0)) = x)) nI (-1011) (f 0) 0 := by
  unfold ux_rustiest
  rw [um_v_rustiest hI]
  rfl
theorem uw_ranked {f : Nat → Nat} {c : Nat} {x : Int32} (hI : um_I f c) : ux_ranked f x = um_fst (fun i => decide (nI (um_cnt (fun o => um_ahead (um_pa f) (fun r => f (14 + 6 * r)) (f 0) o i) 4) = x)) nI (-1011) 4 0 := by
  unfold ux_ranked
  rw [um_v_ranked hI]
  rfl
theorem uw_busiest {f : Nat → Nat} {c : Nat} (hI : um_I f c) : ux_busiest f = if f (211 + um_bm (fun h => um_pop 12 (f (211 + h))) 23) = 0 then (-1015) else nI (um_bm (fun h => um_pop 12 (f (211 + h))) 23) := by
  unfold ux_busiest
  rw [um_v_busiest hI]
  rfl
theorem uw_meanRust {f : Nat → Nat} {c : Nat} (hI : um_I f c) : ux_meanRust f = if f 0 = 0 then FP.dconst0 else FP.ddiv (FP.i2d (nI (um_sum (fun r => f (13 + 6 * r)) (f 0)))) (FP.i2d (nI (f 0))) := by
  have e9 := um_rust9 (f := f) hI.2.1
  have hle : um_sum (fun r => f (13 + 6 * r)) (f 0) ≤ f 0 * 9 := um_sum_le (fun r hr => (hI.2.2.2.2.2.2.2.2.2.1 r (by have := hI.2.1; omega)).2.2)
  have h12 := hI.2.1
  unfold ux_meanRust ufX9_meanRust
  rw [e9]
  by_cases h0 : f 0 = 0
  · rw [if_pos h0]
    simp -implicitDefEqProofs (disch := omega) only [um_l0, um_l1, um_l2, um_l3, um_l4, um_l5, um_l6, um_l7, um_l8, um_l9, um_l10, um_l11, um_l12, um_l16, um_l20, um_l23, um_l24, um_l31, um_l32, um_l35, um_l42, um_l43, um_l45, um_l48, um_l57, um_l58, um_l59, um_l60, um_l61, um_l63, um_l64, um_l68, um_l83, um_l99, um_l100, um_l101, um_l102, um_l103, um_l104, um_l105, um_l106, um_l107, um_l108, um_l109, um_l110, um_l111, um_l112, um_l113, um_l114, um_l115, um_l116, um_l117, um_l118, um_l126, um_l128, um_l130, um_l131, um_l132, um_l133, um_l134, um_l135, um_l180, um_l210, um_l211, um_l235, um_l1645, um_l1880, ↓um_nm, um_b1, um_b2, um_b3, um_b4, um_b5, um_b6, um_b7, um_b8, um_b9, um_b10, um_gd, um_bz0, um_bz1, um_m1, nI_add, pk_mul, um_sub_lt0, um_sub_gt0, um_sub_eq0, um_sub_le0, pk_sub, nI_ltI, nI_leI, nI_eq, nI_clamp, um_nv_at, um_nv_up, um_up_eq, um_up_ne, if_true, if_false, if_pos, if_neg, um_at, um_at0, um_put, um_add, h0, Option.getD_some]
  · have hn := um_mean_nan (f 0) (by omega) h0 (um_sum (fun r => f (13 + 6 * r)) (f 0)) (by omega)
    generalize um_sum (fun r => f (13 + 6 * r)) (f 0) = s at *
    have e : ub_n64 (FP.ddiv (FP.i2d (nI s)) (FP.i2d (nI (f 0)))) (some (FP.ddiv (FP.i2d (nI s)) (FP.i2d (nI (f 0))))) = some (FP.ddiv (FP.i2d (nI s)) (FP.i2d (nI (f 0)))) := if_pos hn
    rw [if_neg h0]
    simp -implicitDefEqProofs (disch := omega) only [um_l0, um_l1, um_l2, um_l3, um_l4, um_l5, um_l6, um_l7, um_l8, um_l9, um_l10, um_l11, um_l12, um_l16, um_l20, um_l23, um_l24, um_l31, um_l32, um_l35, um_l42, um_l43, um_l45, um_l48, um_l57, um_l58, um_l59, um_l60, um_l61, um_l63, um_l64, um_l68, um_l83, um_l99, um_l100, um_l101, um_l102, um_l103, um_l104, um_l105, um_l106, um_l107, um_l108, um_l109, um_l110, um_l111, um_l112, um_l113, um_l114, um_l115, um_l116, um_l117, um_l118, um_l126, um_l128, um_l130, um_l131, um_l132, um_l133, um_l134, um_l135, um_l180, um_l210, um_l211, um_l235, um_l1645, um_l1880, ↓um_nm, um_b1, um_b2, um_b3, um_b4, um_b5, um_b6, um_b7, um_b8, um_b9, um_b10, um_gd, um_bz0, um_bz1, um_m1, nI_add, pk_mul, um_sub_lt0, um_sub_gt0, um_sub_eq0, um_sub_le0, pk_sub, nI_ltI, nI_leI, nI_eq, nI_clamp, um_nv_at, um_nv_up, um_up_eq, um_up_ne, if_true, if_false, if_pos, if_neg, um_at, um_at0, um_put, um_add, h0, um_b1, e, Option.getD_some]
theorem uw_answerShare {f : Nat → Nat} {c : Nat} (hI : um_I f c) (hc : c < 16384) : ux_answerShare f = if f 5 + f 6 + f 7 = 0 then FP.fconst0 else FP.fdiv (FP.i2f (nI (f 5))) (FP.i2f (nI (f 5 + f 6 + f 7))) := by
  obtain ⟨q0, q1, q2, q3, q4, q5, q6, q7, q8, q9, q10, q11, q12, q13, q14, q15⟩ := hI
  unfold ux_answerShare ufX9_answerShare
  by_cases h0 : f 5 + f 6 + f 7 = 0
  · have a5 : f 5 = 0 := by omega
    have a6 : f 6 = 0 := by omega
    have a7 : f 7 = 0 := by omega
    rw [if_pos h0]
    simp -implicitDefEqProofs (disch := omega) only [um_l0, um_l1, um_l2, um_l3, um_l4, um_l5, um_l6, um_l7, um_l8, um_l9, um_l10, um_l11, um_l12, um_l16, um_l20, um_l23, um_l24, um_l31, um_l32, um_l35, um_l42, um_l43, um_l45, um_l48, um_l57, um_l58, um_l59, um_l60, um_l61, um_l63, um_l64, um_l68, um_l83, um_l99, um_l100, um_l101, um_l102, um_l103, um_l104, um_l105, um_l106, um_l107, um_l108, um_l109, um_l110, um_l111, um_l112, um_l113, um_l114, um_l115, um_l116, um_l117, um_l118, um_l126, um_l128, um_l130, um_l131, um_l132, um_l133, um_l134, um_l135, um_l180, um_l210, um_l211, um_l235, um_l1645, um_l1880, ↓um_nm, um_b1, um_b2, um_b3, um_b4, um_b5, um_b6, um_b7, um_b8, um_b9, um_b10, um_gd, um_bz0, um_bz1, um_m1, nI_add, pk_mul, um_sub_lt0, um_sub_gt0, um_sub_eq0, um_sub_le0, pk_sub, nI_ltI, nI_leI, nI_eq, nI_clamp, um_nv_at, um_nv_up, um_up_eq, um_up_ne, if_true, if_false, if_pos, if_neg, um_at, um_at0, um_put, um_add, a5, a6, a7, Option.getD_some]
  · have hn := um_share_nan (m := f 5) (n := f 5 + f 6 + f 7) (by omega) (by omega) h0
    have e : ub_n32 (FP.fdiv (FP.i2f (nI (f 5))) (FP.i2f (nI (f 5 + f 6 + f 7)))) (some (FP.fdiv (FP.i2f (nI (f 5))) (FP.i2f (nI (f 5 + f 6 + f 7))))) = some (FP.fdiv (FP.i2f (nI (f 5))) (FP.i2f (nI (f 5 + f 6 + f 7)))) := if_pos hn
    rw [if_neg h0]
    simp -implicitDefEqProofs (disch := omega) only [um_l0, um_l1, um_l2, um_l3, um_l4, um_l5, um_l6, um_l7, um_l8, um_l9, um_l10, um_l11, um_l12, um_l16, um_l20, um_l23, um_l24, um_l31, um_l32, um_l35, um_l42, um_l43, um_l45, um_l48, um_l57, um_l58, um_l59, um_l60, um_l61, um_l63, um_l64, um_l68, um_l83, um_l99, um_l100, um_l101, um_l102, um_l103, um_l104, um_l105, um_l106, um_l107, um_l108, um_l109, um_l110, um_l111, um_l112, um_l113, um_l114, um_l115, um_l116, um_l117, um_l118, um_l126, um_l128, um_l130, um_l131, um_l132, um_l133, um_l134, um_l135, um_l180, um_l210, um_l211, um_l235, um_l1645, um_l1880, ↓um_nm, um_b1, um_b2, um_b3, um_b4, um_b5, um_b6, um_b7, um_b8, um_b9, um_b10, um_gd, um_bz0, um_bz1, um_m1, nI_add, pk_mul, um_sub_lt0, um_sub_gt0, um_sub_eq0, um_sub_le0, pk_sub, nI_ltI, nI_leI, nI_eq, nI_clamp, um_nv_at, um_nv_up, um_up_eq, um_up_ne, if_true, if_false, if_pos, if_neg, um_at, um_at0, um_put, um_add, h0, e, Option.getD_some]
theorem uw_parishOf0 {f : Nat → Nat} {c p : Nat} (hI : um_I f c) (hp : p < 4) : ux_parishOf f (nI p) (nI 0) = nI (um_gW (um_pa f) (f 0) p) := by
  have hP : ∀ r, r < f 0 → f (11 + 6 * r) < 4 := fun r hr => (hI.2.2.2.2.2.2.2.2.2.1 r (by have := hI.2.1; omega)).1
  have e : ufX9_parishOf (um_nv f) (nI p) (nI 0) = some (nI (um_gW (um_pa f) (f 0) p)) := by
    unfold ufX9_parishOf
    rw [um_isParish, uw_in hp (by decide)]
    have e := um_ropesAll hI.2.1 hp hP
    rw [um_b1, if_neg (by decide), if_pos (by rfl), e, um_b1]
  unfold ux_parishOf
  rw [e]
  rfl
theorem uw_parishOf1 {f : Nat → Nat} {c p : Nat} (hI : um_I f c) (hp : p < 4) : ux_parishOf f (nI p) (nI 1) = nI (um_sum (fun r => if f (11 + 6 * r) = p then f (11 + 6 * r + 3) else 0) (f 0)) := by
  have hP : ∀ r, r < f 0 → f (11 + 6 * r) < 4 := fun r hr => (hI.2.2.2.2.2.2.2.2.2.1 r (by have := hI.2.1; omega)).1
  have e : ufX9_parishOf (um_nv f) (nI p) (nI 1) = some (nI (um_sum (fun r => if f (11 + 6 * r) = p then f (11 + 6 * r + 3) else 0) (f 0))) := by
    unfold ufX9_parishOf
    rw [um_isParish, uw_in hp (by decide)]
    have q1 := hI.2.1
    simp -implicitDefEqProofs (disch := omega) only [um_l0, um_l1, um_l2, um_l3, um_l4, um_l5, um_l6, um_l7, um_l8, um_l9, um_l10, um_l11, um_l12, um_l16, um_l20, um_l23, um_l24, um_l31, um_l32, um_l35, um_l42, um_l43, um_l45, um_l48, um_l57, um_l58, um_l59, um_l60, um_l61, um_l63, um_l64, um_l68, um_l83, um_l99, um_l100, um_l101, um_l102, um_l103, um_l104, um_l105, um_l106, um_l107, um_l108, um_l109, um_l110, um_l111, um_l112, um_l113, um_l114, um_l115, um_l116, um_l117, um_l118, um_l126, um_l128, um_l130, um_l131, um_l132, um_l133, um_l134, um_l135, um_l180, um_l210, um_l211, um_l235, um_l1645, um_l1880, ↓um_nm, um_b1, um_b2, um_b3, um_b4, um_b5, um_b6, um_b7, um_b8, um_b9, um_b10, um_gd, um_bz0, um_bz1, um_m1, nI_add, pk_mul, um_sub_lt0, um_sub_gt0, um_sub_eq0, um_sub_le0, pk_sub, nI_ltI, nI_leI, nI_eq, nI_clamp, um_nv_at, um_nv_up, um_up_eq, um_up_ne, if_true, if_false, if_pos, if_neg, um_at, um_at0, um_put, um_add, um_b2n_t, um_sumM q1 hp (show 3 < 6 by decide) hP]
  unfold ux_parishOf
  rw [e]
  rfl
theorem uw_parishOf2 {f : Nat → Nat} {c p : Nat} (hI : um_I f c) (hp : p < 4) : ux_parishOf f (nI p) (nI 2) = nI (um_sum (fun r => if f (11 + 6 * r) = p then f (11 + 6 * r + 2) else 0) (f 0)) := by
  have hP : ∀ r, r < f 0 → f (11 + 6 * r) < 4 := fun r hr => (hI.2.2.2.2.2.2.2.2.2.1 r (by have := hI.2.1; omega)).1
  have e : ufX9_parishOf (um_nv f) (nI p) (nI 2) = some (nI (um_sum (fun r => if f (11 + 6 * r) = p then f (11 + 6 * r + 2) else 0) (f 0))) := by
    unfold ufX9_parishOf
    rw [um_isParish, uw_in hp (by decide)]
    have q1 := hI.2.1
    simp -implicitDefEqProofs (disch := omega) only [um_l0, um_l1, um_l2, um_l3, um_l4, um_l5, um_l6, um_l7, um_l8, um_l9, um_l10, um_l11, um_l12, um_l16, um_l20, um_l23, um_l24, um_l31, um_l32, um_l35, um_l42, um_l43, um_l45, um_l48, um_l57, um_l58, um_l59, um_l60, um_l61, um_l63, um_l64, um_l68, um_l83, um_l99, um_l100, um_l101, um_l102, um_l103, um_l104, um_l105, um_l106, um_l107, um_l108, um_l109, um_l110, um_l111, um_l112, um_l113, um_l114, um_l115, um_l116, um_l117, um_l118, um_l126, um_l128, um_l130, um_l131, um_l132, um_l133, um_l134, um_l135, um_l180, um_l210, um_l211, um_l235, um_l1645, um_l1880, ↓um_nm, um_b1, um_b2, um_b3, um_b4, um_b5, um_b6, um_b7, um_b8, um_b9, um_b10, um_gd, um_bz0, um_bz1, um_m1, nI_add, pk_mul, um_sub_lt0, um_sub_gt0, um_sub_eq0, um_sub_le0, pk_sub, nI_ltI, nI_leI, nI_eq, nI_clamp, um_nv_at, um_nv_up, um_up_eq, um_up_ne, if_true, if_false, if_pos, if_neg, um_at, um_at0, um_put, um_add, um_b2n_t, um_sumM q1 hp (show 2 < 6 by decide) hP]
  unfold ux_parishOf
  rw [e]
  rfl
theorem uw_parishOf3 {f : Nat → Nat} {c p : Nat} (hI : um_I f c) (hp : p < 4) : ux_parishOf f (nI p) (nI 3) = nI (um_cnt (fun h => decide (um_guess (um_pa f) (f 0) (f (211 + h)) = nI p)) 24) := by
  have hP : ∀ r, r < f 0 → f (11 + 6 * r) < 4 := fun r hr => (hI.2.2.2.2.2.2.2.2.2.1 r (by have := hI.2.1; omega)).1
  have e : ufX9_parishOf (um_nv f) (nI p) (nI 3) = some (nI (um_cnt (fun h => decide (um_guess (um_pa f) (f 0) (f (211 + h)) = nI p)) 24)) := by
    unfold ufX9_parishOf
    rw [um_isParish, uw_in hp (by decide)]
    rw [um_hoursOf hI]
    simp -implicitDefEqProofs (disch := omega) only [um_l0, um_l1, um_l2, um_l3, um_l4, um_l5, um_l6, um_l7, um_l8, um_l9, um_l10, um_l11, um_l12, um_l16, um_l20, um_l23, um_l24, um_l31, um_l32, um_l35, um_l42, um_l43, um_l45, um_l48, um_l57, um_l58, um_l59, um_l60, um_l61, um_l63, um_l64, um_l68, um_l83, um_l99, um_l100, um_l101, um_l102, um_l103, um_l104, um_l105, um_l106, um_l107, um_l108, um_l109, um_l110, um_l111, um_l112, um_l113, um_l114, um_l115, um_l116, um_l117, um_l118, um_l126, um_l128, um_l130, um_l131, um_l132, um_l133, um_l134, um_l135, um_l180, um_l210, um_l211, um_l235, um_l1645, um_l1880, ↓um_nm, um_b1, um_b2, um_b3, um_b4, um_b5, um_b6, um_b7, um_b8, um_b9, um_b10, um_gd, um_bz0, um_bz1, um_m1, nI_add, pk_mul, um_sub_lt0, um_sub_gt0, um_sub_eq0, um_sub_le0, pk_sub, nI_ltI, nI_leI, nI_eq, nI_clamp, um_nv_at, um_nv_up, um_up_eq, um_up_ne, if_true, if_false, if_pos, if_neg, um_at, um_at0, um_put, um_add, um_b2n_t]
  unfold ux_parishOf
  rw [e]
  rfl
theorem uw_parishOf4 {f : Nat → Nat} {c p : Nat} (hI : um_I f c) (hp : p < 4) : ux_parishOf f (nI p) (nI 4) = nI (um_sum (fun r => if f (11 + 6 * r) = p then um_cnt (fun k => decide (f (83 + 3 * k) = r)) (f 1) else 0) (f 0)) := by
  have hP : ∀ r, r < f 0 → f (11 + 6 * r) < 4 := fun r hr => (hI.2.2.2.2.2.2.2.2.2.1 r (by have := hI.2.1; omega)).1
  have e : ufX9_parishOf (um_nv f) (nI p) (nI 4) = some (nI (um_sum (fun r => if f (11 + 6 * r) = p then um_cnt (fun k => decide (f (83 + 3 * k) = r)) (f 1) else 0) (f 0))) := by
    unfold ufX9_parishOf
    rw [um_isParish, uw_in hp (by decide)]
    have q1 := hI.2.1
    have q2 := hI.2.2.1
    have q14 := hI.2.2.2.2.2.2.2.2.2.2.2.2.2.2.1
    have hb' : ∀ k, k < f 1 → f (83 + 3 * k) < 2 ^ 31 := fun k hk => by have := (q14 k hk).1; omega
    simp -implicitDefEqProofs (disch := omega) only [um_l0, um_l1, um_l2, um_l3, um_l4, um_l5, um_l6, um_l7, um_l8, um_l9, um_l10, um_l11, um_l12, um_l16, um_l20, um_l23, um_l24, um_l31, um_l32, um_l35, um_l42, um_l43, um_l45, um_l48, um_l57, um_l58, um_l59, um_l60, um_l61, um_l63, um_l64, um_l68, um_l83, um_l99, um_l100, um_l101, um_l102, um_l103, um_l104, um_l105, um_l106, um_l107, um_l108, um_l109, um_l110, um_l111, um_l112, um_l113, um_l114, um_l115, um_l116, um_l117, um_l118, um_l126, um_l128, um_l130, um_l131, um_l132, um_l133, um_l134, um_l135, um_l180, um_l210, um_l211, um_l235, um_l1645, um_l1880, ↓um_nm, um_b1, um_b2, um_b3, um_b4, um_b5, um_b6, um_b7, um_b8, um_b9, um_b10, um_gd, um_bz0, um_bz1, um_m1, nI_add, pk_mul, um_sub_lt0, um_sub_gt0, um_sub_eq0, um_sub_le0, pk_sub, nI_ltI, nI_leI, nI_eq, nI_clamp, um_nv_at, um_nv_up, um_up_eq, um_up_ne, if_true, if_false, if_pos, if_neg, um_at, um_at0, um_put, um_add, um_b2n_t, um_sum6 q1 q2 hp hP hb']
  unfold ux_parishOf
  rw [e]
  rfl
theorem uw_parishOfNo {f : Nat → Nat} {w : Int32} : ux_parishOf f (nI 4) w = -1011 := by
  have e : ufX9_parishOf (um_nv f) (nI 4) w = some (-1011) := by
    unfold ufX9_parishOf
    rw [um_isParish, uw_no (by decide) (by decide) (by decide)]
    rfl
  unfold ux_parishOf
  rw [e]
  rfl
