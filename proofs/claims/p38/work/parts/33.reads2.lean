/-! ===== sums, orders: the same on both sides ===== -/
theorem um_sumM {f : Nat → Nat} {p w : Nat} (hn : f 0 ≤ 12) (hp : p < 4) (hw : w < 6) (hP : ∀ r, r < f 0 → f (11 + 6 * r) < 4) : ufX9_sum (um_nv f) (nI p) (nI w) = some (nI (um_sum (fun r => if f (11 + 6 * r) = p then f (11 + 6 * r + w) else 0) (f 0))) := by
  unfold ufX9_sum
  refine um_loop (fun k (s : Int32 × Int32) => ulX9_sum_5 (um_nv f) (nI p) (nI w) k s.1 s.2) (fun i => (nI (um_sum (fun r => if f (11 + 6 * r) = p then f (11 + 6 * r + w) else 0) i), nI i)) 0 (f 0) (by omega) (by omega) ?_ ?_
  · intro i k _ hi
    show ulX9_sum_5 (um_nv f) (nI p) (nI w) (k + 1) _ _ = ulX9_sum_5 (um_nv f) (nI p) (nI w) k _ _
    have hb := hP i hi
    rw [ulX9_sum_5, um_sum]
    by_cases h : f (11 + 6 * i) = p
    · simp -implicitDefEqProofs (disch := omega) only [um_l0, um_l1, um_l2, um_l3, um_l4, um_l5, um_l6, um_l7, um_l8, um_l9, um_l10, um_l11, um_l12, um_l16, um_l20, um_l23, um_l24, um_l31, um_l32, um_l35, um_l42, um_l43, um_l45, um_l48, um_l57, um_l58, um_l59, um_l60, um_l61, um_l63, um_l64, um_l68, um_l83, um_l99, um_l100, um_l101, um_l102, um_l103, um_l104, um_l105, um_l106, um_l107, um_l108, um_l109, um_l110, um_l111, um_l112, um_l113, um_l114, um_l115, um_l116, um_l117, um_l118, um_l126, um_l128, um_l130, um_l131, um_l132, um_l133, um_l134, um_l135, um_l180, um_l210, um_l211, um_l235, um_l1645, um_l1880, ↓um_nm, um_b1, um_b2, um_b3, um_b4, um_b5, um_b6, um_b7, um_b8, um_b9, um_b10, um_gd, um_bz0, um_bz1, um_m1, nI_add, pk_mul, um_sub_lt0, um_sub_gt0, um_sub_eq0, um_sub_le0, pk_sub, nI_ltI, nI_leI, nI_eq, nI_clamp, um_nv_at, um_nv_up, um_up_eq, um_up_ne, if_true, if_false, if_pos, if_neg, um_at, um_at0, um_put, um_add, um_x_at, Nat.add_zero, h]
    · simp -implicitDefEqProofs (disch := omega) only [um_l0, um_l1, um_l2, um_l3, um_l4, um_l5, um_l6, um_l7, um_l8, um_l9, um_l10, um_l11, um_l12, um_l16, um_l20, um_l23, um_l24, um_l31, um_l32, um_l35, um_l42, um_l43, um_l45, um_l48, um_l57, um_l58, um_l59, um_l60, um_l61, um_l63, um_l64, um_l68, um_l83, um_l99, um_l100, um_l101, um_l102, um_l103, um_l104, um_l105, um_l106, um_l107, um_l108, um_l109, um_l110, um_l111, um_l112, um_l113, um_l114, um_l115, um_l116, um_l117, um_l118, um_l126, um_l128, um_l130, um_l131, um_l132, um_l133, um_l134, um_l135, um_l180, um_l210, um_l211, um_l235, um_l1645, um_l1880, ↓um_nm, um_b1, um_b2, um_b3, um_b4, um_b5, um_b6, um_b7, um_b8, um_b9, um_b10, um_gd, um_bz0, um_bz1, um_m1, nI_add, pk_mul, um_sub_lt0, um_sub_gt0, um_sub_eq0, um_sub_le0, pk_sub, nI_ltI, nI_leI, nI_eq, nI_clamp, um_nv_at, um_nv_up, um_up_eq, um_up_ne, if_true, if_false, if_pos, if_neg, um_at, um_at0, um_put, um_add, um_x_at, Nat.add_zero, h]
  · intro k
    show ulX9_sum_5 (um_nv f) (nI p) (nI w) (k + 1) _ _ = _
    rw [ulX9_sum_5]
    simp -implicitDefEqProofs (disch := omega) only [um_l0, um_l1, um_l2, um_l3, um_l4, um_l5, um_l6, um_l7, um_l8, um_l9, um_l10, um_l11, um_l12, um_l16, um_l20, um_l23, um_l24, um_l31, um_l32, um_l35, um_l42, um_l43, um_l45, um_l48, um_l57, um_l58, um_l59, um_l60, um_l61, um_l63, um_l64, um_l68, um_l83, um_l99, um_l100, um_l101, um_l102, um_l103, um_l104, um_l105, um_l106, um_l107, um_l108, um_l109, um_l110, um_l111, um_l112, um_l113, um_l114, um_l115, um_l116, um_l117, um_l118, um_l126, um_l128, um_l130, um_l131, um_l132, um_l133, um_l134, um_l135, um_l180, um_l210, um_l211, um_l235, um_l1645, um_l1880, ↓um_nm, um_b1, um_b2, um_b3, um_b4, um_b5, um_b6, um_b7, um_b8, um_b9, um_b10, um_gd, um_bz0, um_bz1, um_m1, nI_add, pk_mul, um_sub_lt0, um_sub_gt0, um_sub_eq0, um_sub_le0, pk_sub, nI_ltI, nI_leI, nI_eq, nI_clamp, um_nv_at, um_nv_up, um_up_eq, um_up_ne, if_true, if_false, if_pos, if_neg, um_at, um_at0, um_put, um_add]
theorem um_sum6 {f : Nat → Nat} {p : Nat} (hn : f 0 ≤ 12) (h1 : f 1 ≤ 16) (hp : p < 4) (hP : ∀ r, r < f 0 → f (11 + 6 * r) < 4) (hb : ∀ k, k < f 1 → f (83 + 3 * k) < 2 ^ 31) : ufX9_sum (um_nv f) (nI p) (nI 6) = some (nI (um_sum (fun r => if f (11 + 6 * r) = p then um_cnt (fun k => decide (f (83 + 3 * k) = r)) (f 1) else 0) (f 0))) := by
  unfold ufX9_sum
  refine um_loop (fun k (s : Int32 × Int32) => ulX9_sum_5 (um_nv f) (nI p) (nI 6) k s.1 s.2) (fun i => (nI (um_sum (fun r => if f (11 + 6 * r) = p then um_cnt (fun k => decide (f (83 + 3 * k) = r)) (f 1) else 0) i), nI i)) 0 (f 0) (by omega) (by omega) ?_ ?_
  · intro i k _ hi
    show ulX9_sum_5 (um_nv f) (nI p) (nI 6) (k + 1) _ _ = ulX9_sum_5 (um_nv f) (nI p) (nI 6) k _ _
    have hb2 := hP i hi
    rw [ulX9_sum_5, um_sum]
    by_cases h : f (11 + 6 * i) = p
    · simp -implicitDefEqProofs (disch := omega) only [um_l0, um_l1, um_l2, um_l3, um_l4, um_l5, um_l6, um_l7, um_l8, um_l9, um_l10, um_l11, um_l12, um_l16, um_l20, um_l23, um_l24, um_l31, um_l32, um_l35, um_l42, um_l43, um_l45, um_l48, um_l57, um_l58, um_l59, um_l60, um_l61, um_l63, um_l64, um_l68, um_l83, um_l99, um_l100, um_l101, um_l102, um_l103, um_l104, um_l105, um_l106, um_l107, um_l108, um_l109, um_l110, um_l111, um_l112, um_l113, um_l114, um_l115, um_l116, um_l117, um_l118, um_l126, um_l128, um_l130, um_l131, um_l132, um_l133, um_l134, um_l135, um_l180, um_l210, um_l211, um_l235, um_l1645, um_l1880, ↓um_nm, um_b1, um_b2, um_b3, um_b4, um_b5, um_b6, um_b7, um_b8, um_b9, um_b10, um_gd, um_bz0, um_bz1, um_m1, nI_add, pk_mul, um_sub_lt0, um_sub_gt0, um_sub_eq0, um_sub_le0, pk_sub, nI_ltI, nI_leI, nI_eq, nI_clamp, um_nv_at, um_nv_up, um_up_eq, um_up_ne, if_true, if_false, if_pos, if_neg, um_at, um_at0, um_put, um_add, um_x_at, Nat.add_zero, h, um_waitingOf h1 (show i < 2 ^ 31 by omega) hb]
    · simp -implicitDefEqProofs (disch := omega) only [um_l0, um_l1, um_l2, um_l3, um_l4, um_l5, um_l6, um_l7, um_l8, um_l9, um_l10, um_l11, um_l12, um_l16, um_l20, um_l23, um_l24, um_l31, um_l32, um_l35, um_l42, um_l43, um_l45, um_l48, um_l57, um_l58, um_l59, um_l60, um_l61, um_l63, um_l64, um_l68, um_l83, um_l99, um_l100, um_l101, um_l102, um_l103, um_l104, um_l105, um_l106, um_l107, um_l108, um_l109, um_l110, um_l111, um_l112, um_l113, um_l114, um_l115, um_l116, um_l117, um_l118, um_l126, um_l128, um_l130, um_l131, um_l132, um_l133, um_l134, um_l135, um_l180, um_l210, um_l211, um_l235, um_l1645, um_l1880, ↓um_nm, um_b1, um_b2, um_b3, um_b4, um_b5, um_b6, um_b7, um_b8, um_b9, um_b10, um_gd, um_bz0, um_bz1, um_m1, nI_add, pk_mul, um_sub_lt0, um_sub_gt0, um_sub_eq0, um_sub_le0, pk_sub, nI_ltI, nI_leI, nI_eq, nI_clamp, um_nv_at, um_nv_up, um_up_eq, um_up_ne, if_true, if_false, if_pos, if_neg, um_at, um_at0, um_put, um_add, um_x_at, Nat.add_zero, h]
  · intro k
    show ulX9_sum_5 (um_nv f) (nI p) (nI 6) (k + 1) _ _ = _
    rw [ulX9_sum_5]
    simp -implicitDefEqProofs (disch := omega) only [um_l0, um_l1, um_l2, um_l3, um_l4, um_l5, um_l6, um_l7, um_l8, um_l9, um_l10, um_l11, um_l12, um_l16, um_l20, um_l23, um_l24, um_l31, um_l32, um_l35, um_l42, um_l43, um_l45, um_l48, um_l57, um_l58, um_l59, um_l60, um_l61, um_l63, um_l64, um_l68, um_l83, um_l99, um_l100, um_l101, um_l102, um_l103, um_l104, um_l105, um_l106, um_l107, um_l108, um_l109, um_l110, um_l111, um_l112, um_l113, um_l114, um_l115, um_l116, um_l117, um_l118, um_l126, um_l128, um_l130, um_l131, um_l132, um_l133, um_l134, um_l135, um_l180, um_l210, um_l211, um_l235, um_l1645, um_l1880, ↓um_nm, um_b1, um_b2, um_b3, um_b4, um_b5, um_b6, um_b7, um_b8, um_b9, um_b10, um_gd, um_bz0, um_bz1, um_m1, nI_add, pk_mul, um_sub_lt0, um_sub_gt0, um_sub_eq0, um_sub_le0, pk_sub, nI_ltI, nI_leI, nI_eq, nI_clamp, um_nv_at, um_nv_up, um_up_eq, um_up_ne, if_true, if_false, if_pos, if_neg, um_at, um_at0, um_put, um_add]
theorem um_sum8 {a : Nat → Nat} {N : Nat} (hN : N < 4096) : ufX8_sum N (um_nv a) = some (nI (um_sum a N)) := by
  unfold ufX8_sum
  refine um_loop (fun k (s : Int32 × Int32) => ulX8_sum_10 N (um_nv a) (Int32.ofNat N) k s.1 s.2) (fun i => (nI (um_sum a i), nI i)) 0 N (by omega) (by omega) ?_ ?_
  · intro i k _ hi
    show ulX8_sum_10 N (um_nv a) (nI N) (k + 1) _ _ = ulX8_sum_10 N (um_nv a) (nI N) k _ _
    rw [ulX8_sum_10, um_sum]
    simp -implicitDefEqProofs (disch := omega) only [um_l0, um_l1, um_l2, um_l3, um_l4, um_l5, um_l6, um_l7, um_l8, um_l9, um_l10, um_l11, um_l12, um_l16, um_l20, um_l23, um_l24, um_l31, um_l32, um_l35, um_l42, um_l43, um_l45, um_l48, um_l57, um_l58, um_l59, um_l60, um_l61, um_l63, um_l64, um_l68, um_l83, um_l99, um_l100, um_l101, um_l102, um_l103, um_l104, um_l105, um_l106, um_l107, um_l108, um_l109, um_l110, um_l111, um_l112, um_l113, um_l114, um_l115, um_l116, um_l117, um_l118, um_l126, um_l128, um_l130, um_l131, um_l132, um_l133, um_l134, um_l135, um_l180, um_l210, um_l211, um_l235, um_l1645, um_l1880, ↓um_nm, um_b1, um_b2, um_b3, um_b4, um_b5, um_b6, um_b7, um_b8, um_b9, um_b10, um_gd, um_bz0, um_bz1, um_m1, nI_add, pk_mul, um_sub_lt0, um_sub_gt0, um_sub_eq0, um_sub_le0, pk_sub, nI_ltI, nI_leI, nI_eq, nI_clamp, um_nv_at, um_nv_up, um_up_eq, um_up_ne, if_true, if_false, if_pos, if_neg, um_at, um_at0, um_put, um_add]
  · intro k
    show ulX8_sum_10 N (um_nv a) (nI N) (k + 1) _ _ = _
    rw [ulX8_sum_10]
    simp -implicitDefEqProofs (disch := omega) only [um_l0, um_l1, um_l2, um_l3, um_l4, um_l5, um_l6, um_l7, um_l8, um_l9, um_l10, um_l11, um_l12, um_l16, um_l20, um_l23, um_l24, um_l31, um_l32, um_l35, um_l42, um_l43, um_l45, um_l48, um_l57, um_l58, um_l59, um_l60, um_l61, um_l63, um_l64, um_l68, um_l83, um_l99, um_l100, um_l101, um_l102, um_l103, um_l104, um_l105, um_l106, um_l107, um_l108, um_l109, um_l110, um_l111, um_l112, um_l113, um_l114, um_l115, um_l116, um_l117, um_l118, um_l126, um_l128, um_l130, um_l131, um_l132, um_l133, um_l134, um_l135, um_l180, um_l210, um_l211, um_l235, um_l1645, um_l1880, ↓um_nm, um_b1, um_b2, um_b3, um_b4, um_b5, um_b6, um_b7, um_b8, um_b9, um_b10, um_gd, um_bz0, um_bz1, um_m1, nI_add, pk_mul, um_sub_lt0, um_sub_gt0, um_sub_eq0, um_sub_le0, pk_sub, nI_ltI, nI_leI, nI_eq, nI_clamp, um_nv_at, um_nv_up, um_up_eq, um_up_ne, if_true, if_false, if_pos, if_neg, um_at, um_at0, um_put, um_add]
theorem um_rust9 {f : Nat → Nat} (hn : f 0 ≤ 12) : ufX9_rust (um_nv f) = some (nI (um_sum (fun r => f (13 + 6 * r)) (f 0))) := by
  unfold ufX9_rust
  refine um_loop (fun k (s : Int32 × Int32) => ulX9_rust_4 (um_nv f) k s.1 s.2) (fun i => (nI (um_sum (fun r => f (13 + 6 * r)) i), nI i)) 0 (f 0) (by omega) (by omega) ?_ ?_
  · intro i k _ hi
    show ulX9_rust_4 (um_nv f) (k + 1) _ _ = ulX9_rust_4 (um_nv f) k _ _
    have e1 : 11 + 6 * i + 2 = 13 + 6 * i := by omega
    rw [ulX9_rust_4, um_sum]
    simp -implicitDefEqProofs (disch := omega) only [um_l0, um_l1, um_l2, um_l3, um_l4, um_l5, um_l6, um_l7, um_l8, um_l9, um_l10, um_l11, um_l12, um_l16, um_l20, um_l23, um_l24, um_l31, um_l32, um_l35, um_l42, um_l43, um_l45, um_l48, um_l57, um_l58, um_l59, um_l60, um_l61, um_l63, um_l64, um_l68, um_l83, um_l99, um_l100, um_l101, um_l102, um_l103, um_l104, um_l105, um_l106, um_l107, um_l108, um_l109, um_l110, um_l111, um_l112, um_l113, um_l114, um_l115, um_l116, um_l117, um_l118, um_l126, um_l128, um_l130, um_l131, um_l132, um_l133, um_l134, um_l135, um_l180, um_l210, um_l211, um_l235, um_l1645, um_l1880, ↓um_nm, um_b1, um_b2, um_b3, um_b4, um_b5, um_b6, um_b7, um_b8, um_b9, um_b10, um_gd, um_bz0, um_bz1, um_m1, nI_add, pk_mul, um_sub_lt0, um_sub_gt0, um_sub_eq0, um_sub_le0, pk_sub, nI_ltI, nI_leI, nI_eq, nI_clamp, um_nv_at, um_nv_up, um_up_eq, um_up_ne, if_true, if_false, if_pos, if_neg, um_at, um_at0, um_put, um_add, um_x_at, e1]
  · intro k
    show ulX9_rust_4 (um_nv f) (k + 1) _ _ = _
    rw [ulX9_rust_4]
    simp -implicitDefEqProofs (disch := omega) only [um_l0, um_l1, um_l2, um_l3, um_l4, um_l5, um_l6, um_l7, um_l8, um_l9, um_l10, um_l11, um_l12, um_l16, um_l20, um_l23, um_l24, um_l31, um_l32, um_l35, um_l42, um_l43, um_l45, um_l48, um_l57, um_l58, um_l59, um_l60, um_l61, um_l63, um_l64, um_l68, um_l83, um_l99, um_l100, um_l101, um_l102, um_l103, um_l104, um_l105, um_l106, um_l107, um_l108, um_l109, um_l110, um_l111, um_l112, um_l113, um_l114, um_l115, um_l116, um_l117, um_l118, um_l126, um_l128, um_l130, um_l131, um_l132, um_l133, um_l134, um_l135, um_l180, um_l210, um_l211, um_l235, um_l1645, um_l1880, ↓um_nm, um_b1, um_b2, um_b3, um_b4, um_b5, um_b6, um_b7, um_b8, um_b9, um_b10, um_gd, um_bz0, um_bz1, um_m1, nI_add, pk_mul, um_sub_lt0, um_sub_gt0, um_sub_eq0, um_sub_le0, pk_sub, nI_ltI, nI_leI, nI_eq, nI_clamp, um_nv_at, um_nv_up, um_up_eq, um_up_ne, if_true, if_false, if_pos, if_neg, um_at, um_at0, um_put, um_add]
theorem um_rust8 {f oa od oi om op ou : Nat → Nat} {c : Nat} (hI : um_I f c) (hRP : um_RP f oa od oi om op ou) : ufX8_sum 12 (um_nv ou) = some (nI (um_sum (fun r => f (13 + 6 * r)) (f 0))) := by
  obtain ⟨q0, q1, q2, q3, q4, q5, q6, q7, q8, q9, q10, q11, q12, q13, q14, q15⟩ := hI
  rw [um_sum8 (by decide), um_sum_congr (g := fun r => f (13 + 6 * r)) (fun r hr => (hRP r hr).2.2.1), um_sum_tail q1 (fun r h1 h2 => (q10 r h1 h2).2.2.1)]
theorem um_hoursOf {f : Nat → Nat} {c : Nat} {x : Int32} (hI : um_I f c) : ufX9_hoursOf (um_nv f) x = some (nI (um_cnt (fun h => decide (um_guess (um_pa f) (f 0) (f (211 + h)) = x)) 24)) := by
  have hset := fun h hh => um_I_set (h := h) hI hh
  obtain ⟨q0, q1, q2, q3, q4, q5, q6, q7, q8, q9, q10, q11, q12, q13, q14, q15⟩ := hI
  unfold ufX9_hoursOf
  refine um_loop (fun k (s : Int32 × Int32) => ulX9_hoursOf_4 (um_nv f) x k s.1 s.2) (fun i => (nI (um_cnt (fun h => decide (um_guess (um_pa f) (f 0) (f (211 + h)) = x)) i), nI i)) 0 24 (by omega) (by omega) ?_ ?_
  · intro i k _ hi
    show ulX9_hoursOf_4 (um_nv f) x (k + 1) _ _ = ulX9_hoursOf_4 (um_nv f) x k _ _
    have hg := um_guessed q1 hi (hset i hi) (fun r hr => (q9 r (by omega)).1)
    rw [ulX9_hoursOf_4, um_cnt_s, hg]
    by_cases h : um_guess (um_pa f) (f 0) (f (211 + i)) = x
    · rw [decide_eq_true h]
      simp -implicitDefEqProofs (disch := omega) only [um_l0, um_l1, um_l2, um_l3, um_l4, um_l5, um_l6, um_l7, um_l8, um_l9, um_l10, um_l11, um_l12, um_l16, um_l20, um_l23, um_l24, um_l31, um_l32, um_l35, um_l42, um_l43, um_l45, um_l48, um_l57, um_l58, um_l59, um_l60, um_l61, um_l63, um_l64, um_l68, um_l83, um_l99, um_l100, um_l101, um_l102, um_l103, um_l104, um_l105, um_l106, um_l107, um_l108, um_l109, um_l110, um_l111, um_l112, um_l113, um_l114, um_l115, um_l116, um_l117, um_l118, um_l126, um_l128, um_l130, um_l131, um_l132, um_l133, um_l134, um_l135, um_l180, um_l210, um_l211, um_l235, um_l1645, um_l1880, ↓um_nm, um_b1, um_b2, um_b3, um_b4, um_b5, um_b6, um_b7, um_b8, um_b9, um_b10, um_gd, um_bz0, um_bz1, um_m1, nI_add, pk_mul, um_sub_lt0, um_sub_gt0, um_sub_eq0, um_sub_le0, pk_sub, nI_ltI, nI_leI, nI_eq, nI_clamp, um_nv_at, um_nv_up, um_up_eq, um_up_ne, if_true, if_false, if_pos, if_neg, um_at, um_at0, um_put, um_add, h, um_b2n_t]
    · rw [decide_eq_false h]
      simp -implicitDefEqProofs (disch := omega) only [um_l0, um_l1, um_l2, um_l3, um_l4, um_l5, um_l6, um_l7, um_l8, um_l9, um_l10, um_l11, um_l12, um_l16, um_l20, um_l23, um_l24, um_l31, um_l32, um_l35, um_l42, um_l43, um_l45, um_l48, um_l57, um_l58, um_l59, um_l60, um_l61, um_l63, um_l64, um_l68, um_l83, um_l99, um_l100, um_l101, um_l102, um_l103, um_l104, um_l105, um_l106, um_l107, um_l108, um_l109, um_l110, um_l111, um_l112, um_l113, um_l114, um_l115, um_l116, um_l117, um_l118, um_l126, um_l128, um_l130, um_l131, um_l132, um_l133, um_l134, um_l135, um_l180, um_l210, um_l211, um_l235, um_l1645, um_l1880, ↓um_nm, um_b1, um_b2, um_b3, um_b4, um_b5, um_b6, um_b7, um_b8, um_b9, um_b10, um_gd, um_bz0, um_bz1, um_m1, nI_add, pk_mul, um_sub_lt0, um_sub_gt0, um_sub_eq0, um_sub_le0, pk_sub, nI_ltI, nI_leI, nI_eq, nI_clamp, um_nv_at, um_nv_up, um_up_eq, um_up_ne, if_true, if_false, if_pos, if_neg, um_at, um_at0, um_put, um_add, h, um_b2n_f, Nat.add_zero]
  · intro k
    show ulX9_hoursOf_4 (um_nv f) x (k + 1) _ _ = _
    rw [ulX9_hoursOf_4]
    simp -implicitDefEqProofs (disch := omega) only [um_l0, um_l1, um_l2, um_l3, um_l4, um_l5, um_l6, um_l7, um_l8, um_l9, um_l10, um_l11, um_l12, um_l16, um_l20, um_l23, um_l24, um_l31, um_l32, um_l35, um_l42, um_l43, um_l45, um_l48, um_l57, um_l58, um_l59, um_l60, um_l61, um_l63, um_l64, um_l68, um_l83, um_l99, um_l100, um_l101, um_l102, um_l103, um_l104, um_l105, um_l106, um_l107, um_l108, um_l109, um_l110, um_l111, um_l112, um_l113, um_l114, um_l115, um_l116, um_l117, um_l118, um_l126, um_l128, um_l130, um_l131, um_l132, um_l133, um_l134, um_l135, um_l180, um_l210, um_l211, um_l235, um_l1645, um_l1880, ↓um_nm, um_b1, um_b2, um_b3, um_b4, um_b5, um_b6, um_b7, um_b8, um_b9, um_b10, um_gd, um_bz0, um_bz1, um_m1, nI_add, pk_mul, um_sub_lt0, um_sub_gt0, um_sub_eq0, um_sub_le0, pk_sub, nI_ltI, nI_leI, nI_eq, nI_clamp, um_nv_at, um_nv_up, um_up_eq, um_up_ne, if_true, if_false, if_pos, if_neg, um_at, um_at0, um_put, um_add]
theorem um_hoursGuessed {f rg op : Nat → Nat} {c : Nat} {x : Int32} (hI : um_I f c) (hHD : um_HD f rg) (hp : ∀ r, r < 12 → op r = f (11 + 6 * r)) : ufX8_hoursGuessed (um_nv rg) (nI (f 0)) (um_nv op) x = some (nI (um_cnt (fun h => decide (um_guess (um_pa f) (f 0) (f (211 + h)) = x)) 24)) := by
  unfold ufX8_hoursGuessed
  refine um_loop (fun k (s : Int32 × Int32) => ulX8_hoursGuessed_4 (um_nv rg) (nI (f 0)) (um_nv op) x k s.1 s.2) (fun i => (nI (um_cnt (fun h => decide (um_guess (um_pa f) (f 0) (f (211 + h)) = x)) i), nI i)) 0 24 (by omega) (by omega) ?_ ?_
  · intro i k _ hi
    show ulX8_hoursGuessed_4 (um_nv rg) (nI (f 0)) (um_nv op) x (k + 1) _ _ = ulX8_hoursGuessed_4 (um_nv rg) (nI (f 0)) (um_nv op) x k _ _
    have hg := (um_guess8 hI hHD hp hi).1
    rw [ulX8_hoursGuessed_4, um_cnt_s, hg]
    by_cases h : um_guess (um_pa f) (f 0) (f (211 + i)) = x
    · rw [decide_eq_true h]
      simp -implicitDefEqProofs (disch := omega) only [um_l0, um_l1, um_l2, um_l3, um_l4, um_l5, um_l6, um_l7, um_l8, um_l9, um_l10, um_l11, um_l12, um_l16, um_l20, um_l23, um_l24, um_l31, um_l32, um_l35, um_l42, um_l43, um_l45, um_l48, um_l57, um_l58, um_l59, um_l60, um_l61, um_l63, um_l64, um_l68, um_l83, um_l99, um_l100, um_l101, um_l102, um_l103, um_l104, um_l105, um_l106, um_l107, um_l108, um_l109, um_l110, um_l111, um_l112, um_l113, um_l114, um_l115, um_l116, um_l117, um_l118, um_l126, um_l128, um_l130, um_l131, um_l132, um_l133, um_l134, um_l135, um_l180, um_l210, um_l211, um_l235, um_l1645, um_l1880, ↓um_nm, um_b1, um_b2, um_b3, um_b4, um_b5, um_b6, um_b7, um_b8, um_b9, um_b10, um_gd, um_bz0, um_bz1, um_m1, nI_add, pk_mul, um_sub_lt0, um_sub_gt0, um_sub_eq0, um_sub_le0, pk_sub, nI_ltI, nI_leI, nI_eq, nI_clamp, um_nv_at, um_nv_up, um_up_eq, um_up_ne, if_true, if_false, if_pos, if_neg, um_at, um_at0, um_put, um_add, h, um_b2n_t]
    · rw [decide_eq_false h]
      simp -implicitDefEqProofs (disch := omega) only [um_l0, um_l1, um_l2, um_l3, um_l4, um_l5, um_l6, um_l7, um_l8, um_l9, um_l10, um_l11, um_l12, um_l16, um_l20, um_l23, um_l24, um_l31, um_l32, um_l35, um_l42, um_l43, um_l45, um_l48, um_l57, um_l58, um_l59, um_l60, um_l61, um_l63, um_l64, um_l68, um_l83, um_l99, um_l100, um_l101, um_l102, um_l103, um_l104, um_l105, um_l106, um_l107, um_l108, um_l109, um_l110, um_l111, um_l112, um_l113, um_l114, um_l115, um_l116, um_l117, um_l118, um_l126, um_l128, um_l130, um_l131, um_l132, um_l133, um_l134, um_l135, um_l180, um_l210, um_l211, um_l235, um_l1645, um_l1880, ↓um_nm, um_b1, um_b2, um_b3, um_b4, um_b5, um_b6, um_b7, um_b8, um_b9, um_b10, um_gd, um_bz0, um_bz1, um_m1, nI_add, pk_mul, um_sub_lt0, um_sub_gt0, um_sub_eq0, um_sub_le0, pk_sub, nI_ltI, nI_leI, nI_eq, nI_clamp, um_nv_at, um_nv_up, um_up_eq, um_up_ne, if_true, if_false, if_pos, if_neg, um_at, um_at0, um_put, um_add, h, um_b2n_f, Nat.add_zero]
  · intro k
    show ulX8_hoursGuessed_4 (um_nv rg) (nI (f 0)) (um_nv op) x (k + 1) _ _ = _
    rw [ulX8_hoursGuessed_4]
    simp -implicitDefEqProofs (disch := omega) only [um_l0, um_l1, um_l2, um_l3, um_l4, um_l5, um_l6, um_l7, um_l8, um_l9, um_l10, um_l11, um_l12, um_l16, um_l20, um_l23, um_l24, um_l31, um_l32, um_l35, um_l42, um_l43, um_l45, um_l48, um_l57, um_l58, um_l59, um_l60, um_l61, um_l63, um_l64, um_l68, um_l83, um_l99, um_l100, um_l101, um_l102, um_l103, um_l104, um_l105, um_l106, um_l107, um_l108, um_l109, um_l110, um_l111, um_l112, um_l113, um_l114, um_l115, um_l116, um_l117, um_l118, um_l126, um_l128, um_l130, um_l131, um_l132, um_l133, um_l134, um_l135, um_l180, um_l210, um_l211, um_l235, um_l1645, um_l1880, ↓um_nm, um_b1, um_b2, um_b3, um_b4, um_b5, um_b6, um_b7, um_b8, um_b9, um_b10, um_gd, um_bz0, um_bz1, um_m1, nI_add, pk_mul, um_sub_lt0, um_sub_gt0, um_sub_eq0, um_sub_le0, pk_sub, nI_ltI, nI_leI, nI_eq, nI_clamp, um_nv_at, um_nv_up, um_up_eq, um_up_ne, if_true, if_false, if_pos, if_neg, um_at, um_at0, um_put, um_add]
theorem um_ite_sum {b : Prop} {i : Decidable b} {g : Nat → Nat} : ∀ {n : Nat}, @ite _ b i (um_sum g n) 0 = um_sum (fun k => @ite _ b i (g k) 0) n
  | 0 => by cases i <;> rfl
  | n + 1 => by
    rw [um_sum, um_sum, ← um_ite_sum]
    cases i <;> rfl
theorem um_s_parishOf {f ph pr ps rd rh rr rs rg oa od oi om op ou : Nat → Nat} {c la : Nat} {x w : Int32} (hI : um_I f c) (hT : um_D f la ph pr ps rd rh rr rs rg oa od oi om op ou) :
    ∃ r, ufX8_parishOf (nI (f 1)) (um_nv pr) (um_nv rg) (nI (f 0)) (um_nv oa) (um_nv op) (um_nv ou) x w = some r ∧ ufX9_parishOf (um_nv f) x w = some r := by
  obtain ⟨hPL, hAN, hHD, hRP⟩ := hT
  have hg := fun x => um_hoursGuessed (x := x) hI hHD (fun r hr => (hRP r hr).1)
  have hh := fun x => um_hoursOf (x := x) hI
  obtain ⟨q0, q1, q2, q3, q4, q5, q6, q7, q8, q9, q10, q11, q12, q13, q14, q15⟩ := hI
  have hP : ∀ r, r < f 0 → f (11 + 6 * r) < 4 := fun r hr => (q9 r (by omega)).1
  have hP' : ∀ r, r < f 0 → op r < 2 ^ 31 := fun r hr => by rw [(hRP r (by omega)).1]; have := hP r hr; omega
  have hb : ∀ k, k < f 1 → pr k < 12 := fun k hk => by have := (q14 k hk).1; rw [(hPL k hk).1]; omega
  have hb' : ∀ k, k < f 1 → f (83 + 3 * k) < 2 ^ 31 := fun k hk => by have := (q14 k hk).1; omega
  unfold ufX8_parishOf ufX9_parishOf
  rw [um_isParish8, um_isParish]
  cases hx : um_in x 4
  · exact ⟨-1011, rfl, rfl⟩
  · obtain ⟨p, hp, rfl⟩ := um_in_of (by decide) hx
    cases hw : um_in w 5
    · have hne := um_in_ne (by decide) hw
      refine ⟨-1012, ?_, ?_⟩
      · simp -implicitDefEqProofs (disch := omega) only [um_l0, um_l1, um_l2, um_l3, um_l4, um_l5, um_l6, um_l7, um_l8, um_l9, um_l10, um_l11, um_l12, um_l16, um_l20, um_l23, um_l24, um_l31, um_l32, um_l35, um_l42, um_l43, um_l45, um_l48, um_l57, um_l58, um_l59, um_l60, um_l61, um_l63, um_l64, um_l68, um_l83, um_l99, um_l100, um_l101, um_l102, um_l103, um_l104, um_l105, um_l106, um_l107, um_l108, um_l109, um_l110, um_l111, um_l112, um_l113, um_l114, um_l115, um_l116, um_l117, um_l118, um_l126, um_l128, um_l130, um_l131, um_l132, um_l133, um_l134, um_l135, um_l180, um_l210, um_l211, um_l235, um_l1645, um_l1880, ↓um_nm, um_b1, um_b2, um_b3, um_b4, um_b5, um_b6, um_b7, um_b8, um_b9, um_b10, um_gd, um_bz0, um_bz1, um_m1, nI_add, pk_mul, um_sub_lt0, um_sub_gt0, um_sub_eq0, um_sub_le0, pk_sub, nI_ltI, nI_leI, nI_eq, nI_clamp, um_nv_at, um_nv_up, um_up_eq, um_up_ne, if_true, if_false, if_pos, if_neg, um_at, um_at0, um_put, um_add, um_b2n_t, hne 0 (by decide), hne 1 (by decide), hne 2 (by decide), hne 3 (by decide), hne 4 (by decide)]
      · simp -implicitDefEqProofs (disch := omega) only [um_l0, um_l1, um_l2, um_l3, um_l4, um_l5, um_l6, um_l7, um_l8, um_l9, um_l10, um_l11, um_l12, um_l16, um_l20, um_l23, um_l24, um_l31, um_l32, um_l35, um_l42, um_l43, um_l45, um_l48, um_l57, um_l58, um_l59, um_l60, um_l61, um_l63, um_l64, um_l68, um_l83, um_l99, um_l100, um_l101, um_l102, um_l103, um_l104, um_l105, um_l106, um_l107, um_l108, um_l109, um_l110, um_l111, um_l112, um_l113, um_l114, um_l115, um_l116, um_l117, um_l118, um_l126, um_l128, um_l130, um_l131, um_l132, um_l133, um_l134, um_l135, um_l180, um_l210, um_l211, um_l235, um_l1645, um_l1880, ↓um_nm, um_b1, um_b2, um_b3, um_b4, um_b5, um_b6, um_b7, um_b8, um_b9, um_b10, um_gd, um_bz0, um_bz1, um_m1, nI_add, pk_mul, um_sub_lt0, um_sub_gt0, um_sub_eq0, um_sub_le0, pk_sub, nI_ltI, nI_leI, nI_eq, nI_clamp, um_nv_at, um_nv_up, um_up_eq, um_up_ne, if_true, if_false, if_pos, if_neg, um_at, um_at0, um_put, um_add, um_b2n_t, hne 0 (by decide), hne 1 (by decide), hne 2 (by decide), hne 3 (by decide), hne 4 (by decide)]
    · obtain ⟨i, hi, rfl⟩ := um_in_of (by decide) hw
      rcases (show i = 0 ∨ i = 1 ∨ i = 2 ∨ i = 3 ∨ i = 4 by omega) with rfl | rfl | rfl | rfl | rfl
      · refine ⟨nI (um_gW (um_pa f) (f 0) p), ?_, ?_⟩
        · have e : um_cnt (fun r => decide (op r = p)) (f 0) = um_gW (um_pa f) (f 0) p := um_cnt_congr (fun r hr => by rw [(hRP r (by omega)).1]; rfl)
          simp -implicitDefEqProofs (disch := omega) only [um_l0, um_l1, um_l2, um_l3, um_l4, um_l5, um_l6, um_l7, um_l8, um_l9, um_l10, um_l11, um_l12, um_l16, um_l20, um_l23, um_l24, um_l31, um_l32, um_l35, um_l42, um_l43, um_l45, um_l48, um_l57, um_l58, um_l59, um_l60, um_l61, um_l63, um_l64, um_l68, um_l83, um_l99, um_l100, um_l101, um_l102, um_l103, um_l104, um_l105, um_l106, um_l107, um_l108, um_l109, um_l110, um_l111, um_l112, um_l113, um_l114, um_l115, um_l116, um_l117, um_l118, um_l126, um_l128, um_l130, um_l131, um_l132, um_l133, um_l134, um_l135, um_l180, um_l210, um_l211, um_l235, um_l1645, um_l1880, ↓um_nm, um_b1, um_b2, um_b3, um_b4, um_b5, um_b6, um_b7, um_b8, um_b9, um_b10, um_gd, um_bz0, um_bz1, um_m1, nI_add, pk_mul, um_sub_lt0, um_sub_gt0, um_sub_eq0, um_sub_le0, pk_sub, nI_ltI, nI_leI, nI_eq, nI_clamp, um_nv_at, um_nv_up, um_up_eq, um_up_ne, if_true, if_false, if_pos, if_neg, um_at, um_at0, um_put, um_add, um_b2n_t, um_setOf q1 (show p < 2 ^ 31 by omega) hP', um_popSet q1, e]
        · have e := um_ropesAll q1 hp hP
          rw [um_b1, if_neg (by decide), if_pos (by rfl), e, um_b1]
      · refine ⟨nI (um_sum (fun r => if f (11 + 6 * r) = p then f (11 + 6 * r + 3) else 0) (f 0)), ?_, ?_⟩
        · have e : um_sum (fun r => if op r = p then oa r else 0) (f 0) = um_sum (fun r => if f (11 + 6 * r) = p then f (11 + 6 * r + 3) else 0) (f 0) := um_sum_congr (fun r hr => by
            have e3 : 11 + 6 * r + 3 = 14 + 6 * r := by omega
            rw [(hRP r (by omega)).1, (hRP r (by omega)).2.2.2.1, e3])
          simp -implicitDefEqProofs (disch := omega) only [um_l0, um_l1, um_l2, um_l3, um_l4, um_l5, um_l6, um_l7, um_l8, um_l9, um_l10, um_l11, um_l12, um_l16, um_l20, um_l23, um_l24, um_l31, um_l32, um_l35, um_l42, um_l43, um_l45, um_l48, um_l57, um_l58, um_l59, um_l60, um_l61, um_l63, um_l64, um_l68, um_l83, um_l99, um_l100, um_l101, um_l102, um_l103, um_l104, um_l105, um_l106, um_l107, um_l108, um_l109, um_l110, um_l111, um_l112, um_l113, um_l114, um_l115, um_l116, um_l117, um_l118, um_l126, um_l128, um_l130, um_l131, um_l132, um_l133, um_l134, um_l135, um_l180, um_l210, um_l211, um_l235, um_l1645, um_l1880, ↓um_nm, um_b1, um_b2, um_b3, um_b4, um_b5, um_b6, um_b7, um_b8, um_b9, um_b10, um_gd, um_bz0, um_bz1, um_m1, nI_add, pk_mul, um_sub_lt0, um_sub_gt0, um_sub_eq0, um_sub_le0, pk_sub, nI_ltI, nI_leI, nI_eq, nI_clamp, um_nv_at, um_nv_up, um_up_eq, um_up_ne, if_true, if_false, if_pos, if_neg, um_at, um_at0, um_put, um_add, um_b2n_t, um_sumOf q1 (show p < 2 ^ 31 by omega) hP', e]
        · simp -implicitDefEqProofs (disch := omega) only [um_l0, um_l1, um_l2, um_l3, um_l4, um_l5, um_l6, um_l7, um_l8, um_l9, um_l10, um_l11, um_l12, um_l16, um_l20, um_l23, um_l24, um_l31, um_l32, um_l35, um_l42, um_l43, um_l45, um_l48, um_l57, um_l58, um_l59, um_l60, um_l61, um_l63, um_l64, um_l68, um_l83, um_l99, um_l100, um_l101, um_l102, um_l103, um_l104, um_l105, um_l106, um_l107, um_l108, um_l109, um_l110, um_l111, um_l112, um_l113, um_l114, um_l115, um_l116, um_l117, um_l118, um_l126, um_l128, um_l130, um_l131, um_l132, um_l133, um_l134, um_l135, um_l180, um_l210, um_l211, um_l235, um_l1645, um_l1880, ↓um_nm, um_b1, um_b2, um_b3, um_b4, um_b5, um_b6, um_b7, um_b8, um_b9, um_b10, um_gd, um_bz0, um_bz1, um_m1, nI_add, pk_mul, um_sub_lt0, um_sub_gt0, um_sub_eq0, um_sub_le0, pk_sub, nI_ltI, nI_leI, nI_eq, nI_clamp, um_nv_at, um_nv_up, um_up_eq, um_up_ne, if_true, if_false, if_pos, if_neg, um_at, um_at0, um_put, um_add, um_b2n_t, um_sumM q1 hp (show 3 < 6 by decide) hP]
      · refine ⟨nI (um_sum (fun r => if f (11 + 6 * r) = p then f (11 + 6 * r + 2) else 0) (f 0)), ?_, ?_⟩
        · have e : um_sum (fun r => if op r = p then ou r else 0) (f 0) = um_sum (fun r => if f (11 + 6 * r) = p then f (11 + 6 * r + 2) else 0) (f 0) := um_sum_congr (fun r hr => by
            have e3 : 11 + 6 * r + 2 = 13 + 6 * r := by omega
            rw [(hRP r (by omega)).1, (hRP r (by omega)).2.2.1, e3])
          simp -implicitDefEqProofs (disch := omega) only [um_l0, um_l1, um_l2, um_l3, um_l4, um_l5, um_l6, um_l7, um_l8, um_l9, um_l10, um_l11, um_l12, um_l16, um_l20, um_l23, um_l24, um_l31, um_l32, um_l35, um_l42, um_l43, um_l45, um_l48, um_l57, um_l58, um_l59, um_l60, um_l61, um_l63, um_l64, um_l68, um_l83, um_l99, um_l100, um_l101, um_l102, um_l103, um_l104, um_l105, um_l106, um_l107, um_l108, um_l109, um_l110, um_l111, um_l112, um_l113, um_l114, um_l115, um_l116, um_l117, um_l118, um_l126, um_l128, um_l130, um_l131, um_l132, um_l133, um_l134, um_l135, um_l180, um_l210, um_l211, um_l235, um_l1645, um_l1880, ↓um_nm, um_b1, um_b2, um_b3, um_b4, um_b5, um_b6, um_b7, um_b8, um_b9, um_b10, um_gd, um_bz0, um_bz1, um_m1, nI_add, pk_mul, um_sub_lt0, um_sub_gt0, um_sub_eq0, um_sub_le0, pk_sub, nI_ltI, nI_leI, nI_eq, nI_clamp, um_nv_at, um_nv_up, um_up_eq, um_up_ne, if_true, if_false, if_pos, if_neg, um_at, um_at0, um_put, um_add, um_b2n_t, um_sumOf q1 (show p < 2 ^ 31 by omega) hP', e]
        · simp -implicitDefEqProofs (disch := omega) only [um_l0, um_l1, um_l2, um_l3, um_l4, um_l5, um_l6, um_l7, um_l8, um_l9, um_l10, um_l11, um_l12, um_l16, um_l20, um_l23, um_l24, um_l31, um_l32, um_l35, um_l42, um_l43, um_l45, um_l48, um_l57, um_l58, um_l59, um_l60, um_l61, um_l63, um_l64, um_l68, um_l83, um_l99, um_l100, um_l101, um_l102, um_l103, um_l104, um_l105, um_l106, um_l107, um_l108, um_l109, um_l110, um_l111, um_l112, um_l113, um_l114, um_l115, um_l116, um_l117, um_l118, um_l126, um_l128, um_l130, um_l131, um_l132, um_l133, um_l134, um_l135, um_l180, um_l210, um_l211, um_l235, um_l1645, um_l1880, ↓um_nm, um_b1, um_b2, um_b3, um_b4, um_b5, um_b6, um_b7, um_b8, um_b9, um_b10, um_gd, um_bz0, um_bz1, um_m1, nI_add, pk_mul, um_sub_lt0, um_sub_gt0, um_sub_eq0, um_sub_le0, pk_sub, nI_ltI, nI_leI, nI_eq, nI_clamp, um_nv_at, um_nv_up, um_up_eq, um_up_ne, if_true, if_false, if_pos, if_neg, um_at, um_at0, um_put, um_add, um_b2n_t, um_sumM q1 hp (show 2 < 6 by decide) hP]
      · refine ⟨nI (um_cnt (fun h => decide (um_guess (um_pa f) (f 0) (f (211 + h)) = nI p)) 24), ?_, ?_⟩
        · rw [hg]
          simp -implicitDefEqProofs (disch := omega) only [um_l0, um_l1, um_l2, um_l3, um_l4, um_l5, um_l6, um_l7, um_l8, um_l9, um_l10, um_l11, um_l12, um_l16, um_l20, um_l23, um_l24, um_l31, um_l32, um_l35, um_l42, um_l43, um_l45, um_l48, um_l57, um_l58, um_l59, um_l60, um_l61, um_l63, um_l64, um_l68, um_l83, um_l99, um_l100, um_l101, um_l102, um_l103, um_l104, um_l105, um_l106, um_l107, um_l108, um_l109, um_l110, um_l111, um_l112, um_l113, um_l114, um_l115, um_l116, um_l117, um_l118, um_l126, um_l128, um_l130, um_l131, um_l132, um_l133, um_l134, um_l135, um_l180, um_l210, um_l211, um_l235, um_l1645, um_l1880, ↓um_nm, um_b1, um_b2, um_b3, um_b4, um_b5, um_b6, um_b7, um_b8, um_b9, um_b10, um_gd, um_bz0, um_bz1, um_m1, nI_add, pk_mul, um_sub_lt0, um_sub_gt0, um_sub_eq0, um_sub_le0, pk_sub, nI_ltI, nI_leI, nI_eq, nI_clamp, um_nv_at, um_nv_up, um_up_eq, um_up_ne, if_true, if_false, if_pos, if_neg, um_at, um_at0, um_put, um_add, um_b2n_t]
        · rw [hh]
          simp -implicitDefEqProofs (disch := omega) only [um_l0, um_l1, um_l2, um_l3, um_l4, um_l5, um_l6, um_l7, um_l8, um_l9, um_l10, um_l11, um_l12, um_l16, um_l20, um_l23, um_l24, um_l31, um_l32, um_l35, um_l42, um_l43, um_l45, um_l48, um_l57, um_l58, um_l59, um_l60, um_l61, um_l63, um_l64, um_l68, um_l83, um_l99, um_l100, um_l101, um_l102, um_l103, um_l104, um_l105, um_l106, um_l107, um_l108, um_l109, um_l110, um_l111, um_l112, um_l113, um_l114, um_l115, um_l116, um_l117, um_l118, um_l126, um_l128, um_l130, um_l131, um_l132, um_l133, um_l134, um_l135, um_l180, um_l210, um_l211, um_l235, um_l1645, um_l1880, ↓um_nm, um_b1, um_b2, um_b3, um_b4, um_b5, um_b6, um_b7, um_b8, um_b9, um_b10, um_gd, um_bz0, um_bz1, um_m1, nI_add, pk_mul, um_sub_lt0, um_sub_gt0, um_sub_eq0, um_sub_le0, pk_sub, nI_ltI, nI_leI, nI_eq, nI_clamp, um_nv_at, um_nv_up, um_up_eq, um_up_ne, if_true, if_false, if_pos, if_neg, um_at, um_at0, um_put, um_add, um_b2n_t]
      · have hset : um_set (fun r => decide (op r = p)) (f 0) < 2 ^ 31 := by have := um_set_le (b := fun r => decide (op r = p)) q1; omega
        have e : um_cnt (fun k => (um_set (fun r => decide (op r = p)) (f 0)).testBit (pr k)) (f 1) = um_sum (fun r => if f (11 + 6 * r) = p then um_cnt (fun k => decide (f (83 + 3 * k) = r)) (f 1) else 0) (f 0) := by
          unfold um_cnt
          rw [um_sum_congr (f := fun r => if f (11 + 6 * r) = p then um_sum (fun i => um_b2n (decide (f (83 + 3 * i) = r))) (f 1) else 0) (g := fun r => um_sum (fun k => if f (11 + 6 * r) = p then um_b2n (decide (f (83 + 3 * k) = r)) else 0) (f 1)) (fun r _ => um_ite_sum), um_sum_swap]
          refine um_sum_congr (fun k hk => ?_)
          have hk0 := (q14 k hk).1
          show um_b2n ((um_set (fun r => decide (op r = p)) (f 0)).testBit (pr k)) = _
          rw [um_set_bit, (hPL k hk).1, (hRP _ (by omega)).1, decide_eq_true hk0, Bool.true_and]
          have hs := um_sum_b (f := fun _ => 0) (g := fun r => if f (11 + 6 * r) = p then um_b2n (decide (f (83 + 3 * k) = r)) else 0) (a := decide (f (11 + 6 * f (83 + 3 * k)) = p)) (k := f (83 + 3 * k)) hk0 (fun i hi => by
            rw [Nat.zero_add]
            by_cases hik : i = f (83 + 3 * k)
            · rw [hik]
              by_cases hz : f (11 + 6 * f (83 + 3 * k)) = p
              · simp [hz]
              · simp [hz, um_b2n]
            · have hik' : ¬ f (83 + 3 * k) = i := fun z => hik z.symm
              rw [decide_eq_false hik', decide_eq_false hik, Bool.and_false, um_b2n_f]
              split <;> rfl)
          rw [hs, um_sum_zero (fun _ _ => rfl), Nat.zero_add]
        refine ⟨nI (um_sum (fun r => if f (11 + 6 * r) = p then um_cnt (fun k => decide (f (83 + 3 * k) = r)) (f 1) else 0) (f 0)), ?_, ?_⟩
        · simp -implicitDefEqProofs (disch := omega) only [um_l0, um_l1, um_l2, um_l3, um_l4, um_l5, um_l6, um_l7, um_l8, um_l9, um_l10, um_l11, um_l12, um_l16, um_l20, um_l23, um_l24, um_l31, um_l32, um_l35, um_l42, um_l43, um_l45, um_l48, um_l57, um_l58, um_l59, um_l60, um_l61, um_l63, um_l64, um_l68, um_l83, um_l99, um_l100, um_l101, um_l102, um_l103, um_l104, um_l105, um_l106, um_l107, um_l108, um_l109, um_l110, um_l111, um_l112, um_l113, um_l114, um_l115, um_l116, um_l117, um_l118, um_l126, um_l128, um_l130, um_l131, um_l132, um_l133, um_l134, um_l135, um_l180, um_l210, um_l211, um_l235, um_l1645, um_l1880, ↓um_nm, um_b1, um_b2, um_b3, um_b4, um_b5, um_b6, um_b7, um_b8, um_b9, um_b10, um_gd, um_bz0, um_bz1, um_m1, nI_add, pk_mul, um_sub_lt0, um_sub_gt0, um_sub_eq0, um_sub_le0, pk_sub, nI_ltI, nI_leI, nI_eq, nI_clamp, um_nv_at, um_nv_up, um_up_eq, um_up_ne, if_true, if_false, if_pos, if_neg, um_at, um_at0, um_put, um_add, um_b2n_t, um_setOf q1 (show p < 2 ^ 31 by omega) hP', um_numberIn q2 hset hb, e]
        · simp -implicitDefEqProofs (disch := omega) only [um_l0, um_l1, um_l2, um_l3, um_l4, um_l5, um_l6, um_l7, um_l8, um_l9, um_l10, um_l11, um_l12, um_l16, um_l20, um_l23, um_l24, um_l31, um_l32, um_l35, um_l42, um_l43, um_l45, um_l48, um_l57, um_l58, um_l59, um_l60, um_l61, um_l63, um_l64, um_l68, um_l83, um_l99, um_l100, um_l101, um_l102, um_l103, um_l104, um_l105, um_l106, um_l107, um_l108, um_l109, um_l110, um_l111, um_l112, um_l113, um_l114, um_l115, um_l116, um_l117, um_l118, um_l126, um_l128, um_l130, um_l131, um_l132, um_l133, um_l134, um_l135, um_l180, um_l210, um_l211, um_l235, um_l1645, um_l1880, ↓um_nm, um_b1, um_b2, um_b3, um_b4, um_b5, um_b6, um_b7, um_b8, um_b9, um_b10, um_gd, um_bz0, um_bz1, um_m1, nI_add, pk_mul, um_sub_lt0, um_sub_gt0, um_sub_eq0, um_sub_le0, pk_sub, nI_ltI, nI_leI, nI_eq, nI_clamp, um_nv_at, um_nv_up, um_up_eq, um_up_ne, if_true, if_false, if_pos, if_neg, um_at, um_at0, um_put, um_add, um_b2n_t, um_sum6 q1 q2 hp hP hb']
theorem um_and1a : ∀ a, a < 64 → ∀ b, b < 64 → 64 * a + b ≠ 0 → um_pop 12 (64 * a + b) = um_pop 12 ((64 * a + b) &&& (64 * a + b - 1)) + 1 := by decide +kernel
theorem um_and1 (x : Nat) (h : x < 4096) (h0 : x ≠ 0) : um_pop 12 x = um_pop 12 (x &&& (x - 1)) + 1 := by
  have e : x = 64 * (x / 64) + x % 64 := by omega
  have := um_and1a (x / 64) (by omega) (x % 64) (by omega) (by omega)
  rw [← e] at this
  exact this
theorem um_bits : ∀ (k x a : Nat), x < 4096 → um_pop 12 x < k → ulX9_bits_4 k (nI a) (nI x) = some (nI (a + um_pop 12 x))
  | 0, _, _, _, h => absurd h (Nat.not_lt_zero _)
  | k + 1, x, a, hx, h => by
    rw [ulX9_bits_4]
    by_cases h0 : x = 0
    · subst h0
      rw [if_pos (by rfl)]
      have : um_pop 12 0 = 0 := by decide
      rw [this]
      rfl
    · have h1 := um_and1 x hx h0
      have h2 : x &&& (x - 1) ≤ x := Nat.and_le_left
      rw [if_neg (nI_ne0 (by omega) (by omega)), nI_1, show (1 : Int32) = nI 1 from rfl, pk_sub (by omega), um_and, um_bits k _ _ (by omega) (by omega), h1, show a + 1 + um_pop 12 (x &&& (x - 1)) = a + (um_pop 12 (x &&& (x - 1)) + 1) by omega]
theorem um_pop_le : ∀ (n x : Nat), um_pop n x ≤ n
  | 0, _ => Nat.le_refl _
  | n + 1, x => by
    have := um_pop_le n (x / 2)
    rw [um_pop]
    omega
theorem um_bits9 {x : Nat} (hx : x < 4096) : ufX9_bits (nI x) = some (nI (um_pop 12 x)) := by
  have h := um_pop_le 12 x
  unfold ufX9_bits
  have := um_bits ub_F x 0 hx (by unfold ub_F; omega)
  rw [Nat.zero_add] at this
  exact this
theorem um_pop0a : ∀ a, a < 64 → ∀ b, b < 64 → um_pop 12 (64 * a + b) = 0 → 64 * a + b = 0 := by decide +kernel
theorem um_pop0 {x : Nat} (hx : x < 4096) : um_pop 12 x = 0 ↔ x = 0 := by
  constructor
  · intro h
    have e : x = 64 * (x / 64) + x % 64 := by omega
    rw [e] at h ⊢
    exact um_pop0a _ (by omega) _ (by omega) h
  · intro h
    subst h
    decide
def um_bm (B : Nat → Nat) : Nat → Nat
  | 0 => 0
  | i + 1 => if B (um_bm B i) < B (i + 1) then i + 1 else um_bm B i
theorem um_bm_le {B : Nat → Nat} : ∀ i, um_bm B i ≤ i
  | 0 => Nat.le_refl _
  | i + 1 => by
    have := um_bm_le (B := B) i
    rw [um_bm]
    split <;> omega
theorem um_v_busiest {f : Nat → Nat} {c : Nat} (hI : um_I f c) : ufX9_busiest (um_nv f) = some (if f (211 + um_bm (fun h => um_pop 12 (f (211 + h))) 23) = 0 then (-1015) else nI (um_bm (fun h => um_pop 12 (f (211 + h))) 23)) := by
  have hset := fun h hh => um_I_set (h := h) hI hh
  unfold ufX9_busiest
  refine um_loop (fun k (s : Int32 × Int32) => ulX9_busiest_4 (um_nv f) k s.1 s.2) (fun i => (nI (um_bm (fun h => um_pop 12 (f (211 + h))) (i - 1)), nI i)) 1 24 (by omega) (by omega) ?_ ?_
  · intro i k ha hi
    show ulX9_busiest_4 (um_nv f) (k + 1) _ _ = ulX9_busiest_4 (um_nv f) k _ _
    obtain ⟨j, rfl⟩ : ∃ j, i = j + 1 := ⟨i - 1, by omega⟩
    have hle := um_bm_le (B := fun h => um_pop 12 (f (211 + h))) j
    have hs := hset (j + 1) hi
    have hs2 := hset (um_bm (fun h => um_pop 12 (f (211 + h))) j) (by omega)
    have hp := um_pop_le 12 (f (211 + (j + 1)))
    have hp2 := um_pop_le 12 (f (211 + um_bm (fun h => um_pop 12 (f (211 + h))) j))
    rw [ulX9_busiest_4, show j + 1 + 1 - 1 = j + 1 from rfl, Nat.add_sub_cancel, um_bm]
    generalize um_bm (fun h => um_pop 12 (f (211 + h))) j = b at *
    by_cases hc : um_pop 12 (f (211 + b)) < um_pop 12 (f (211 + (j + 1)))
    · simp -implicitDefEqProofs (disch := omega) only [um_l0, um_l1, um_l2, um_l3, um_l4, um_l5, um_l6, um_l7, um_l8, um_l9, um_l10, um_l11, um_l12, um_l16, um_l20, um_l23, um_l24, um_l31, um_l32, um_l35, um_l42, um_l43, um_l45, um_l48, um_l57, um_l58, um_l59, um_l60, um_l61, um_l63, um_l64, um_l68, um_l83, um_l99, um_l100, um_l101, um_l102, um_l103, um_l104, um_l105, um_l106, um_l107, um_l108, um_l109, um_l110, um_l111, um_l112, um_l113, um_l114, um_l115, um_l116, um_l117, um_l118, um_l126, um_l128, um_l130, um_l131, um_l132, um_l133, um_l134, um_l135, um_l180, um_l210, um_l211, um_l235, um_l1645, um_l1880, ↓um_nm, um_b1, um_b2, um_b3, um_b4, um_b5, um_b6, um_b7, um_b8, um_b9, um_b10, um_gd, um_bz0, um_bz1, um_m1, nI_add, pk_mul, um_sub_lt0, um_sub_gt0, um_sub_eq0, um_sub_le0, pk_sub, nI_ltI, nI_leI, nI_eq, nI_clamp, um_nv_at, um_nv_up, um_up_eq, um_up_ne, if_true, if_false, if_pos, if_neg, um_at, um_at0, um_put, um_add, um_bits9]
    · simp -implicitDefEqProofs (disch := omega) only [um_l0, um_l1, um_l2, um_l3, um_l4, um_l5, um_l6, um_l7, um_l8, um_l9, um_l10, um_l11, um_l12, um_l16, um_l20, um_l23, um_l24, um_l31, um_l32, um_l35, um_l42, um_l43, um_l45, um_l48, um_l57, um_l58, um_l59, um_l60, um_l61, um_l63, um_l64, um_l68, um_l83, um_l99, um_l100, um_l101, um_l102, um_l103, um_l104, um_l105, um_l106, um_l107, um_l108, um_l109, um_l110, um_l111, um_l112, um_l113, um_l114, um_l115, um_l116, um_l117, um_l118, um_l126, um_l128, um_l130, um_l131, um_l132, um_l133, um_l134, um_l135, um_l180, um_l210, um_l211, um_l235, um_l1645, um_l1880, ↓um_nm, um_b1, um_b2, um_b3, um_b4, um_b5, um_b6, um_b7, um_b8, um_b9, um_b10, um_gd, um_bz0, um_bz1, um_m1, nI_add, pk_mul, um_sub_lt0, um_sub_gt0, um_sub_eq0, um_sub_le0, pk_sub, nI_ltI, nI_leI, nI_eq, nI_clamp, um_nv_at, um_nv_up, um_up_eq, um_up_ne, if_true, if_false, if_pos, if_neg, um_at, um_at0, um_put, um_add, um_bits9]
  · intro k
    show ulX9_busiest_4 (um_nv f) (k + 1) _ _ = _
    have hle := um_bm_le (B := fun h => um_pop 12 (f (211 + h))) 23
    rw [ulX9_busiest_4, show 24 - 1 = 23 from rfl]
    generalize um_bm (fun h => um_pop 12 (f (211 + h))) 23 = b at *
    have hs2 := hset b (by omega)
    by_cases hc : f (211 + b) = 0
    · simp -implicitDefEqProofs (disch := omega) only [um_l0, um_l1, um_l2, um_l3, um_l4, um_l5, um_l6, um_l7, um_l8, um_l9, um_l10, um_l11, um_l12, um_l16, um_l20, um_l23, um_l24, um_l31, um_l32, um_l35, um_l42, um_l43, um_l45, um_l48, um_l57, um_l58, um_l59, um_l60, um_l61, um_l63, um_l64, um_l68, um_l83, um_l99, um_l100, um_l101, um_l102, um_l103, um_l104, um_l105, um_l106, um_l107, um_l108, um_l109, um_l110, um_l111, um_l112, um_l113, um_l114, um_l115, um_l116, um_l117, um_l118, um_l126, um_l128, um_l130, um_l131, um_l132, um_l133, um_l134, um_l135, um_l180, um_l210, um_l211, um_l235, um_l1645, um_l1880, ↓um_nm, um_b1, um_b2, um_b3, um_b4, um_b5, um_b6, um_b7, um_b8, um_b9, um_b10, um_gd, um_bz0, um_bz1, um_m1, nI_add, pk_mul, um_sub_lt0, um_sub_gt0, um_sub_eq0, um_sub_le0, pk_sub, nI_ltI, nI_leI, nI_eq, nI_clamp, um_nv_at, um_nv_up, um_up_eq, um_up_ne, if_true, if_false, if_pos, if_neg, um_at, um_at0, um_put, um_add, hc]
    · simp -implicitDefEqProofs (disch := omega) only [um_l0, um_l1, um_l2, um_l3, um_l4, um_l5, um_l6, um_l7, um_l8, um_l9, um_l10, um_l11, um_l12, um_l16, um_l20, um_l23, um_l24, um_l31, um_l32, um_l35, um_l42, um_l43, um_l45, um_l48, um_l57, um_l58, um_l59, um_l60, um_l61, um_l63, um_l64, um_l68, um_l83, um_l99, um_l100, um_l101, um_l102, um_l103, um_l104, um_l105, um_l106, um_l107, um_l108, um_l109, um_l110, um_l111, um_l112, um_l113, um_l114, um_l115, um_l116, um_l117, um_l118, um_l126, um_l128, um_l130, um_l131, um_l132, um_l133, um_l134, um_l135, um_l180, um_l210, um_l211, um_l235, um_l1645, um_l1880, ↓um_nm, um_b1, um_b2, um_b3, um_b4, um_b5, um_b6, um_b7, um_b8, um_b9, um_b10, um_gd, um_bz0, um_bz1, um_m1, nI_add, pk_mul, um_sub_lt0, um_sub_gt0, um_sub_eq0, um_sub_le0, pk_sub, nI_ltI, nI_leI, nI_eq, nI_clamp, um_nv_at, um_nv_up, um_up_eq, um_up_ne, if_true, if_false, if_pos, if_neg, um_at, um_at0, um_put, um_add, hc]
theorem um_s_busiest {f ph pr ps rd rh rr rs rg oa od oi om op ou : Nat → Nat} {c la : Nat} (hI : um_I f c) (hT : um_D f la ph pr ps rd rh rr rs rg oa od oi om op ou) :
    ∃ r, ufX8_busiest (um_nv rg) = some r ∧ ufX9_busiest (um_nv f) = some r := by
  obtain ⟨hPL, hAN, hHD, hRP⟩ := hT
  have hset := fun h hh => um_I_set (h := h) hI hh
  refine ⟨if f (211 + um_bm (fun h => um_pop 12 (f (211 + h))) 23) = 0 then (-1015) else nI (um_bm (fun h => um_pop 12 (f (211 + h))) 23), ?_, ?_⟩
  · have h23 := um_bm_le (B := fun h => um_pop 12 (f (211 + h))) 23
    have hz := um_pop0 (hset (um_bm (fun h => um_pop 12 (f (211 + h))) 23) (by omega))
    unfold ufX8_busiest
    have key : ∀ i, i < 24 → ∀ k, 24 - i ≤ k → ulX8_busiest_8 (um_nv rg) k (if um_pop 12 (f (211 + um_bm (fun h => um_pop 12 (f (211 + h))) i)) = 0 then (-1015) else nI (um_bm (fun h => um_pop 12 (f (211 + h))) i)) (nI (um_pop 12 (f (211 + um_bm (fun h => um_pop 12 (f (211 + h))) i)))) (nI (i + 1)) = some (if f (211 + um_bm (fun h => um_pop 12 (f (211 + h))) 23) = 0 then (-1015) else nI (um_bm (fun h => um_pop 12 (f (211 + h))) 23)) := by
      intro i hi k
      induction k generalizing i with
      | zero => intro h; omega
      | succ k ih =>
        intro hk
        rw [ulX8_busiest_8]
        by_cases hl : i = 23
        · subst hl
          rw [if_pos (by decide)]
          congr 1
          by_cases z : f (211 + um_bm (fun h => um_pop 12 (f (211 + h))) 23) = 0
          · rw [if_pos z, if_pos (hz.mpr z)]
          · rw [if_neg z, if_neg (fun q => z (hz.mp q))]
        · have s1 := hHD (i + 1) (by omega)
          have hs := hset (i + 1) (by omega)
          have hp := um_pop_le 12 (f (211 + (i + 1)))
          have hp2 := um_pop_le 12 (f (211 + um_bm (fun h => um_pop 12 (f (211 + h))) i))
          have hi2 := ih (i + 1) (by omega) (by omega)
          rw [um_bm] at hi2
          rw [if_neg (show ¬ (24 : Int32) ≤ nI (i + 1) from nI_ge (a := i + 1) (b := 24) (by omega) (by decide)), um_at (by omega) (by decide), um_b1, s1, um_bitCount hs, um_b1]
          by_cases hc : um_pop 12 (f (211 + um_bm (fun h => um_pop 12 (f (211 + h))) i)) < um_pop 12 (f (211 + (i + 1)))
          · rw [if_pos hc, if_neg (show ¬ um_pop 12 (f (211 + (i + 1))) = 0 by omega)] at hi2
            rw [if_neg (nI_ge hc (by omega)), nI_1]
            exact hi2
          · rw [if_neg hc] at hi2
            rw [if_pos (nI_le (by omega) (by omega)), nI_1]
            exact hi2
    have s0 := hHD 0 (by omega)
    have hs0 := hset 0 (by omega)
    have hp := um_pop_le 12 (f (211 + 0))
    have k0 := key 0 (by omega) 4095 (by omega)
    rw [show ub_F = 4095 + 1 from rfl, ulX8_busiest_8, if_neg (by decide), show (0 : Int32) = nI 0 from rfl, um_at (by omega) (by decide), um_b1, s0, um_bitCount hs0, um_b1, nI_1]
    by_cases hc : um_pop 12 (f (211 + 0)) = 0
    · rw [if_pos (nI_le (by omega) (by omega))]
      have e : um_bm (fun h => um_pop 12 (f (211 + h))) 0 = 0 := rfl
      rw [e, if_pos hc, hc] at k0
      exact k0
    · rw [if_neg (nI_ge (by omega) (by omega))]
      have e : um_bm (fun h => um_pop 12 (f (211 + h))) 0 = 0 := rfl
      rw [e, if_neg hc] at k0
      exact k0
  · exact um_v_busiest hI
theorem um_nI0 {c : Nat} : nI c + (0 : Int32) = nI c := by
  rw [show (0 : Int32) = nI 0 from rfl, nI_add]
  rfl
theorem um_u84 {nx : Int32 → Option Int32} {nx17 : Int32 → Int32 → Option Int32} {v : Nat → Int32} {x t0 : Int32} {r c i : Nat} (hr : r < 12) (hi : i < 12) : ujX9_rustiest_84 nx nx17 v x (nI r) (nI c) (nI i) t0 = nx17 (nI (c + um_b2n (!decide (i = r) && (decide ((0 : Int32) < t0) || (decide (t0 = (0 : Int32)) && decide (i < r)))))) (nI (i + 1)) := by
  unfold ujX9_rustiest_84
  by_cases c0 : i = r
  · rw [if_pos (by rw [c0]), decide_eq_true c0, nI_1, um_nI0]
    rfl
  · rw [if_neg (fun z => c0 ((nI_eq (by omega) (by omega)).mp z)), decide_eq_false c0]
    by_cases c1 : (0 : Int32) < t0
    · rw [if_pos c1, decide_eq_true c1, nI_1, nI_1]
      rfl
    · rw [if_neg c1, decide_eq_false c1]
      by_cases c2 : t0 = (0 : Int32)
      · rw [if_pos c2, decide_eq_true c2]
        by_cases c3 : i < r
        · rw [if_neg (nI_ge c3 (by omega)), decide_eq_true c3, nI_1, nI_1]
          rfl
        · rw [if_pos (nI_le (by omega) (by omega)), decide_eq_false c3, nI_1, um_nI0]
          rfl
      · rw [if_neg c2, decide_eq_false c2, nI_1, um_nI0]
        rfl
theorem um_rs17 {nx : Int32 → Option Int32} {f : Nat → Nat} {x : Int32} {r : Nat} (hn : f 0 ≤ 12) (hr : r < 12) (h1 : ∀ r, r < 12 → f (13 + 6 * r) < 2 ^ 30) (h2 : ∀ r, r < 12 → f (14 + 6 * r) < 2 ^ 30) : ulX9_rustiest_17 nx (um_nv f) x (nI r) ub_F (nI 0) (nI 0) = if nI (um_cnt (fun o => um_rustier (fun r => f (13 + 6 * r)) (fun r => f (14 + 6 * r)) o r) (f 0)) = x then some (nI r) else nx (nI (r + 1)) := by
  refine um_loop (fun k (s : Int32 × Int32) => ulX9_rustiest_17 nx (um_nv f) x (nI r) k s.1 s.2) (fun i => (nI (um_cnt (fun o => um_rustier (fun r => f (13 + 6 * r)) (fun r => f (14 + 6 * r)) o r) i), nI i)) 0 (f 0) (by omega) (by omega) ?_ ?_
  · intro i k _ hi
    show ulX9_rustiest_17 nx (um_nv f) x (nI r) (k + 1) _ _ = ulX9_rustiest_17 nx (um_nv f) x (nI r) k _ _
    have a1 := h1 i (by omega)
    have a2 := h1 r hr
    have a3 := h2 i (by omega)
    have a4 := h2 r hr
    have e1 : ∀ q, 11 + 6 * q + 2 = 13 + 6 * q := fun q => by omega
    have e2 : ∀ q, 11 + 6 * q + 3 = 14 + 6 * q := fun q => by omega
    have key : um_b2n (um_rustier (fun r => f (13 + 6 * r)) (fun r => f (14 + 6 * r)) i r) = um_b2n (!decide (i = r) && (decide ((0 : Int32) < (if f (13 + 6 * i) = f (13 + 6 * r) then nI (f (14 + 6 * r)) - nI (f (14 + 6 * i)) else nI (f (13 + 6 * i)) - nI (f (13 + 6 * r)))) || (decide ((if f (13 + 6 * i) = f (13 + 6 * r) then nI (f (14 + 6 * r)) - nI (f (14 + 6 * i)) else nI (f (13 + 6 * i)) - nI (f (13 + 6 * r))) = (0 : Int32)) && decide (i < r)))) := by
      congr 1
      unfold um_rustier
      dsimp only
      by_cases c0 : i = r
      · subst c0
        simp
      · have k1 : ((0 : Int32) < nI (f (14 + 6 * r)) - nI (f (14 + 6 * i))) ↔ f (14 + 6 * i) < f (14 + 6 * r) := um_sub_gt0 a4 a3
        have k2 : (nI (f (14 + 6 * r)) - nI (f (14 + 6 * i)) = (0 : Int32)) ↔ f (14 + 6 * r) = f (14 + 6 * i) := um_sub_eq0 a4 a3
        have k3 : ((0 : Int32) < nI (f (13 + 6 * i)) - nI (f (13 + 6 * r))) ↔ f (13 + 6 * r) < f (13 + 6 * i) := um_sub_gt0 a1 a2
        have k4 : (nI (f (13 + 6 * i)) - nI (f (13 + 6 * r)) = (0 : Int32)) ↔ f (13 + 6 * i) = f (13 + 6 * r) := um_sub_eq0 a1 a2
        by_cases c1 : f (13 + 6 * i) = f (13 + 6 * r)
        · rw [if_pos c1, if_pos c1, decide_eq_decide.mpr k1, decide_eq_decide.mpr k2, decide_eq_false c0]
          by_cases c2 : f (14 + 6 * i) = f (14 + 6 * r)
          · rw [if_pos c2, decide_eq_false (show ¬ f (14 + 6 * i) < f (14 + 6 * r) by omega), decide_eq_true c2.symm]
            simp
          · rw [if_neg c2, decide_eq_false (show ¬ f (14 + 6 * r) = f (14 + 6 * i) from fun z => c2 z.symm)]
            simp
        · rw [if_neg c1, if_neg c1, show decide ((0 : Int32) < nI (f (13 + 6 * i)) - nI (f (13 + 6 * r))) = decide (f (13 + 6 * r) < f (13 + 6 * i)) from decide_eq_decide.mpr k3, show decide (nI (f (13 + 6 * i)) - nI (f (13 + 6 * r)) = (0 : Int32)) = decide (f (13 + 6 * i) = f (13 + 6 * r)) from decide_eq_decide.mpr k4, decide_eq_false c0, decide_eq_false c1]
          simp
    rw [ulX9_rustiest_17, um_cnt_s, key]
    by_cases c1 : f (13 + 6 * i) = f (13 + 6 * r)
    · rw [if_pos c1]
      simp -implicitDefEqProofs (disch := omega) only [um_l0, um_l1, um_l2, um_l3, um_l4, um_l5, um_l6, um_l7, um_l8, um_l9, um_l10, um_l11, um_l12, um_l16, um_l20, um_l23, um_l24, um_l31, um_l32, um_l35, um_l42, um_l43, um_l45, um_l48, um_l57, um_l58, um_l59, um_l60, um_l61, um_l63, um_l64, um_l68, um_l83, um_l99, um_l100, um_l101, um_l102, um_l103, um_l104, um_l105, um_l106, um_l107, um_l108, um_l109, um_l110, um_l111, um_l112, um_l113, um_l114, um_l115, um_l116, um_l117, um_l118, um_l126, um_l128, um_l130, um_l131, um_l132, um_l133, um_l134, um_l135, um_l180, um_l210, um_l211, um_l235, um_l1645, um_l1880, ↓um_nm, um_b1, um_b2, um_b3, um_b4, um_b5, um_b6, um_b7, um_b8, um_b9, um_b10, um_gd, um_bz0, um_bz1, um_m1, nI_add, pk_mul, um_sub_lt0, um_sub_gt0, um_sub_eq0, um_sub_le0, pk_sub, nI_ltI, nI_leI, nI_eq, nI_clamp, um_nv_at, um_nv_up, um_up_eq, um_up_ne, if_true, if_false, if_pos, if_neg, um_at, um_at0, um_put, um_add, um_x_at, e1, e2, um_u84 hr (show i < 12 by omega), c1]
    · rw [if_neg c1]
      simp -implicitDefEqProofs (disch := omega) only [um_l0, um_l1, um_l2, um_l3, um_l4, um_l5, um_l6, um_l7, um_l8, um_l9, um_l10, um_l11, um_l12, um_l16, um_l20, um_l23, um_l24, um_l31, um_l32, um_l35, um_l42, um_l43, um_l45, um_l48, um_l57, um_l58, um_l59, um_l60, um_l61, um_l63, um_l64, um_l68, um_l83, um_l99, um_l100, um_l101, um_l102, um_l103, um_l104, um_l105, um_l106, um_l107, um_l108, um_l109, um_l110, um_l111, um_l112, um_l113, um_l114, um_l115, um_l116, um_l117, um_l118, um_l126, um_l128, um_l130, um_l131, um_l132, um_l133, um_l134, um_l135, um_l180, um_l210, um_l211, um_l235, um_l1645, um_l1880, ↓um_nm, um_b1, um_b2, um_b3, um_b4, um_b5, um_b6, um_b7, um_b8, um_b9, um_b10, um_gd, um_bz0, um_bz1, um_m1, nI_add, pk_mul, um_sub_lt0, um_sub_gt0, um_sub_eq0, um_sub_le0, pk_sub, nI_ltI, nI_leI, nI_eq, nI_clamp, um_nv_at, um_nv_up, um_up_eq, um_up_ne, if_true, if_false, if_pos, if_neg, um_at, um_at0, um_put, um_add, um_x_at, e1, e2, um_u84 hr (show i < 12 by omega)]
  · intro k
    show ulX9_rustiest_17 nx (um_nv f) x (nI r) (k + 1) _ _ = _
    rw [ulX9_rustiest_17]
    simp -implicitDefEqProofs (disch := omega) only [um_l0, um_l1, um_l2, um_l3, um_l4, um_l5, um_l6, um_l7, um_l8, um_l9, um_l10, um_l11, um_l12, um_l16, um_l20, um_l23, um_l24, um_l31, um_l32, um_l35, um_l42, um_l43, um_l45, um_l48, um_l57, um_l58, um_l59, um_l60, um_l61, um_l63, um_l64, um_l68, um_l83, um_l99, um_l100, um_l101, um_l102, um_l103, um_l104, um_l105, um_l106, um_l107, um_l108, um_l109, um_l110, um_l111, um_l112, um_l113, um_l114, um_l115, um_l116, um_l117, um_l118, um_l126, um_l128, um_l130, um_l131, um_l132, um_l133, um_l134, um_l135, um_l180, um_l210, um_l211, um_l235, um_l1645, um_l1880, ↓um_nm, um_b1, um_b2, um_b3, um_b4, um_b5, um_b6, um_b7, um_b8, um_b9, um_b10, um_gd, um_bz0, um_bz1, um_m1, nI_add, pk_mul, um_sub_lt0, um_sub_gt0, um_sub_eq0, um_sub_le0, pk_sub, nI_ltI, nI_leI, nI_eq, nI_clamp, um_nv_at, um_nv_up, um_up_eq, um_up_ne, if_true, if_false, if_pos, if_neg, um_at, um_at0, um_put, um_add]
theorem um_I_30 {f : Nat → Nat} {c r : Nat} (hI : um_I f c) (hr : r < 12) : f (13 + 6 * r) ≤ 9 ∧ f (14 + 6 * r) ≤ 2 ^ 20 := by
  have h := um_I_own hI hr
  obtain ⟨q0, q1, q2, q3, q4, q5, q6, q7, q8, q9, q10, q11, q12, q13, q14, q15⟩ := hI
  have := (q9 r hr).2.2
  exact ⟨by omega, by omega⟩
theorem um_rustier_congr {ru oa ru' oa' : Nat → Nat} {a b : Nat} (h1 : ru a = ru' a) (h2 : ru b = ru' b) (h3 : oa a = oa' a) (h4 : oa b = oa' b) : um_rustier ru oa a b = um_rustier ru' oa' a b := by
  unfold um_rustier
  rw [h1, h2, h3, h4]
theorem um_v_rustiest {f : Nat → Nat} {c : Nat} {x : Int32} (hI : um_I f c) :
    ufX9_rustiest (um_nv f) x = some (um_fst (fun i => decide (nI (um_cnt (fun o => um_rustier (fun r => f (13 + 6 * r)) (fun r => f (14 + 6 * r)) o i) (f 0)) = x)) nI (-1011) (f 0) 0) := by
  have h30 := fun r hr => um_I_30 (r := r) hI hr
  have hn : f 0 ≤ 12 := hI.2.1
  have hv : ∀ n a, um_fst (fun i => decide (nI (um_cnt (fun o => um_rustier (fun r => f (13 + 6 * r)) (fun r => f (14 + 6 * r)) o i) (f 0)) = x)) (fun i => (some (nI i) : Option Int32)) (some (-1011)) n a = some (um_fst (fun i => decide (nI (um_cnt (fun o => um_rustier (fun r => f (13 + 6 * r)) (fun r => f (14 + 6 * r)) o i) (f 0)) = x)) nI (-1011) n a) := by
    intro n
    induction n with
    | zero => intro a; rfl
    | succ n ih =>
      intro a
      rw [um_fst, um_fst, ih]
      split <;> rfl
  unfold ufX9_rustiest
  refine Eq.trans (um_loopE (fun k (s : Int32) => ulX9_rustiest_2 (um_nv f) x k s) (fun i => nI i) (fun i => decide (nI (um_cnt (fun o => um_rustier (fun r => f (13 + 6 * r)) (fun r => f (14 + 6 * r)) o i) (f 0)) = x)) (fun i => some (nI i)) (f 0) (by omega) ?_ ?_) (hv _ _)
  · intro i k hi
    show ulX9_rustiest_2 (um_nv f) x (k + 1) _ = if _ then _ else ulX9_rustiest_2 (um_nv f) x k _
    rw [ulX9_rustiest_2]
    simp -implicitDefEqProofs (disch := omega) only [um_l0, um_l1, um_l2, um_l3, um_l4, um_l5, um_l6, um_l7, um_l8, um_l9, um_l10, um_l11, um_l12, um_l16, um_l20, um_l23, um_l24, um_l31, um_l32, um_l35, um_l42, um_l43, um_l45, um_l48, um_l57, um_l58, um_l59, um_l60, um_l61, um_l63, um_l64, um_l68, um_l83, um_l99, um_l100, um_l101, um_l102, um_l103, um_l104, um_l105, um_l106, um_l107, um_l108, um_l109, um_l110, um_l111, um_l112, um_l113, um_l114, um_l115, um_l116, um_l117, um_l118, um_l126, um_l128, um_l130, um_l131, um_l132, um_l133, um_l134, um_l135, um_l180, um_l210, um_l211, um_l235, um_l1645, um_l1880, ↓um_nm, um_b1, um_b2, um_b3, um_b4, um_b5, um_b6, um_b7, um_b8, um_b9, um_b10, um_gd, um_bz0, um_bz1, um_m1, nI_add, pk_mul, um_sub_lt0, um_sub_gt0, um_sub_eq0, um_sub_le0, pk_sub, nI_ltI, nI_leI, nI_eq, nI_clamp, um_nv_at, um_nv_up, um_up_eq, um_up_ne, if_true, if_false, if_pos, if_neg, um_at, um_at0, um_put, um_add, um_rs17 hn (show i < 12 by omega) (fun r hr => by have := (h30 r hr).1; omega) (fun r hr => by have := (h30 r hr).2; omega), decide_eq_true_eq]
  · intro k
    show ulX9_rustiest_2 (um_nv f) x (k + 1) _ = _
    rw [ulX9_rustiest_2]
    simp -implicitDefEqProofs (disch := omega) only [um_l0, um_l1, um_l2, um_l3, um_l4, um_l5, um_l6, um_l7, um_l8, um_l9, um_l10, um_l11, um_l12, um_l16, um_l20, um_l23, um_l24, um_l31, um_l32, um_l35, um_l42, um_l43, um_l45, um_l48, um_l57, um_l58, um_l59, um_l60, um_l61, um_l63, um_l64, um_l68, um_l83, um_l99, um_l100, um_l101, um_l102, um_l103, um_l104, um_l105, um_l106, um_l107, um_l108, um_l109, um_l110, um_l111, um_l112, um_l113, um_l114, um_l115, um_l116, um_l117, um_l118, um_l126, um_l128, um_l130, um_l131, um_l132, um_l133, um_l134, um_l135, um_l180, um_l210, um_l211, um_l235, um_l1645, um_l1880, ↓um_nm, um_b1, um_b2, um_b3, um_b4, um_b5, um_b6, um_b7, um_b8, um_b9, um_b10, um_gd, um_bz0, um_bz1, um_m1, nI_add, pk_mul, um_sub_lt0, um_sub_gt0, um_sub_eq0, um_sub_le0, pk_sub, nI_ltI, nI_leI, nI_eq, nI_clamp, um_nv_at, um_nv_up, um_up_eq, um_up_ne, if_true, if_false, if_pos, if_neg, um_at, um_at0, um_put, um_add]
theorem um_s_rustiest {f ph pr ps rd rh rr rs rg oa od oi om op ou : Nat → Nat} {c la : Nat} {x : Int32} (hI : um_I f c) (hT : um_D f la ph pr ps rd rh rr rs rg oa od oi om op ou) :
    ∃ r, ufX8_rustiest (nI (f 0)) (um_nv oa) (um_nv ou) x = some r ∧ ufX9_rustiest (um_nv f) x = some r := by
  obtain ⟨hPL, hAN, hHD, hRP⟩ := hT
  have h30 := fun r hr => um_I_30 (r := r) hI hr
  have hn : f 0 ≤ 12 := hI.2.1
  have hv : ∀ n a, um_fst (fun i => decide (nI (um_cnt (fun o => um_rustier (fun r => f (13 + 6 * r)) (fun r => f (14 + 6 * r)) o i) (f 0)) = x)) (fun i => (some (nI i) : Option Int32)) (some (-1011)) n a = some (um_fst (fun i => decide (nI (um_cnt (fun o => um_rustier (fun r => f (13 + 6 * r)) (fun r => f (14 + 6 * r)) o i) (f 0)) = x)) nI (-1011) n a) := by
    intro n
    induction n with
    | zero => intro a; rfl
    | succ n ih =>
      intro a
      rw [um_fst, um_fst, ih]
      split <;> rfl
  refine ⟨(um_fst (fun i => decide (nI (um_cnt (fun o => um_rustier (fun r => f (13 + 6 * r)) (fun r => f (14 + 6 * r)) o i) (f 0)) = x)) nI (-1011) (f 0) 0), ?_, ?_⟩
  rotate_left
  · exact um_v_rustiest hI
  · unfold ufX8_rustiest
    refine Eq.trans (um_loopE (fun k (s : Int32) => ulX8_rustiest_2 (nI (f 0)) (um_nv oa) (um_nv ou) x k s) (fun i => nI i) (fun i => decide (nI (um_cnt (fun o => um_rustier (fun r => f (13 + 6 * r)) (fun r => f (14 + 6 * r)) o i) (f 0)) = x)) (fun i => some (nI i)) (f 0) (by omega) ?_ ?_) (hv _ _)
    · intro i k hi
      show ulX8_rustiest_2 (nI (f 0)) (um_nv oa) (um_nv ou) x (k + 1) _ = if _ then _ else ulX8_rustiest_2 (nI (f 0)) (um_nv oa) (um_nv ou) x k _
      have e : um_cnt (fun o => um_rustier ou oa o i) (f 0) = um_cnt (fun o => um_rustier (fun r => f (13 + 6 * r)) (fun r => f (14 + 6 * r)) o i) (f 0) := um_cnt_congr (fun o ho => um_rustier_congr (hRP o (by omega)).2.2.1 (hRP i (by omega)).2.2.1 (hRP o (by omega)).2.2.2.1 (hRP i (by omega)).2.2.2.1)
      have ep := um_placeByRust (ru := ou) (oa := oa) hn (show i < 12 by omega) (fun r hr => by rw [(hRP r hr).2.2.1]; have := (h30 r hr).1; omega) (fun r hr => by rw [(hRP r hr).2.2.2.1]; have := (h30 r hr).2; omega)
      rw [ulX8_rustiest_2, ep, e]
      simp -implicitDefEqProofs (disch := omega) only [um_l0, um_l1, um_l2, um_l3, um_l4, um_l5, um_l6, um_l7, um_l8, um_l9, um_l10, um_l11, um_l12, um_l16, um_l20, um_l23, um_l24, um_l31, um_l32, um_l35, um_l42, um_l43, um_l45, um_l48, um_l57, um_l58, um_l59, um_l60, um_l61, um_l63, um_l64, um_l68, um_l83, um_l99, um_l100, um_l101, um_l102, um_l103, um_l104, um_l105, um_l106, um_l107, um_l108, um_l109, um_l110, um_l111, um_l112, um_l113, um_l114, um_l115, um_l116, um_l117, um_l118, um_l126, um_l128, um_l130, um_l131, um_l132, um_l133, um_l134, um_l135, um_l180, um_l210, um_l211, um_l235, um_l1645, um_l1880, ↓um_nm, um_b1, um_b2, um_b3, um_b4, um_b5, um_b6, um_b7, um_b8, um_b9, um_b10, um_gd, um_bz0, um_bz1, um_m1, nI_add, pk_mul, um_sub_lt0, um_sub_gt0, um_sub_eq0, um_sub_le0, pk_sub, nI_ltI, nI_leI, nI_eq, nI_clamp, um_nv_at, um_nv_up, um_up_eq, um_up_ne, if_true, if_false, if_pos, if_neg, um_at, um_at0, um_put, um_add, decide_eq_true_eq]
    · intro k
      show ulX8_rustiest_2 (nI (f 0)) (um_nv oa) (um_nv ou) x (k + 1) _ = _
      rw [ulX8_rustiest_2]
      simp -implicitDefEqProofs (disch := omega) only [um_l0, um_l1, um_l2, um_l3, um_l4, um_l5, um_l6, um_l7, um_l8, um_l9, um_l10, um_l11, um_l12, um_l16, um_l20, um_l23, um_l24, um_l31, um_l32, um_l35, um_l42, um_l43, um_l45, um_l48, um_l57, um_l58, um_l59, um_l60, um_l61, um_l63, um_l64, um_l68, um_l83, um_l99, um_l100, um_l101, um_l102, um_l103, um_l104, um_l105, um_l106, um_l107, um_l108, um_l109, um_l110, um_l111, um_l112, um_l113, um_l114, um_l115, um_l116, um_l117, um_l118, um_l126, um_l128, um_l130, um_l131, um_l132, um_l133, um_l134, um_l135, um_l180, um_l210, um_l211, um_l235, um_l1645, um_l1880, ↓um_nm, um_b1, um_b2, um_b3, um_b4, um_b5, um_b6, um_b7, um_b8, um_b9, um_b10, um_gd, um_bz0, um_bz1, um_m1, nI_add, pk_mul, um_sub_lt0, um_sub_gt0, um_sub_eq0, um_sub_le0, pk_sub, nI_ltI, nI_leI, nI_eq, nI_clamp, um_nv_at, um_nv_up, um_up_eq, um_up_ne, if_true, if_false, if_pos, if_neg, um_at, um_at0, um_put, um_add]
theorem um_u58 {nx : Int32 → Option Int32} {nx12 : Int32 → Int32 → Option Int32} {v : Nat → Int32} {x t0 : Int32} {r c i : Nat} (hr : r < 12) (hi : i < 12) : ujX9_ranked_58 nx nx12 v x (nI r) (nI c) (nI i) t0 = nx12 (nI (c + um_b2n (!decide (i = r) && (decide ((0 : Int32) < t0) || (decide (t0 = (0 : Int32)) && decide (i < r)))))) (nI (i + 1)) := um_u84 (nx := nx) (v := v) (x := x) hr hi
theorem um_rk12 {nx : Int32 → Option Int32} {f : Nat → Nat} {x : Int32} {p : Nat} (hn : f 0 ≤ 12) (hp : p < 4) (hP : ∀ r, r < f 0 → f (11 + 6 * r) < 4) (h2 : ∀ r, r < 12 → f (14 + 6 * r) ≤ 2 ^ 20) : ulX9_ranked_12 nx (um_nv f) x (nI p) ub_F (nI 0) (nI 0) = if nI (um_cnt (fun o => um_ahead (um_pa f) (fun r => f (14 + 6 * r)) (f 0) o p) 4) = x then some (nI p) else nx (nI (p + 1)) := by
  refine um_loop (fun k (s : Int32 × Int32) => ulX9_ranked_12 nx (um_nv f) x (nI p) k s.1 s.2) (fun i => (nI (um_cnt (fun o => um_ahead (um_pa f) (fun r => f (14 + 6 * r)) (f 0) o p) i), nI i)) 0 4 (by omega) (by omega) ?_ ?_
  · intro i k _ hi
    show ulX9_ranked_12 nx (um_nv f) x (nI p) (k + 1) _ _ = ulX9_ranked_12 nx (um_nv f) x (nI p) k _ _
    have es : ∀ q, q < 4 → ufX9_sum (um_nv f) (nI q) (nI 3) = some (nI (um_sum (fun r => if um_pa f r = q then f (14 + 6 * r) else 0) (f 0))) := fun q hq => by
      rw [um_sumM hn hq (by decide) hP]
      congr 2
      exact um_sum_congr (fun r _ => by
        have e3 : 11 + 6 * r + 3 = 14 + 6 * r := by omega
        rw [e3]
        rfl)
    have ew : ∀ q, q < 4 → ufX9_ropesOf (um_nv f) (nI q) (-1) = some (nI (um_cnt (fun r => decide (um_pa f r = q)) (f 0))) := fun q hq => um_ropesAll hn hq hP
    have hs : ∀ q, um_sum (fun r => if um_pa f r = q then f (14 + 6 * r) else 0) (f 0) < 2 ^ 30 := fun q => by
      have := um_sum_le (f := fun r => if um_pa f r = q then f (14 + 6 * r) else 0) (c := 2 ^ 20) (n := f 0) (fun r hr => by
        show (if um_pa f r = q then f (14 + 6 * r) else 0) ≤ 2 ^ 20
        have := h2 r (by omega)
        split <;> omega)
      omega
    have hc : ∀ q, um_cnt (fun r => decide (um_pa f r = q)) (f 0) < 2 ^ 30 := fun q => by
      have := um_cnt_le (f := fun r => decide (um_pa f r = q)) (n := f 0)
      omega
    have s1 := hs i
    have s2 := hs p
    have s3 := hc i
    have s4 := hc p
    have q1 := es i hi
    have q2 := es p hp
    have q3 := ew i hi
    have q4 := ew p hp
    have hself : i = p → um_ahead (um_pa f) (fun r => f (14 + 6 * r)) (f 0) i p = false := fun z => by
      subst z
      unfold um_ahead
      rw [if_pos rfl, if_pos rfl]
      exact decide_eq_false (Nat.lt_irrefl _)
    have hun : um_ahead (um_pa f) (fun r => f (14 + 6 * r)) (f 0) i p = if um_sum (fun r => if um_pa f r = i then f (14 + 6 * r) else 0) (f 0) = um_sum (fun r => if um_pa f r = p then f (14 + 6 * r) else 0) (f 0) then (if um_cnt (fun r => decide (um_pa f r = i)) (f 0) = um_cnt (fun r => decide (um_pa f r = p)) (f 0) then decide (i < p) else decide (um_cnt (fun r => decide (um_pa f r = p)) (f 0) < um_cnt (fun r => decide (um_pa f r = i)) (f 0))) else decide (um_sum (fun r => if um_pa f r = p then f (14 + 6 * r) else 0) (f 0) < um_sum (fun r => if um_pa f r = i then f (14 + 6 * r) else 0) (f 0)) := rfl
    rw [ulX9_ranked_12, um_cnt_s, show (3 : Int32) = nI 3 from rfl, q1, q2, q3, q4]
    generalize um_ahead (um_pa f) (fun r => f (14 + 6 * r)) (f 0) i p = B at *
    generalize um_cnt (fun o => um_ahead (um_pa f) (fun r => f (14 + 6 * r)) (f 0) o p) i = CC at *
    generalize um_sum (fun r => if um_pa f r = i then f (14 + 6 * r) else 0) (f 0) = x1 at *
    generalize um_sum (fun r => if um_pa f r = p then f (14 + 6 * r) else 0) (f 0) = x2 at *
    generalize um_cnt (fun r => decide (um_pa f r = i)) (f 0) = x3 at *
    generalize um_cnt (fun r => decide (um_pa f r = p)) (f 0) = x4 at *
    have k1 : ((0 : Int32) < nI x1 - nI x2) ↔ x2 < x1 := um_sub_gt0 s1 s2
    have k2 : (nI x1 - nI x2 = (0 : Int32)) ↔ x1 = x2 := um_sub_eq0 s1 s2
    have k3 : ((0 : Int32) < nI x3 - nI x4) ↔ x4 < x3 := um_sub_gt0 s3 s4
    have k4 : (nI x3 - nI x4 = (0 : Int32)) ↔ x3 = x4 := um_sub_eq0 s3 s4
    rw [um_b1, um_b1, um_b1, um_b1, if_neg (show ¬ (4 : Int32) ≤ nI i from nI_ge hi (by decide))]
    by_cases c1 : x1 = x2
    · rw [if_pos (k2.mpr c1), um_u58 (by omega) (by omega), decide_eq_decide.mpr k3, decide_eq_decide.mpr k4]
      by_cases c0 : i = p
      · rw [decide_eq_true c0, hself c0]
        rfl
      · rw [hun, if_pos c1, decide_eq_false c0]
        by_cases c2 : x3 = x4
        · rw [if_pos c2, decide_eq_true c2, decide_eq_false (show ¬ x4 < x3 by omega)]
          simp
        · rw [if_neg c2, decide_eq_false c2]
          simp
    · rw [if_neg (fun z => c1 (k2.mp z)), um_u58 (by omega) (by omega), show decide ((0 : Int32) < nI x1 - nI x2) = decide (x2 < x1) from decide_eq_decide.mpr k1, show decide (nI x1 - nI x2 = (0 : Int32)) = decide (x1 = x2) from decide_eq_decide.mpr k2, decide_eq_false c1]
      by_cases c0 : i = p
      · rw [decide_eq_true c0, hself c0]
        rfl
      · rw [hun, if_neg c1, decide_eq_false c0]
        simp
  · intro k
    show ulX9_ranked_12 nx (um_nv f) x (nI p) (k + 1) _ _ = _
    rw [ulX9_ranked_12]
    simp -implicitDefEqProofs (disch := omega) only [um_l0, um_l1, um_l2, um_l3, um_l4, um_l5, um_l6, um_l7, um_l8, um_l9, um_l10, um_l11, um_l12, um_l16, um_l20, um_l23, um_l24, um_l31, um_l32, um_l35, um_l42, um_l43, um_l45, um_l48, um_l57, um_l58, um_l59, um_l60, um_l61, um_l63, um_l64, um_l68, um_l83, um_l99, um_l100, um_l101, um_l102, um_l103, um_l104, um_l105, um_l106, um_l107, um_l108, um_l109, um_l110, um_l111, um_l112, um_l113, um_l114, um_l115, um_l116, um_l117, um_l118, um_l126, um_l128, um_l130, um_l131, um_l132, um_l133, um_l134, um_l135, um_l180, um_l210, um_l211, um_l235, um_l1645, um_l1880, ↓um_nm, um_b1, um_b2, um_b3, um_b4, um_b5, um_b6, um_b7, um_b8, um_b9, um_b10, um_gd, um_bz0, um_bz1, um_m1, nI_add, pk_mul, um_sub_lt0, um_sub_gt0, um_sub_eq0, um_sub_le0, pk_sub, nI_ltI, nI_leI, nI_eq, nI_clamp, um_nv_at, um_nv_up, um_up_eq, um_up_ne, if_true, if_false, if_pos, if_neg, um_at, um_at0, um_put, um_add]
theorem um_ahead_congr {P oa P' oa' : Nat → Nat} {n a b : Nat} (h1 : ∀ r, r < n → P r = P' r) (h2 : ∀ r, r < n → oa r = oa' r) : um_ahead P oa n a b = um_ahead P' oa' n a b := by
  have e1 : ∀ q, um_sum (fun r => if P r = q then oa r else 0) n = um_sum (fun r => if P' r = q then oa' r else 0) n := fun q => um_sum_congr (fun r hr => by rw [h1 r hr, h2 r hr])
  have e2 : ∀ q, um_cnt (fun r => decide (P r = q)) n = um_cnt (fun r => decide (P' r = q)) n := fun q => um_cnt_congr (fun r hr => by rw [h1 r hr])
  unfold um_ahead
  rw [e1 a, e1 b, e2 a, e2 b]
theorem um_v_ranked {f : Nat → Nat} {c : Nat} {x : Int32} (hI : um_I f c) :
    ufX9_ranked (um_nv f) x = some (um_fst (fun i => decide (nI (um_cnt (fun o => um_ahead (um_pa f) (fun r => f (14 + 6 * r)) (f 0) o i) 4) = x)) nI (-1011) 4 0) := by
  have h30 := fun r hr => um_I_30 (r := r) hI hr
  have hn : f 0 ≤ 12 := hI.2.1
  have hP : ∀ r, r < f 0 → f (11 + 6 * r) < 4 := fun r hr => (hI.2.2.2.2.2.2.2.2.2.1 r (by omega)).1
  have hv : ∀ n a, um_fst (fun i => decide (nI (um_cnt (fun o => um_ahead (um_pa f) (fun r => f (14 + 6 * r)) (f 0) o i) 4) = x)) (fun i => (some (nI i) : Option Int32)) (some (-1011)) n a = some (um_fst (fun i => decide (nI (um_cnt (fun o => um_ahead (um_pa f) (fun r => f (14 + 6 * r)) (f 0) o i) 4) = x)) nI (-1011) n a) := by
    intro n
    induction n with
    | zero => intro a; rfl
    | succ n ih =>
      intro a
      rw [um_fst, um_fst, ih]
      split <;> rfl
  unfold ufX9_ranked
  refine Eq.trans (um_loopE (fun k (s : Int32) => ulX9_ranked_2 (um_nv f) x k s) (fun i => nI i) (fun i => decide (nI (um_cnt (fun o => um_ahead (um_pa f) (fun r => f (14 + 6 * r)) (f 0) o i) 4) = x)) (fun i => some (nI i)) 4 (by omega) ?_ ?_) (hv _ _)
  · intro i k hi
    show ulX9_ranked_2 (um_nv f) x (k + 1) _ = if _ then _ else ulX9_ranked_2 (um_nv f) x k _
    rw [ulX9_ranked_2]
    simp -implicitDefEqProofs (disch := omega) only [um_l0, um_l1, um_l2, um_l3, um_l4, um_l5, um_l6, um_l7, um_l8, um_l9, um_l10, um_l11, um_l12, um_l16, um_l20, um_l23, um_l24, um_l31, um_l32, um_l35, um_l42, um_l43, um_l45, um_l48, um_l57, um_l58, um_l59, um_l60, um_l61, um_l63, um_l64, um_l68, um_l83, um_l99, um_l100, um_l101, um_l102, um_l103, um_l104, um_l105, um_l106, um_l107, um_l108, um_l109, um_l110, um_l111, um_l112, um_l113, um_l114, um_l115, um_l116, um_l117, um_l118, um_l126, um_l128, um_l130, um_l131, um_l132, um_l133, um_l134, um_l135, um_l180, um_l210, um_l211, um_l235, um_l1645, um_l1880, ↓um_nm, um_b1, um_b2, um_b3, um_b4, um_b5, um_b6, um_b7, um_b8, um_b9, um_b10, um_gd, um_bz0, um_bz1, um_m1, nI_add, pk_mul, um_sub_lt0, um_sub_gt0, um_sub_eq0, um_sub_le0, pk_sub, nI_ltI, nI_leI, nI_eq, nI_clamp, um_nv_at, um_nv_up, um_up_eq, um_up_ne, if_true, if_false, if_pos, if_neg, um_at, um_at0, um_put, um_add, um_rk12 hn hi hP (fun r hr => (h30 r hr).2), decide_eq_true_eq]
  · intro k
    show ulX9_ranked_2 (um_nv f) x (k + 1) _ = _
    rw [ulX9_ranked_2]
    simp -implicitDefEqProofs (disch := omega) only [um_l0, um_l1, um_l2, um_l3, um_l4, um_l5, um_l6, um_l7, um_l8, um_l9, um_l10, um_l11, um_l12, um_l16, um_l20, um_l23, um_l24, um_l31, um_l32, um_l35, um_l42, um_l43, um_l45, um_l48, um_l57, um_l58, um_l59, um_l60, um_l61, um_l63, um_l64, um_l68, um_l83, um_l99, um_l100, um_l101, um_l102, um_l103, um_l104, um_l105, um_l106, um_l107, um_l108, um_l109, um_l110, um_l111, um_l112, um_l113, um_l114, um_l115, um_l116, um_l117, um_l118, um_l126, um_l128, um_l130, um_l131, um_l132, um_l133, um_l134, um_l135, um_l180, um_l210, um_l211, um_l235, um_l1645, um_l1880, ↓um_nm, um_b1, um_b2, um_b3, um_b4, um_b5, um_b6, um_b7, um_b8, um_b9, um_b10, um_gd, um_bz0, um_bz1, um_m1, nI_add, pk_mul, um_sub_lt0, um_sub_gt0, um_sub_eq0, um_sub_le0, pk_sub, nI_ltI, nI_leI, nI_eq, nI_clamp, um_nv_at, um_nv_up, um_up_eq, um_up_ne, if_true, if_false, if_pos, if_neg, um_at, um_at0, um_put, um_add]
theorem um_s_ranked {f ph pr ps rd rh rr rs rg oa od oi om op ou : Nat → Nat} {c la : Nat} {x : Int32} (hI : um_I f c) (hT : um_D f la ph pr ps rd rh rr rs rg oa od oi om op ou) :
    ∃ r, ufX8_ranked (nI (f 0)) (um_nv oa) (um_nv op) x = some r ∧ ufX9_ranked (um_nv f) x = some r := by
  obtain ⟨hPL, hAN, hHD, hRP⟩ := hT
  have h30 := fun r hr => um_I_30 (r := r) hI hr
  have hn : f 0 ≤ 12 := hI.2.1
  have hP : ∀ r, r < f 0 → f (11 + 6 * r) < 4 := fun r hr => (hI.2.2.2.2.2.2.2.2.2.1 r (by omega)).1
  have hv : ∀ n a, um_fst (fun i => decide (nI (um_cnt (fun o => um_ahead (um_pa f) (fun r => f (14 + 6 * r)) (f 0) o i) 4) = x)) (fun i => (some (nI i) : Option Int32)) (some (-1011)) n a = some (um_fst (fun i => decide (nI (um_cnt (fun o => um_ahead (um_pa f) (fun r => f (14 + 6 * r)) (f 0) o i) 4) = x)) nI (-1011) n a) := by
    intro n
    induction n with
    | zero => intro a; rfl
    | succ n ih =>
      intro a
      rw [um_fst, um_fst, ih]
      split <;> rfl
  refine ⟨(um_fst (fun i => decide (nI (um_cnt (fun o => um_ahead (um_pa f) (fun r => f (14 + 6 * r)) (f 0) o i) 4) = x)) nI (-1011) 4 0), ?_, ?_⟩
  rotate_left
  · exact um_v_ranked hI
  · unfold ufX8_ranked
    refine Eq.trans (um_loopE (fun k (s : Int32) => ulX8_ranked_2 (nI (f 0)) (um_nv oa) (um_nv op) x k s) (fun i => nI i) (fun i => decide (nI (um_cnt (fun o => um_ahead (um_pa f) (fun r => f (14 + 6 * r)) (f 0) o i) 4) = x)) (fun i => some (nI i)) 4 (by omega) ?_ ?_) (hv _ _)
    · intro i k hi
      show ulX8_ranked_2 (nI (f 0)) (um_nv oa) (um_nv op) x (k + 1) _ = if _ then _ else ulX8_ranked_2 (nI (f 0)) (um_nv oa) (um_nv op) x k _
      have e : um_cnt (fun o => um_ahead op oa (f 0) o i) 4 = um_cnt (fun o => um_ahead (um_pa f) (fun r => f (14 + 6 * r)) (f 0) o i) 4 := um_cnt_congr (fun o ho => um_ahead_congr (fun r hr => (hRP r (by omega)).1) (fun r hr => (hRP r (by omega)).2.2.2.1))
      have ep := um_placeByAnswers (P := op) (oa := oa) hn hi (fun r hr => by rw [(hRP r (by omega)).1]; have := hP r hr; omega) (fun r hr => by rw [(hRP r (by omega)).2.2.2.1]; have := (h30 r (by omega)).2; omega)
      rw [ulX8_ranked_2, ep, e]
      simp -implicitDefEqProofs (disch := omega) only [um_l0, um_l1, um_l2, um_l3, um_l4, um_l5, um_l6, um_l7, um_l8, um_l9, um_l10, um_l11, um_l12, um_l16, um_l20, um_l23, um_l24, um_l31, um_l32, um_l35, um_l42, um_l43, um_l45, um_l48, um_l57, um_l58, um_l59, um_l60, um_l61, um_l63, um_l64, um_l68, um_l83, um_l99, um_l100, um_l101, um_l102, um_l103, um_l104, um_l105, um_l106, um_l107, um_l108, um_l109, um_l110, um_l111, um_l112, um_l113, um_l114, um_l115, um_l116, um_l117, um_l118, um_l126, um_l128, um_l130, um_l131, um_l132, um_l133, um_l134, um_l135, um_l180, um_l210, um_l211, um_l235, um_l1645, um_l1880, ↓um_nm, um_b1, um_b2, um_b3, um_b4, um_b5, um_b6, um_b7, um_b8, um_b9, um_b10, um_gd, um_bz0, um_bz1, um_m1, nI_add, pk_mul, um_sub_lt0, um_sub_gt0, um_sub_eq0, um_sub_le0, pk_sub, nI_ltI, nI_leI, nI_eq, nI_clamp, um_nv_at, um_nv_up, um_up_eq, um_up_ne, if_true, if_false, if_pos, if_neg, um_at, um_at0, um_put, um_add, decide_eq_true_eq]
    · intro k
      show ulX8_ranked_2 (nI (f 0)) (um_nv oa) (um_nv op) x (k + 1) _ = _
      rw [ulX8_ranked_2]
      simp -implicitDefEqProofs (disch := omega) only [um_l0, um_l1, um_l2, um_l3, um_l4, um_l5, um_l6, um_l7, um_l8, um_l9, um_l10, um_l11, um_l12, um_l16, um_l20, um_l23, um_l24, um_l31, um_l32, um_l35, um_l42, um_l43, um_l45, um_l48, um_l57, um_l58, um_l59, um_l60, um_l61, um_l63, um_l64, um_l68, um_l83, um_l99, um_l100, um_l101, um_l102, um_l103, um_l104, um_l105, um_l106, um_l107, um_l108, um_l109, um_l110, um_l111, um_l112, um_l113, um_l114, um_l115, um_l116, um_l117, um_l118, um_l126, um_l128, um_l130, um_l131, um_l132, um_l133, um_l134, um_l135, um_l180, um_l210, um_l211, um_l235, um_l1645, um_l1880, ↓um_nm, um_b1, um_b2, um_b3, um_b4, um_b5, um_b6, um_b7, um_b8, um_b9, um_b10, um_gd, um_bz0, um_bz1, um_m1, nI_add, pk_mul, um_sub_lt0, um_sub_gt0, um_sub_eq0, um_sub_le0, pk_sub, nI_ltI, nI_leI, nI_eq, nI_clamp, um_nv_at, um_nv_up, um_up_eq, um_up_ne, if_true, if_false, if_pos, if_neg, um_at, um_at0, um_put, um_add]
