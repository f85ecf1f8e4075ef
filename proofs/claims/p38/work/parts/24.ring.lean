/-! ===== what holds of every state (c: how many changes there may have been) ===== -/
def um_I (f : Nat → Nat) (c : Nat) : Prop :=
  c ≤ 2 ^ 20 ∧ f 0 ≤ 12 ∧ f 1 ≤ 16 ∧ f 2 < 24 ∧ f 3 ≤ c ∧ f 4 ≤ c ∧ f 4 = f 1 + f 5 + f 6 + f 7 + f 8 ∧ f 10 ≤ f 5 + f 6 + f 7 ∧ f 9 ≤ 20 ∧
  (∀ r, r < 12 → f (11 + 6 * r) < 4 ∧ f (12 + 6 * r) ≤ 1 ∧ f (13 + 6 * r) ≤ 9) ∧
  (∀ r, f 0 ≤ r → r < 12 → f (11 + 6 * r) = 0 ∧ f (12 + 6 * r) = 0 ∧ f (13 + 6 * r) = 0 ∧ f (14 + 6 * r) = 0 ∧ f (15 + 6 * r) = 0 ∧ f (16 + 6 * r) = 0) ∧
  um_sum (fun r => f (14 + 6 * r)) 12 = f 5 ∧ um_sum (fun r => f (15 + 6 * r)) 12 = f 6 ∧ um_sum (fun r => f (16 + 6 * r)) 12 = f 7 ∧
  (∀ k, k < f 1 → f (83 + 3 * k) < f 0 ∧ f (84 + 3 * k) < 24 ∧ 1 ≤ f (85 + 3 * k) ∧ f (85 + 3 * k) ≤ 9) ∧
  (∀ h, h < 24 → f (211 + h) < 2 ^ (f 0))
theorem um_I_own {f : Nat → Nat} {c r : Nat} (hI : um_I f c) (hr : r < 12) : f (14 + 6 * r) ≤ f 5 ∧ f (15 + 6 * r) ≤ f 6 ∧ f (16 + 6 * r) ≤ f 7 := by
  obtain ⟨h0, h1, h2, h3, h4, h5, h6, h7, h8, h9, h10, h11, h12, h13, h14, h15⟩ := hI
  refine ⟨?_, ?_, ?_⟩
  · rw [← h11]; exact um_sum_ge (f := fun r => f (14 + 6 * r)) hr
  · rw [← h12]; exact um_sum_ge (f := fun r => f (15 + 6 * r)) hr
  · rw [← h13]; exact um_sum_ge (f := fun r => f (16 + 6 * r)) hr
theorem um_I_set {f : Nat → Nat} {c h : Nat} (hI : um_I f c) (hh : h < 24) : f (211 + h) < 4096 := by
  obtain ⟨h0, h1, h2, h3, h4, h5, h6, h7, h8, h9, h10, h11, h12, h13, h14, h15⟩ := hI
  exact um_pow12 (h15 h hh) h1
theorem um_up_id {f : Nat → Nat} {k x : Nat} (h : f k = x) : um_up f k x = f := by
  funext j
  unfold um_up
  split
  · rename_i e; rw [e, h]
  · rfl
/-! ===== the reference: a pull is rung ===== -/
theorem um_goesF_1 {f : Nat → Nat} {p : Nat} : um_goesF f p 1 = f 1 - 1 := um_up_eq rfl
theorem um_goesF_out {f : Nat → Nat} {p q : Nat} (h : q ≠ 1 ∧ (q < 83 + 3 * p ∨ 131 ≤ q)) : um_goesF f p q = f q := by
  unfold um_goesF
  rw [um_up_ne (by omega), um_mix_out (by omega)]
theorem um_goesF_in {f : Nat → Nat} {p q : Nat} (h : 83 + 3 * p ≤ q ∧ q + 3 < 131) : um_goesF f p q = f (q + 3) := by
  unfold um_goesF
  rw [um_up_ne (by omega), um_mix_in (by omega)]
  unfold um_gs
  rw [if_pos h.2]
def um_ansF (f : Nat → Nat) (r h s : Nat) : Nat → Nat :=
  um_up (um_up (um_up (um_up (um_up (um_mix 135 211 (fun q => f (q - 4))
    (um_up (um_up (um_up (um_up f (13 + 6 * r) (if 9 ≤ f (13 + 6 * r) then 9 else f (13 + 6 * r) + 1)) (14 + 6 * r) (f (14 + 6 * r) + 1)) 5 (f 5 + 1)) (211 + h) (f (211 + h) ||| 2 ^ r)))
    131 r) 132 h) 133 (f 3)) 134 s) 9 (if 20 ≤ f 9 then 20 else f 9 + 1)
theorem um_isHeard {f : Nat → Nat} {r s : Nat} (hr : r < 12) (hs : s < 2 ^ 31) (h1 : f (12 + 6 * r) < 2 ^ 31) (h2 : f (13 + 6 * r) < 2 ^ 31) : ufX9_isHeard (um_nv f) (nI r) (nI s) = some (nI (um_b2n (decide (f (12 + 6 * r) = 1) && decide (f (13 + 6 * r) < s)))) := by
  have e1 : 11 + 6 * r + 1 = 12 + 6 * r := by omega
  have e2 : 11 + 6 * r + 2 = 13 + 6 * r := by omega
  unfold ufX9_isHeard
  by_cases h : f (12 + 6 * r) = 1
  · by_cases h3 : f (13 + 6 * r) < s
    · simp -implicitDefEqProofs (disch := omega) only [um_l0, um_l1, um_l2, um_l3, um_l4, um_l5, um_l6, um_l7, um_l8, um_l9, um_l10, um_l11, um_l12, um_l16, um_l20, um_l23, um_l24, um_l31, um_l32, um_l35, um_l42, um_l43, um_l45, um_l48, um_l57, um_l58, um_l59, um_l60, um_l61, um_l63, um_l64, um_l68, um_l83, um_l99, um_l100, um_l101, um_l102, um_l103, um_l104, um_l105, um_l106, um_l107, um_l108, um_l109, um_l110, um_l111, um_l112, um_l113, um_l114, um_l115, um_l116, um_l117, um_l118, um_l126, um_l128, um_l130, um_l131, um_l132, um_l133, um_l134, um_l135, um_l180, um_l210, um_l211, um_l235, um_l1645, um_l1880, ↓um_nm, um_b1, um_b2, um_b3, um_b4, um_b5, um_b6, um_b7, um_b8, um_b9, um_b10, um_gd, um_bz0, um_bz1, um_m1, nI_add, pk_mul, um_sub_lt0, um_sub_gt0, um_sub_eq0, um_sub_le0, pk_sub, nI_ltI, nI_leI, nI_eq, nI_clamp, um_nv_at, um_nv_up, um_up_eq, um_up_ne, if_true, if_false, if_pos, if_neg, um_at, um_at0, um_put, um_add, um_x_at, e1, e2, h, decide_true, decide_eq_true h3, Bool.and_true, um_b2n_t]
    · simp -implicitDefEqProofs (disch := omega) only [um_l0, um_l1, um_l2, um_l3, um_l4, um_l5, um_l6, um_l7, um_l8, um_l9, um_l10, um_l11, um_l12, um_l16, um_l20, um_l23, um_l24, um_l31, um_l32, um_l35, um_l42, um_l43, um_l45, um_l48, um_l57, um_l58, um_l59, um_l60, um_l61, um_l63, um_l64, um_l68, um_l83, um_l99, um_l100, um_l101, um_l102, um_l103, um_l104, um_l105, um_l106, um_l107, um_l108, um_l109, um_l110, um_l111, um_l112, um_l113, um_l114, um_l115, um_l116, um_l117, um_l118, um_l126, um_l128, um_l130, um_l131, um_l132, um_l133, um_l134, um_l135, um_l180, um_l210, um_l211, um_l235, um_l1645, um_l1880, ↓um_nm, um_b1, um_b2, um_b3, um_b4, um_b5, um_b6, um_b7, um_b8, um_b9, um_b10, um_gd, um_bz0, um_bz1, um_m1, nI_add, pk_mul, um_sub_lt0, um_sub_gt0, um_sub_eq0, um_sub_le0, pk_sub, nI_ltI, nI_leI, nI_eq, nI_clamp, um_nv_at, um_nv_up, um_up_eq, um_up_ne, if_true, if_false, if_pos, if_neg, um_at, um_at0, um_put, um_add, um_x_at, e1, e2, h, decide_true, decide_eq_false h3, Bool.and_false, um_b2n_f]
  · simp -implicitDefEqProofs (disch := omega) only [um_l0, um_l1, um_l2, um_l3, um_l4, um_l5, um_l6, um_l7, um_l8, um_l9, um_l10, um_l11, um_l12, um_l16, um_l20, um_l23, um_l24, um_l31, um_l32, um_l35, um_l42, um_l43, um_l45, um_l48, um_l57, um_l58, um_l59, um_l60, um_l61, um_l63, um_l64, um_l68, um_l83, um_l99, um_l100, um_l101, um_l102, um_l103, um_l104, um_l105, um_l106, um_l107, um_l108, um_l109, um_l110, um_l111, um_l112, um_l113, um_l114, um_l115, um_l116, um_l117, um_l118, um_l126, um_l128, um_l130, um_l131, um_l132, um_l133, um_l134, um_l135, um_l180, um_l210, um_l211, um_l235, um_l1645, um_l1880, ↓um_nm, um_b1, um_b2, um_b3, um_b4, um_b5, um_b6, um_b7, um_b8, um_b9, um_b10, um_gd, um_bz0, um_bz1, um_m1, nI_add, pk_mul, um_sub_lt0, um_sub_gt0, um_sub_eq0, um_sub_le0, pk_sub, nI_ltI, nI_leI, nI_eq, nI_clamp, um_nv_at, um_nv_up, um_up_eq, um_up_ne, if_true, if_false, if_pos, if_neg, um_at, um_at0, um_put, um_add, um_x_at, e1, e2, decide_eq_false h, Bool.false_and, um_b2n_f]
theorem um_answersL {F f : Nat → Nat} {r h s : Nat} (h9 : f 9 ≤ 20) (hFf : ∀ q, q = 3 ∨ q = 9 ∨ (131 ≤ q ∧ q < 211) → F q = f q) : ulX9_answers_74 (nI r) (nI h) (nI s) ub_F (um_nv F) (nI 210) = some (um_nv (um_up (um_up (um_up (um_up (um_up (um_mix 135 211 (fun q => f (q - 4)) F) 131 r) 132 h) 133 (f 3)) 134 s) 9 (if 20 ≤ f 9 then 20 else f 9 + 1))) := by
  have e := um_loop (fun k (s_1 : (Nat → Int32) × Int32) => ulX9_answers_74 (nI r) (nI h) (nI s) k s_1.1 s_1.2) (fun i => (um_nv (um_mix (211 - i) 211 (fun q => f (q - 4)) F), nI (210 - i))) (K := some (um_nv (um_up (um_up (um_up (um_up (um_up (um_mix 135 211 (fun q => f (q - 4)) F) 131 r) 132 h) 133 (f 3)) 134 s) 9 (if 20 ≤ f 9 then 20 else f 9 + 1)))) 0 76 (by decide) (by decide) ?_ ?_
  · simp only [Nat.sub_zero, um_mix_0] at e
    exact e
  · intro i k _ hi
    show ulX9_answers_74 (nI r) (nI h) (nI s) (k + 1) _ _ = ulX9_answers_74 (nI r) (nI h) (nI s) k _ _
    have i1 : 210 - i - 1 = 210 - (i + 1) := by omega
    have i2 : 211 - (i + 1) = 210 - i := by omega
    have i3 : 211 - i = 210 - i + 1 := by omega
    have i4 : F (210 - i - 4) = f (210 - i - 4) := hFf _ (by omega)
    rw [ulX9_answers_74, i2, ← um_mix_d (x := f (210 - i - 4)) (show 210 - i < 211 by omega) rfl, i3]
    simp -implicitDefEqProofs (disch := omega) only [um_l0, um_l1, um_l2, um_l3, um_l4, um_l5, um_l6, um_l7, um_l8, um_l9, um_l10, um_l11, um_l12, um_l16, um_l20, um_l23, um_l24, um_l31, um_l32, um_l35, um_l42, um_l43, um_l45, um_l48, um_l57, um_l58, um_l59, um_l60, um_l61, um_l63, um_l64, um_l68, um_l83, um_l99, um_l100, um_l101, um_l102, um_l103, um_l104, um_l105, um_l106, um_l107, um_l108, um_l109, um_l110, um_l111, um_l112, um_l113, um_l114, um_l115, um_l116, um_l117, um_l118, um_l126, um_l128, um_l130, um_l131, um_l132, um_l133, um_l134, um_l135, um_l180, um_l210, um_l211, um_l235, um_l1645, um_l1880, ↓um_nm, um_b1, um_b2, um_b3, um_b4, um_b5, um_b6, um_b7, um_b8, um_b9, um_b10, um_gd, um_bz0, um_bz1, um_m1, nI_add, pk_mul, um_sub_lt0, um_sub_gt0, um_sub_eq0, um_sub_le0, pk_sub, nI_ltI, nI_leI, nI_eq, nI_clamp, um_nv_at, um_nv_up, um_up_eq, um_up_ne, if_true, if_false, if_pos, if_neg, um_at, um_at0, um_put, um_add, um_mix_out, i4, i1]
  · intro k
    show ulX9_answers_74 (nI r) (nI h) (nI s) (k + 1) _ _ = _
    rw [ulX9_answers_74]
    have m0 : 211 - 76 = 135 := by omega
    have m3 : 210 - 76 = 134 := by omega
    rw [m0, m3]
    have m1 : (um_mix 135 211 (fun q => f (q - 4)) F) 3 = f 3 := by rw [um_mix_out (by omega)]; exact hFf 3 (by omega)
    have m2 : (um_mix 135 211 (fun q => f (q - 4)) F) 9 = f 9 := by rw [um_mix_out (by omega)]; exact hFf 9 (by omega)
    by_cases h20 : 20 ≤ f 9
    · simp -implicitDefEqProofs (disch := omega) only [um_l0, um_l1, um_l2, um_l3, um_l4, um_l5, um_l6, um_l7, um_l8, um_l9, um_l10, um_l11, um_l12, um_l16, um_l20, um_l23, um_l24, um_l31, um_l32, um_l35, um_l42, um_l43, um_l45, um_l48, um_l57, um_l58, um_l59, um_l60, um_l61, um_l63, um_l64, um_l68, um_l83, um_l99, um_l100, um_l101, um_l102, um_l103, um_l104, um_l105, um_l106, um_l107, um_l108, um_l109, um_l110, um_l111, um_l112, um_l113, um_l114, um_l115, um_l116, um_l117, um_l118, um_l126, um_l128, um_l130, um_l131, um_l132, um_l133, um_l134, um_l135, um_l180, um_l210, um_l211, um_l235, um_l1645, um_l1880, ↓um_nm, um_b1, um_b2, um_b3, um_b4, um_b5, um_b6, um_b7, um_b8, um_b9, um_b10, um_gd, um_bz0, um_bz1, um_m1, nI_add, pk_mul, um_sub_lt0, um_sub_gt0, um_sub_eq0, um_sub_le0, pk_sub, nI_ltI, nI_leI, nI_eq, nI_clamp, um_nv_at, um_nv_up, um_up_eq, um_up_ne, if_true, if_false, if_pos, if_neg, um_at, um_at0, um_put, um_add, ujX9_answers_177, m1, m2]
    · simp -implicitDefEqProofs (disch := omega) only [um_l0, um_l1, um_l2, um_l3, um_l4, um_l5, um_l6, um_l7, um_l8, um_l9, um_l10, um_l11, um_l12, um_l16, um_l20, um_l23, um_l24, um_l31, um_l32, um_l35, um_l42, um_l43, um_l45, um_l48, um_l57, um_l58, um_l59, um_l60, um_l61, um_l63, um_l64, um_l68, um_l83, um_l99, um_l100, um_l101, um_l102, um_l103, um_l104, um_l105, um_l106, um_l107, um_l108, um_l109, um_l110, um_l111, um_l112, um_l113, um_l114, um_l115, um_l116, um_l117, um_l118, um_l126, um_l128, um_l130, um_l131, um_l132, um_l133, um_l134, um_l135, um_l180, um_l210, um_l211, um_l235, um_l1645, um_l1880, ↓um_nm, um_b1, um_b2, um_b3, um_b4, um_b5, um_b6, um_b7, um_b8, um_b9, um_b10, um_gd, um_bz0, um_bz1, um_m1, nI_add, pk_mul, um_sub_lt0, um_sub_gt0, um_sub_eq0, um_sub_le0, pk_sub, nI_ltI, nI_leI, nI_eq, nI_clamp, um_nv_at, um_nv_up, um_up_eq, um_up_ne, if_true, if_false, if_pos, if_neg, um_at, um_at0, um_put, um_add, ujX9_answers_177, m1, m2]
theorem um_answers29 {f g : Nat → Nat} {r h s : Nat} (hr : r < 12) (hh : h < 24) (hs : s < 2 ^ 31) (h9 : f 9 ≤ 20) (hg : g = um_up f (13 + 6 * r) (if 9 ≤ f (13 + 6 * r) then 9 else f (13 + 6 * r) + 1)) : ujX9_answers_29 (um_nv g) (nI r) (nI h) (nI s) = some (um_nv (um_ansF f r h s)) := by
  have e1 : 11 + 6 * r + 3 = 14 + 6 * r := by omega
  have g1 : g (14 + 6 * r) = f (14 + 6 * r) := by rw [hg]; exact um_up_ne (by omega)
  have g2 : g 5 = f 5 := by rw [hg]; exact um_up_ne (by omega)
  have g3 : g (211 + h) = f (211 + h) := by rw [hg]; exact um_up_ne (by omega)
  unfold ujX9_answers_29
  simp -implicitDefEqProofs (disch := omega) only [um_l0, um_l1, um_l2, um_l3, um_l4, um_l5, um_l6, um_l7, um_l8, um_l9, um_l10, um_l11, um_l12, um_l16, um_l20, um_l23, um_l24, um_l31, um_l32, um_l35, um_l42, um_l43, um_l45, um_l48, um_l57, um_l58, um_l59, um_l60, um_l61, um_l63, um_l64, um_l68, um_l83, um_l99, um_l100, um_l101, um_l102, um_l103, um_l104, um_l105, um_l106, um_l107, um_l108, um_l109, um_l110, um_l111, um_l112, um_l113, um_l114, um_l115, um_l116, um_l117, um_l118, um_l126, um_l128, um_l130, um_l131, um_l132, um_l133, um_l134, um_l135, um_l180, um_l210, um_l211, um_l235, um_l1645, um_l1880, ↓um_nm, um_b1, um_b2, um_b3, um_b4, um_b5, um_b6, um_b7, um_b8, um_b9, um_b10, um_gd, um_bz0, um_bz1, um_m1, nI_add, pk_mul, um_sub_lt0, um_sub_gt0, um_sub_eq0, um_sub_le0, pk_sub, nI_ltI, nI_leI, nI_eq, nI_clamp, um_nv_at, um_nv_up, um_up_eq, um_up_ne, if_true, if_false, if_pos, if_neg, um_at, um_at0, um_put, um_add, um_x_at, e1, um_shl, um_or, g1, g2, g3]
  rw [um_answersL h9 (fun q hq => by
    rw [hg, um_up_ne (by omega), um_up_ne (by omega), um_up_ne (by omega), um_up_ne (by omega)]), hg]
  rfl
theorem um_answers {f : Nat → Nat} {r h s : Nat} (hr : r < 12) (hh : h < 24) (hs : s < 2 ^ 31) (h9 : f 9 ≤ 20) (hw : f (13 + 6 * r) ≤ 9) : ufX9_answers (um_nv f) (nI r) (nI h) (nI s) = some (um_nv (um_ansF f r h s)) := by
  have e1 : 11 + 6 * r + 2 = 13 + 6 * r := by omega
  unfold ufX9_answers
  by_cases h1 : 9 ≤ f (13 + 6 * r)
  · have h2 : f (13 + 6 * r) = 9 := by omega
    simp -implicitDefEqProofs (disch := omega) only [um_l0, um_l1, um_l2, um_l3, um_l4, um_l5, um_l6, um_l7, um_l8, um_l9, um_l10, um_l11, um_l12, um_l16, um_l20, um_l23, um_l24, um_l31, um_l32, um_l35, um_l42, um_l43, um_l45, um_l48, um_l57, um_l58, um_l59, um_l60, um_l61, um_l63, um_l64, um_l68, um_l83, um_l99, um_l100, um_l101, um_l102, um_l103, um_l104, um_l105, um_l106, um_l107, um_l108, um_l109, um_l110, um_l111, um_l112, um_l113, um_l114, um_l115, um_l116, um_l117, um_l118, um_l126, um_l128, um_l130, um_l131, um_l132, um_l133, um_l134, um_l135, um_l180, um_l210, um_l211, um_l235, um_l1645, um_l1880, ↓um_nm, um_b1, um_b2, um_b3, um_b4, um_b5, um_b6, um_b7, um_b8, um_b9, um_b10, um_gd, um_bz0, um_bz1, um_m1, nI_add, pk_mul, um_sub_lt0, um_sub_gt0, um_sub_eq0, um_sub_le0, pk_sub, nI_ltI, nI_leI, nI_eq, nI_clamp, um_nv_at, um_nv_up, um_up_eq, um_up_ne, if_true, if_false, if_pos, if_neg, um_at, um_at0, um_put, um_add, um_x_at, e1, h2, Nat.le_refl, if_true]
    exact um_answers29 hr hh hs h9 (by rw [if_pos h1, um_up_id h2])
  · simp -implicitDefEqProofs (disch := omega) only [um_l0, um_l1, um_l2, um_l3, um_l4, um_l5, um_l6, um_l7, um_l8, um_l9, um_l10, um_l11, um_l12, um_l16, um_l20, um_l23, um_l24, um_l31, um_l32, um_l35, um_l42, um_l43, um_l45, um_l48, um_l57, um_l58, um_l59, um_l60, um_l61, um_l63, um_l64, um_l68, um_l83, um_l99, um_l100, um_l101, um_l102, um_l103, um_l104, um_l105, um_l106, um_l107, um_l108, um_l109, um_l110, um_l111, um_l112, um_l113, um_l114, um_l115, um_l116, um_l117, um_l118, um_l126, um_l128, um_l130, um_l131, um_l132, um_l133, um_l134, um_l135, um_l180, um_l210, um_l211, um_l235, um_l1645, um_l1880, ↓um_nm, um_b1, um_b2, um_b3, um_b4, um_b5, um_b6, um_b7, um_b8, um_b9, um_b10, um_gd, um_bz0, um_bz1, um_m1, nI_add, pk_mul, um_sub_lt0, um_sub_gt0, um_sub_eq0, um_sub_le0, pk_sub, nI_ltI, nI_leI, nI_eq, nI_clamp, um_nv_at, um_nv_up, um_up_eq, um_up_ne, if_true, if_false, if_pos, if_neg, um_at, um_at0, um_put, um_add, um_x_at, e1]
    exact um_answers29 hr hh hs h9 (by rw [if_neg h1])
def um_ring2 (f : Nat → Nat) : Nat → Nat := um_up (um_up (um_goesF f 0) 2 (f 84)) 10 (f 10 + 1)
theorem um_ring2_at {f : Nat → Nat} {q : Nat} (h : q ≠ 1 ∧ q ≠ 2 ∧ q ≠ 10 ∧ (q < 83 ∨ 131 ≤ q)) : um_ring2 f q = f q := by
  unfold um_ring2 um_goesF
  rw [um_up_ne (by omega), um_up_ne (by omega), um_up_ne (by omega), um_mix_out (by omega)]
/-- what a ring answers: 2 a double, 1 an answer, 0 a miss -/
def um_ringR (f : Nat → Nat) : Nat := if (f (211 + f 84)).testBit (f 83) then 2 else if f (12 + 6 * f 83) = 1 ∧ f (13 + 6 * f 83) < f 85 then 1 else 0
def um_ringF (f : Nat → Nat) : Nat → Nat :=
  if (f (211 + f 84)).testBit (f 83) then um_up (um_up (um_ring2 f) (16 + 6 * f 83) (f (16 + 6 * f 83) + 1)) 7 (f 7 + 1)
  else if f (12 + 6 * f 83) = 1 ∧ f (13 + 6 * f 83) < f 85 then um_ansF (um_ring2 f) (f 83) (f 84) (f 85)
  else um_up (um_up (um_ring2 f) (15 + 6 * f 83) (f (15 + 6 * f 83) + 1)) 6 (f 6 + 1)
theorem um_ringsNext {f : Nat → Nat} {c : Nat} (hI : um_I f c) (h1 : 0 < f 1) : ufX9_ringsNext (um_nv f) = some (nI (um_ringR f), um_nv (um_ringF f)) := by
  have hset := fun h hh => um_I_set (h := h) hI hh
  obtain ⟨q0, q1, q2, q3, q4, q5, q6, q7, q8, q9, q10, q11, q12, q13, q14, q15⟩ := hI
  obtain ⟨p1, p2, p3, p4⟩ := q14 0 h1
  have p1 : f 83 < f 0 := p1
  have p2 : f 84 < 24 := p2
  have p4 : f 85 ≤ 9 := p4
  have hs := hset (f 84) p2
  have hr := q9 (f 83) (by omega)
  have a0 : ∀ q, 83 + 3 * 0 + q = 83 + q := fun q => by omega
  have e4 : 11 + 6 * f 83 + 4 = 15 + 6 * f 83 := by omega
  have e5 : 11 + 6 * f 83 + 5 = 16 + 6 * f 83 := by omega
  have t1 : um_ring2 f (211 + f 84) = f (211 + f 84) := um_ring2_at (by omega)
  have t2 : um_ring2 f (16 + 6 * f 83) = f (16 + 6 * f 83) := um_ring2_at (by omega)
  have t3 : um_ring2 f (15 + 6 * f 83) = f (15 + 6 * f 83) := um_ring2_at (by omega)
  have t4 : um_ring2 f 7 = f 7 := um_ring2_at (by omega)
  have t5 : um_ring2 f 6 = f 6 := um_ring2_at (by omega)
  have t6 : um_ring2 f (12 + 6 * f 83) = f (12 + 6 * f 83) := um_ring2_at (by omega)
  have t7 : um_ring2 f (13 + 6 * f 83) = f (13 + 6 * f 83) := um_ring2_at (by omega)
  have t8 : um_ring2 f 9 = f 9 := um_ring2_at (by omega)
  have g1 : um_goesF f 0 2 = f 2 := by unfold um_goesF; rw [um_up_ne (by omega), um_mix_out (by omega)]
  have g2 : um_goesF f 0 10 = f 10 := by unfold um_goesF; rw [um_up_ne (by omega), um_mix_out (by omega)]
  unfold ufX9_ringsNext
  simp -implicitDefEqProofs (disch := omega) only [um_l0, um_l1, um_l2, um_l3, um_l4, um_l5, um_l6, um_l7, um_l8, um_l9, um_l10, um_l11, um_l12, um_l16, um_l20, um_l23, um_l24, um_l31, um_l32, um_l35, um_l42, um_l43, um_l45, um_l48, um_l57, um_l58, um_l59, um_l60, um_l61, um_l63, um_l64, um_l68, um_l83, um_l99, um_l100, um_l101, um_l102, um_l103, um_l104, um_l105, um_l106, um_l107, um_l108, um_l109, um_l110, um_l111, um_l112, um_l113, um_l114, um_l115, um_l116, um_l117, um_l118, um_l126, um_l128, um_l130, um_l131, um_l132, um_l133, um_l134, um_l135, um_l180, um_l210, um_l211, um_l235, um_l1645, um_l1880, ↓um_nm, um_b1, um_b2, um_b3, um_b4, um_b5, um_b6, um_b7, um_b8, um_b9, um_b10, um_gd, um_bz0, um_bz1, um_m1, nI_add, pk_mul, um_sub_lt0, um_sub_gt0, um_sub_eq0, um_sub_le0, pk_sub, nI_ltI, nI_leI, nI_eq, nI_clamp, um_nv_at, um_nv_up, um_up_eq, um_up_ne, if_true, if_false, if_pos, if_neg, um_at, um_at0, um_put, um_add, um_pulled, um_goes, a0, Nat.add_zero, um_goesF_out, Nat.reduceAdd, Nat.reduceMul, um_bit1, um_x_at, e4, e5]
  have k2 : um_up (um_up (um_goesF f 0) 2 (f 84)) 10 (f 10 + 1) = um_ring2 f := rfl
  rw [k2]
  unfold um_ringR um_ringF
  cases hb : (f (211 + f 84)).testBit (f 83)
  · rw [um_isHeard (by omega) (by omega) (by rw [t6]; omega) (by rw [t7]; omega), t6, t7]
    by_cases hq : f (12 + 6 * f 83) = 1 ∧ f (13 + 6 * f 83) < f 85
    · rw [if_pos hq, if_pos hq, decide_eq_true hq.1, decide_eq_true hq.2, um_answers (by omega) (by omega) (by omega) (by rw [t8]; omega) (by rw [t7]; omega)]
      simp -implicitDefEqProofs (disch := omega) only [um_l0, um_l1, um_l2, um_l3, um_l4, um_l5, um_l6, um_l7, um_l8, um_l9, um_l10, um_l11, um_l12, um_l16, um_l20, um_l23, um_l24, um_l31, um_l32, um_l35, um_l42, um_l43, um_l45, um_l48, um_l57, um_l58, um_l59, um_l60, um_l61, um_l63, um_l64, um_l68, um_l83, um_l99, um_l100, um_l101, um_l102, um_l103, um_l104, um_l105, um_l106, um_l107, um_l108, um_l109, um_l110, um_l111, um_l112, um_l113, um_l114, um_l115, um_l116, um_l117, um_l118, um_l126, um_l128, um_l130, um_l131, um_l132, um_l133, um_l134, um_l135, um_l180, um_l210, um_l211, um_l235, um_l1645, um_l1880, ↓um_nm, um_b1, um_b2, um_b3, um_b4, um_b5, um_b6, um_b7, um_b8, um_b9, um_b10, um_gd, um_bz0, um_bz1, um_m1, nI_add, pk_mul, um_sub_lt0, um_sub_gt0, um_sub_eq0, um_sub_le0, pk_sub, nI_ltI, nI_leI, nI_eq, nI_clamp, um_nv_at, um_nv_up, um_up_eq, um_up_ne, if_true, if_false, if_pos, if_neg, um_at, um_at0, um_put, um_add, um_b2n_f, um_b2n_t, Bool.and_true, Bool.false_eq_true, if_false]
    · have hz : (decide (f (12 + 6 * f 83) = 1) && decide (f (13 + 6 * f 83) < f 85)) = false := by
        rw [← Bool.decide_and]
        exact decide_eq_false hq
      rw [if_neg hq, if_neg hq, hz]
      simp -implicitDefEqProofs (disch := omega) only [um_l0, um_l1, um_l2, um_l3, um_l4, um_l5, um_l6, um_l7, um_l8, um_l9, um_l10, um_l11, um_l12, um_l16, um_l20, um_l23, um_l24, um_l31, um_l32, um_l35, um_l42, um_l43, um_l45, um_l48, um_l57, um_l58, um_l59, um_l60, um_l61, um_l63, um_l64, um_l68, um_l83, um_l99, um_l100, um_l101, um_l102, um_l103, um_l104, um_l105, um_l106, um_l107, um_l108, um_l109, um_l110, um_l111, um_l112, um_l113, um_l114, um_l115, um_l116, um_l117, um_l118, um_l126, um_l128, um_l130, um_l131, um_l132, um_l133, um_l134, um_l135, um_l180, um_l210, um_l211, um_l235, um_l1645, um_l1880, ↓um_nm, um_b1, um_b2, um_b3, um_b4, um_b5, um_b6, um_b7, um_b8, um_b9, um_b10, um_gd, um_bz0, um_bz1, um_m1, nI_add, pk_mul, um_sub_lt0, um_sub_gt0, um_sub_eq0, um_sub_le0, pk_sub, nI_ltI, nI_leI, nI_eq, nI_clamp, um_nv_at, um_nv_up, um_up_eq, um_up_ne, if_true, if_false, if_pos, if_neg, um_at, um_at0, um_put, um_add, um_b2n_f, Bool.false_eq_true, if_false, t3, t5]
  · simp -implicitDefEqProofs (disch := omega) only [um_l0, um_l1, um_l2, um_l3, um_l4, um_l5, um_l6, um_l7, um_l8, um_l9, um_l10, um_l11, um_l12, um_l16, um_l20, um_l23, um_l24, um_l31, um_l32, um_l35, um_l42, um_l43, um_l45, um_l48, um_l57, um_l58, um_l59, um_l60, um_l61, um_l63, um_l64, um_l68, um_l83, um_l99, um_l100, um_l101, um_l102, um_l103, um_l104, um_l105, um_l106, um_l107, um_l108, um_l109, um_l110, um_l111, um_l112, um_l113, um_l114, um_l115, um_l116, um_l117, um_l118, um_l126, um_l128, um_l130, um_l131, um_l132, um_l133, um_l134, um_l135, um_l180, um_l210, um_l211, um_l235, um_l1645, um_l1880, ↓um_nm, um_b1, um_b2, um_b3, um_b4, um_b5, um_b6, um_b7, um_b8, um_b9, um_b10, um_gd, um_bz0, um_bz1, um_m1, nI_add, pk_mul, um_sub_lt0, um_sub_gt0, um_sub_eq0, um_sub_le0, pk_sub, nI_ltI, nI_leI, nI_eq, nI_clamp, um_nv_at, um_nv_up, um_up_eq, um_up_ne, if_true, if_false, if_pos, if_neg, um_at, um_at0, um_put, um_add, um_b2n_t, if_true, t2, t4]
