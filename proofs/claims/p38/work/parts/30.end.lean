/-! ===== a day ends ===== -/
def um_ors (g : Nat → Nat) : Nat → Nat
  | 0 => 0
  | n + 1 => um_ors g n ||| g n
theorem um_ors_lt {g : Nat → Nat} {m : Nat} : ∀ {n : Nat}, (∀ i, i < n → g i < 2 ^ m) → um_ors g n < 2 ^ m
  | 0, _ => Nat.two_pow_pos m
  | n + 1, h => Nat.or_lt_two_pow (um_ors_lt (fun i hi => h i (by omega))) (h n (by omega))
theorem um_ors_congr {f g : Nat → Nat} : ∀ {n : Nat}, (∀ i, i < n → f i = g i) → um_ors f n = um_ors g n
  | 0, _ => rfl
  | n + 1, h => by rw [um_ors, um_ors, um_ors_congr (fun i hi => h i (by omega)), h n (by omega)]
def um_mis (f : Nat → Nat) : Nat → Nat → Nat
  | 0 => f
  | i + 1 => um_up (um_mis f i) (15 + 6 * f (83 + 3 * i)) (um_mis f i (15 + 6 * f (83 + 3 * i)) + 1)
theorem um_mis_out {f : Nat → Nat} {q n : Nat} (hb : ∀ k, k < n → f (83 + 3 * k) < 12) (h : ∀ r, r < 12 → q ≠ 15 + 6 * r) : ∀ i, i ≤ n → um_mis f i q = f q
  | 0, _ => rfl
  | i + 1, hi => by rw [um_mis, um_up_ne (h _ (hb i (by omega))), um_mis_out hb h i (by omega)]
theorem um_mis_at {f : Nat → Nat} {r : Nat} : ∀ i, um_mis f i (15 + 6 * r) = f (15 + 6 * r) + um_cnt (fun k => decide (f (83 + 3 * k) = r)) i
  | 0 => rfl
  | i + 1 => by
    rw [um_mis, um_cnt_s]
    by_cases h : f (83 + 3 * i) = r
    · rw [um_up_eq (by omega), h, um_mis_at i, decide_eq_true rfl, um_b2n_t]
      rfl
    · rw [um_up_ne (by omega), um_mis_at i, decide_eq_false h, um_b2n_f]
      rfl
def um_lrs (H : Nat) (g : Nat → Nat) : Nat → Nat → Nat
  | 0 => g
  | i + 1 => um_up (um_lrs H g i) (13 + 6 * i) (if H.testBit i then g (13 + 6 * i) else g (13 + 6 * i) - 1)
theorem um_lrs_out {H : Nat} {g : Nat → Nat} {q n : Nat} (h : ∀ r, r < n → q ≠ 13 + 6 * r) : ∀ i, i ≤ n → um_lrs H g i q = g q
  | 0, _ => rfl
  | i + 1, hi => by rw [um_lrs, um_up_ne (h i (by omega)), um_lrs_out h i (by omega)]
theorem um_lrs_in {H : Nat} {g : Nat → Nat} {r : Nat} : ∀ i, r < i → um_lrs H g i (13 + 6 * r) = if H.testBit r then g (13 + 6 * r) else g (13 + 6 * r) - 1
  | 0, h => absurd h (Nat.not_lt_zero _)
  | i + 1, h => by
    rw [um_lrs]
    by_cases hr : r = i
    · subst hr
      rw [um_up_eq rfl]
    · rw [um_up_ne (by omega), um_lrs_in i (by omega)]
def um_hd (f : Nat → Nat) : Nat := um_ors (fun h => f (211 + h)) 24
def um_end1 (f : Nat → Nat) : Nat → Nat := um_up (um_up (um_mix 83 131 (fun _ => 0) (um_mis f (f 1))) 1 0) 6 (f 6 + f 1)
def um_end2 (f : Nat → Nat) : Nat → Nat := um_mix 211 235 (fun _ => 0) (um_end1 f)
def um_endF (f : Nat → Nat) : Nat → Nat := um_up (um_up (um_lrs (um_hd f) (um_end2 f) (f 0)) 2 0) 3 (f 3 + 1)
theorem um_end1_at {f : Nat → Nat} {q : Nat} (hb : ∀ k, k < f 1 → f (83 + 3 * k) < 12) (h : q ≠ 1 ∧ q ≠ 6 ∧ (q < 83 ∨ 131 ≤ q) ∧ ∀ r, r < 12 → q ≠ 15 + 6 * r) : um_end1 f q = f q := by
  unfold um_end1
  rw [um_up_ne (by omega), um_up_ne (by omega), um_mix_out (by omega), um_mis_out hb h.2.2.2 _ (Nat.le_refl _)]
theorem um_end2_at {f : Nat → Nat} {q : Nat} (hb : ∀ k, k < f 1 → f (83 + 3 * k) < 12) (h : q ≠ 1 ∧ q ≠ 6 ∧ (q < 83 ∨ 131 ≤ q) ∧ q < 211 ∧ ∀ r, r < 12 → q ≠ 15 + 6 * r) : um_end2 f q = f q := by
  unfold um_end2
  rw [um_mix_out (by omega), um_end1_at hb ⟨h.1, h.2.1, h.2.2.1, h.2.2.2.2⟩]
/-- number by number -/
theorem um_end_read {f : Nat → Nat} (h0 : f 0 ≤ 12) (hb : ∀ k, k < f 1 → f (83 + 3 * k) < 12) :
    um_endF f 0 = f 0 ∧ um_endF f 1 = 0 ∧ um_endF f 2 = 0 ∧ um_endF f 3 = f 3 + 1 ∧ um_endF f 4 = f 4 ∧ um_endF f 5 = f 5 ∧ um_endF f 6 = f 6 + f 1 ∧ um_endF f 7 = f 7 ∧ um_endF f 8 = f 8 ∧ um_endF f 9 = f 9 ∧ um_endF f 10 = f 10 ∧
    (∀ r, r < 12 → um_endF f (11 + 6 * r) = f (11 + 6 * r) ∧ um_endF f (12 + 6 * r) = f (12 + 6 * r) ∧ um_endF f (13 + 6 * r) = (if r < f 0 then (if (um_hd f).testBit r then f (13 + 6 * r) else f (13 + 6 * r) - 1) else f (13 + 6 * r)) ∧
      um_endF f (14 + 6 * r) = f (14 + 6 * r) ∧ um_endF f (15 + 6 * r) = f (15 + 6 * r) + um_cnt (fun k => decide (f (83 + 3 * k) = r)) (f 1) ∧ um_endF f (16 + 6 * r) = f (16 + 6 * r)) ∧
    (∀ q, 131 ≤ q → q < 211 → um_endF f q = f q) ∧ (∀ h, h < 24 → um_endF f (211 + h) = 0) := by
  have A : ∀ q, (q ≠ 1 ∧ q ≠ 6 ∧ (q < 83 ∨ 131 ≤ q) ∧ q < 211 ∧ ∀ r, r < 12 → q ≠ 15 + 6 * r) → (q ≠ 2 ∧ q ≠ 3) → (∀ r, r < f 0 → q ≠ 13 + 6 * r) → um_endF f q = f q := fun q h1 h2 h3 => by
    unfold um_endF
    rw [um_up_ne h2.2, um_up_ne h2.1, um_lrs_out h3 _ (Nat.le_refl _), um_end2_at hb h1]
  refine ⟨?_, ?_, ?_, ?_, ?_, ?_, ?_, ?_, ?_, ?_, ?_, fun r hr => ⟨?_, ?_, ?_, ?_, ?_, ?_⟩, fun q h1 h2 => ?_, fun h hh => ?_⟩
  · exact A 0 ⟨by omega, by omega, by omega, by omega, fun r _ => by omega⟩ ⟨by omega, by omega⟩ (fun r hr => by omega)
  · unfold um_endF um_end2 um_end1
    rw [um_up_ne (by omega), um_up_ne (by omega), um_lrs_out (n := f 0) (fun r _ => by omega) _ (Nat.le_refl _), um_mix_out (by omega), um_up_ne (by omega), um_up_eq rfl]
  · unfold um_endF
    rw [um_up_ne (by omega), um_up_eq rfl]
  · unfold um_endF
    rw [um_up_eq rfl]
  · exact A 4 ⟨by omega, by omega, by omega, by omega, fun r _ => by omega⟩ ⟨by omega, by omega⟩ (fun r hr => by omega)
  · exact A 5 ⟨by omega, by omega, by omega, by omega, fun r _ => by omega⟩ ⟨by omega, by omega⟩ (fun r hr => by omega)
  · unfold um_endF um_end2 um_end1
    rw [um_up_ne (by omega), um_up_ne (by omega), um_lrs_out (n := f 0) (fun r _ => by omega) _ (Nat.le_refl _), um_mix_out (by omega), um_up_eq rfl]
  · exact A 7 ⟨by omega, by omega, by omega, by omega, fun r _ => by omega⟩ ⟨by omega, by omega⟩ (fun r hr => by omega)
  · exact A 8 ⟨by omega, by omega, by omega, by omega, fun r _ => by omega⟩ ⟨by omega, by omega⟩ (fun r hr => by omega)
  · exact A 9 ⟨by omega, by omega, by omega, by omega, fun r _ => by omega⟩ ⟨by omega, by omega⟩ (fun r hr => by omega)
  · exact A 10 ⟨by omega, by omega, by omega, by omega, fun r _ => by omega⟩ ⟨by omega, by omega⟩ (fun r hr => by omega)
  · exact A _ ⟨by omega, by omega, by omega, by omega, fun r _ => by omega⟩ ⟨by omega, by omega⟩ (fun r hr => by omega)
  · exact A _ ⟨by omega, by omega, by omega, by omega, fun r _ => by omega⟩ ⟨by omega, by omega⟩ (fun r hr => by omega)
  · by_cases hn : r < f 0
    · rw [if_pos hn]
      unfold um_endF
      rw [um_up_ne (by omega), um_up_ne (by omega), um_lrs_in _ hn, um_end2_at hb ⟨by omega, by omega, by omega, by omega, fun r _ => by omega⟩]
    · rw [if_neg hn]
      exact A _ ⟨by omega, by omega, by omega, by omega, fun r _ => by omega⟩ ⟨by omega, by omega⟩ (fun r' hr' => by omega)
  · exact A _ ⟨by omega, by omega, by omega, by omega, fun r _ => by omega⟩ ⟨by omega, by omega⟩ (fun r hr => by omega)
  · unfold um_endF um_end2 um_end1
    rw [um_up_ne (by omega), um_up_ne (by omega), um_lrs_out (n := f 0) (fun r _ => by omega) _ (Nat.le_refl _), um_mix_out (by omega), um_up_ne (by omega), um_up_ne (by omega), um_mix_out (by omega), um_mis_at]
  · exact A _ ⟨by omega, by omega, by omega, by omega, fun r _ => by omega⟩ ⟨by omega, by omega⟩ (fun r hr => by omega)
  · exact A q ⟨by omega, by omega, by omega, by omega, fun r hr => by omega⟩ ⟨by omega, by omega⟩ (fun r hr => by omega)
  · unfold um_endF um_end2
    rw [um_up_ne (by omega), um_up_ne (by omega), um_lrs_out (n := f 0) (fun r _ => by omega) _ (Nat.le_refl _), um_mix_in (by omega)]
/-! ===== the reference ends the day ===== -/
theorem um_upw {f : Nat → Nat} {k x : Nat} {b : Prop} {i : Decidable b} : um_nv (um_up f k (@ite _ b i x (f k))) = @ite _ b i (um_nv (um_up f k x)) (um_nv f) := by
  cases i with
  | isTrue h => rw [if_pos h, if_pos h]
  | isFalse h => rw [if_neg h, if_neg h, um_up_id rfl]
theorem um_end122 {g : Nat → Nat} {n H : Nat} (h0 : g 0 ≤ 12) (hH : H < 2 ^ 31) (hw : ∀ r, r < 12 → g (13 + 6 * r) ≤ 9) : ulX9_endsDay_122 (nI n) (nI H) ub_F (um_nv g) (nI 0) = some (nI n, um_nv (um_up (um_up (um_lrs H g (g 0)) 2 0) 3 (g 3 + 1))) := by
  refine um_loop (fun k (s : (Nat → Int32) × Int32) => ulX9_endsDay_122 (nI n) (nI H) k s.1 s.2) (fun i => (um_nv (um_lrs H g i), nI i)) 0 (g 0) (by omega) (by omega) ?_ ?_
  · intro i k _ hi
    show ulX9_endsDay_122 (nI n) (nI H) (k + 1) _ _ = ulX9_endsDay_122 (nI n) (nI H) k _ _
    have r0 : um_lrs H g i 0 = g 0 := um_lrs_out (n := i) (fun r _ => by omega) _ (Nat.le_refl _)
    have r1 : um_lrs H g i (13 + 6 * i) = g (13 + 6 * i) := um_lrs_out (n := i) (fun r _ => by omega) _ (Nat.le_refl _)
    have e1 : 11 + 6 * i + 2 = 13 + 6 * i := by omega
    have hwi := hw i (by omega)
    rw [ulX9_endsDay_122, um_lrs]
    cases hb : H.testBit i
    · by_cases hz : g (13 + 6 * i) = 0
      · have e2 : um_up (um_lrs H g i) (13 + 6 * i) (if false = true then g (13 + 6 * i) else g (13 + 6 * i) - 1) = um_lrs H g i := um_up_id (by rw [r1, if_neg (by decide)]; omega)
        rw [e2]
        simp -implicitDefEqProofs (disch := omega) only [um_l0, um_l1, um_l2, um_l3, um_l4, um_l5, um_l6, um_l7, um_l8, um_l9, um_l10, um_l11, um_l12, um_l16, um_l20, um_l23, um_l24, um_l31, um_l32, um_l35, um_l42, um_l43, um_l45, um_l48, um_l57, um_l58, um_l59, um_l60, um_l61, um_l63, um_l64, um_l68, um_l83, um_l99, um_l100, um_l101, um_l102, um_l103, um_l104, um_l105, um_l106, um_l107, um_l108, um_l109, um_l110, um_l111, um_l112, um_l113, um_l114, um_l115, um_l116, um_l117, um_l118, um_l126, um_l128, um_l130, um_l131, um_l132, um_l133, um_l134, um_l135, um_l180, um_l210, um_l211, um_l235, um_l1645, um_l1880, ↓um_nm, um_b1, um_b2, um_b3, um_b4, um_b5, um_b6, um_b7, um_b8, um_b9, um_b10, um_gd, um_bz0, um_bz1, um_m1, nI_add, pk_mul, um_sub_lt0, um_sub_gt0, um_sub_eq0, um_sub_le0, pk_sub, nI_ltI, nI_leI, nI_eq, nI_clamp, um_nv_at, um_nv_up, um_up_eq, um_up_ne, if_true, if_false, if_pos, if_neg, um_at, um_at0, um_put, um_add, r0, r1, e1, um_x_at, um_bit1, hb, um_b2n_f, hz]
      · simp -implicitDefEqProofs (disch := omega) only [um_l0, um_l1, um_l2, um_l3, um_l4, um_l5, um_l6, um_l7, um_l8, um_l9, um_l10, um_l11, um_l12, um_l16, um_l20, um_l23, um_l24, um_l31, um_l32, um_l35, um_l42, um_l43, um_l45, um_l48, um_l57, um_l58, um_l59, um_l60, um_l61, um_l63, um_l64, um_l68, um_l83, um_l99, um_l100, um_l101, um_l102, um_l103, um_l104, um_l105, um_l106, um_l107, um_l108, um_l109, um_l110, um_l111, um_l112, um_l113, um_l114, um_l115, um_l116, um_l117, um_l118, um_l126, um_l128, um_l130, um_l131, um_l132, um_l133, um_l134, um_l135, um_l180, um_l210, um_l211, um_l235, um_l1645, um_l1880, ↓um_nm, um_b1, um_b2, um_b3, um_b4, um_b5, um_b6, um_b7, um_b8, um_b9, um_b10, um_gd, um_bz0, um_bz1, um_m1, nI_add, pk_mul, um_sub_lt0, um_sub_gt0, um_sub_eq0, um_sub_le0, pk_sub, nI_ltI, nI_leI, nI_eq, nI_clamp, um_nv_at, um_nv_up, um_up_eq, um_up_ne, if_true, if_false, if_pos, if_neg, um_at, um_at0, um_put, um_add, r0, r1, e1, um_x_at, um_bit1, hb, um_b2n_f, Bool.false_eq_true]
    · have e2 : um_up (um_lrs H g i) (13 + 6 * i) (if true = true then g (13 + 6 * i) else g (13 + 6 * i) - 1) = um_lrs H g i := um_up_id (by rw [r1, if_pos rfl])
      rw [e2]
      simp -implicitDefEqProofs (disch := omega) only [um_l0, um_l1, um_l2, um_l3, um_l4, um_l5, um_l6, um_l7, um_l8, um_l9, um_l10, um_l11, um_l12, um_l16, um_l20, um_l23, um_l24, um_l31, um_l32, um_l35, um_l42, um_l43, um_l45, um_l48, um_l57, um_l58, um_l59, um_l60, um_l61, um_l63, um_l64, um_l68, um_l83, um_l99, um_l100, um_l101, um_l102, um_l103, um_l104, um_l105, um_l106, um_l107, um_l108, um_l109, um_l110, um_l111, um_l112, um_l113, um_l114, um_l115, um_l116, um_l117, um_l118, um_l126, um_l128, um_l130, um_l131, um_l132, um_l133, um_l134, um_l135, um_l180, um_l210, um_l211, um_l235, um_l1645, um_l1880, ↓um_nm, um_b1, um_b2, um_b3, um_b4, um_b5, um_b6, um_b7, um_b8, um_b9, um_b10, um_gd, um_bz0, um_bz1, um_m1, nI_add, pk_mul, um_sub_lt0, um_sub_gt0, um_sub_eq0, um_sub_le0, pk_sub, nI_ltI, nI_leI, nI_eq, nI_clamp, um_nv_at, um_nv_up, um_up_eq, um_up_ne, if_true, if_false, if_pos, if_neg, um_at, um_at0, um_put, um_add, r0, um_bit1, hb, um_b2n_t]
  · intro k
    show ulX9_endsDay_122 (nI n) (nI H) (k + 1) _ _ = _
    have r0 : um_lrs H g (g 0) 0 = g 0 := um_lrs_out (n := g 0) (fun r _ => by omega) _ (Nat.le_refl _)
    have r3 : um_lrs H g (g 0) 3 = g 3 := um_lrs_out (n := g 0) (fun r _ => by omega) _ (Nat.le_refl _)
    rw [ulX9_endsDay_122]
    simp -implicitDefEqProofs (disch := omega) only [um_l0, um_l1, um_l2, um_l3, um_l4, um_l5, um_l6, um_l7, um_l8, um_l9, um_l10, um_l11, um_l12, um_l16, um_l20, um_l23, um_l24, um_l31, um_l32, um_l35, um_l42, um_l43, um_l45, um_l48, um_l57, um_l58, um_l59, um_l60, um_l61, um_l63, um_l64, um_l68, um_l83, um_l99, um_l100, um_l101, um_l102, um_l103, um_l104, um_l105, um_l106, um_l107, um_l108, um_l109, um_l110, um_l111, um_l112, um_l113, um_l114, um_l115, um_l116, um_l117, um_l118, um_l126, um_l128, um_l130, um_l131, um_l132, um_l133, um_l134, um_l135, um_l180, um_l210, um_l211, um_l235, um_l1645, um_l1880, ↓um_nm, um_b1, um_b2, um_b3, um_b4, um_b5, um_b6, um_b7, um_b8, um_b9, um_b10, um_gd, um_bz0, um_bz1, um_m1, nI_add, pk_mul, um_sub_lt0, um_sub_gt0, um_sub_eq0, um_sub_le0, pk_sub, nI_ltI, nI_leI, nI_eq, nI_clamp, um_nv_at, um_nv_up, um_up_eq, um_up_ne, if_true, if_false, if_pos, if_neg, um_at, um_at0, um_put, um_add, r0, r3]
theorem um_end84 {g : Nat → Nat} {n : Nat} (h0 : g 0 ≤ 12) (hH : ∀ h, h < 24 → g (211 + h) < 2 ^ 12) (hw : ∀ r, r < 12 → g (13 + 6 * r) ≤ 9) : ulX9_endsDay_84 (nI n) ub_F (um_nv g) (nI 0) (nI 0) = some (nI n, um_nv (um_up (um_up (um_lrs (um_ors (fun h => g (211 + h)) 24) (um_mix 211 235 (fun _ => 0) g) (g 0)) 2 0) 3 (g 3 + 1))) := by
  have e := um_loop (fun k (s : (Nat → Int32) × Int32 × Int32) => ulX9_endsDay_84 (nI n) k s.1 s.2.1 s.2.2) (fun i => (um_nv (um_mix 211 (211 + i) (fun _ => 0) g), nI (um_ors (fun h => g (211 + h)) i), nI i)) (K := some (nI n, um_nv (um_up (um_up (um_lrs (um_ors (fun h => g (211 + h)) 24) (um_mix 211 235 (fun _ => 0) g) (g 0)) 2 0) 3 (g 3 + 1)))) 0 24 (by decide) (by decide) ?_ ?_
  · simp only [Nat.add_zero, um_mix_0] at e
    exact e
  · intro i k _ hi
    show ulX9_endsDay_84 (nI n) (k + 1) _ _ _ = ulX9_endsDay_84 (nI n) k _ _ _
    rw [ulX9_endsDay_84, um_ors, show 211 + (i + 1) = (211 + i) + 1 from rfl, ← um_mix_s (x := 0) (a := 211) (i := 211 + i) (g := fun _ => 0) (by omega) rfl]
    simp -implicitDefEqProofs (disch := omega) only [um_l0, um_l1, um_l2, um_l3, um_l4, um_l5, um_l6, um_l7, um_l8, um_l9, um_l10, um_l11, um_l12, um_l16, um_l20, um_l23, um_l24, um_l31, um_l32, um_l35, um_l42, um_l43, um_l45, um_l48, um_l57, um_l58, um_l59, um_l60, um_l61, um_l63, um_l64, um_l68, um_l83, um_l99, um_l100, um_l101, um_l102, um_l103, um_l104, um_l105, um_l106, um_l107, um_l108, um_l109, um_l110, um_l111, um_l112, um_l113, um_l114, um_l115, um_l116, um_l117, um_l118, um_l126, um_l128, um_l130, um_l131, um_l132, um_l133, um_l134, um_l135, um_l180, um_l210, um_l211, um_l235, um_l1645, um_l1880, ↓um_nm, um_b1, um_b2, um_b3, um_b4, um_b5, um_b6, um_b7, um_b8, um_b9, um_b10, um_gd, um_bz0, um_bz1, um_m1, nI_add, pk_mul, um_sub_lt0, um_sub_gt0, um_sub_eq0, um_sub_le0, pk_sub, nI_ltI, nI_leI, nI_eq, nI_clamp, um_nv_at, um_nv_up, um_up_eq, um_up_ne, if_true, if_false, if_pos, if_neg, um_at, um_at0, um_put, um_add, um_mix_out, um_or]
  · intro k
    show ulX9_endsDay_84 (nI n) (k + 1) _ _ _ = _
    have m0 : um_mix 211 235 (fun _ => 0) g 0 = g 0 := um_mix_out (by omega)
    have m3 : um_mix 211 235 (fun _ => 0) g 3 = g 3 := um_mix_out (by omega)
    have hO : um_ors (fun h => g (211 + h)) 24 < 2 ^ 12 := um_ors_lt hH
    have e2 := um_end122 (g := um_mix 211 235 (fun _ => 0) g) (n := n) (H := um_ors (fun h => g (211 + h)) 24) (by omega) (by omega) (fun r hr => by rw [um_mix_out (by omega)]; exact hw r hr)
    rw [m0, m3] at e2
    rw [ulX9_endsDay_84]
    simp -implicitDefEqProofs (disch := omega) only [um_l0, um_l1, um_l2, um_l3, um_l4, um_l5, um_l6, um_l7, um_l8, um_l9, um_l10, um_l11, um_l12, um_l16, um_l20, um_l23, um_l24, um_l31, um_l32, um_l35, um_l42, um_l43, um_l45, um_l48, um_l57, um_l58, um_l59, um_l60, um_l61, um_l63, um_l64, um_l68, um_l83, um_l99, um_l100, um_l101, um_l102, um_l103, um_l104, um_l105, um_l106, um_l107, um_l108, um_l109, um_l110, um_l111, um_l112, um_l113, um_l114, um_l115, um_l116, um_l117, um_l118, um_l126, um_l128, um_l130, um_l131, um_l132, um_l133, um_l134, um_l135, um_l180, um_l210, um_l211, um_l235, um_l1645, um_l1880, ↓um_nm, um_b1, um_b2, um_b3, um_b4, um_b5, um_b6, um_b7, um_b8, um_b9, um_b10, um_gd, um_bz0, um_bz1, um_m1, nI_add, pk_mul, um_sub_lt0, um_sub_gt0, um_sub_eq0, um_sub_le0, pk_sub, nI_ltI, nI_leI, nI_eq, nI_clamp, um_nv_at, um_nv_up, um_up_eq, um_up_ne, if_true, if_false, if_pos, if_neg, um_at, um_at0, um_put, um_add, Nat.reduceAdd]
    exact e2
theorem um_endsDay {f : Nat → Nat} {c : Nat} (hI : um_I f c) : ufX9_endsDay (um_nv f) = some (nI (f 1), um_nv (um_endF f)) := by
  have hset := fun h hh => um_I_set (h := h) hI hh
  obtain ⟨q0, q1, q2, q3, q4, q5, q6, q7, q8, q9, q10, q11, q12, q13, q14, q15⟩ := hI
  have hb : ∀ k, k < f 1 → f (83 + 3 * k) < 12 := fun k hk => by have := (q14 k hk).1; omega
  have g0 : um_end1 f 0 = f 0 := um_end1_at hb ⟨by omega, by omega, by omega, fun r _ => by omega⟩
  have g3 : um_end1 f 3 = f 3 := um_end1_at hb ⟨by omega, by omega, by omega, fun r _ => by omega⟩
  have gh : ∀ h, h < 24 → um_end1 f (211 + h) = f (211 + h) := fun h hh => um_end1_at hb ⟨by omega, by omega, by omega, fun r _ => by omega⟩
  have gw : ∀ r, r < 12 → um_end1 f (13 + 6 * r) = f (13 + 6 * r) := fun r hr => um_end1_at hb ⟨by omega, by omega, by omega, fun r _ => by omega⟩
  have e84 := um_end84 (g := um_end1 f) (n := f 1) (by omega) (fun h hh => by rw [gh h hh]; exact hset h hh) (fun r hr => by rw [gw r hr]; exact (q9 r hr).2.2)
  rw [um_ors_congr gh, g0, g3] at e84
  unfold ufX9_endsDay
  simp -implicitDefEqProofs (disch := omega) only [um_l0, um_l1, um_l2, um_l3, um_l4, um_l5, um_l6, um_l7, um_l8, um_l9, um_l10, um_l11, um_l12, um_l16, um_l20, um_l23, um_l24, um_l31, um_l32, um_l35, um_l42, um_l43, um_l45, um_l48, um_l57, um_l58, um_l59, um_l60, um_l61, um_l63, um_l64, um_l68, um_l83, um_l99, um_l100, um_l101, um_l102, um_l103, um_l104, um_l105, um_l106, um_l107, um_l108, um_l109, um_l110, um_l111, um_l112, um_l113, um_l114, um_l115, um_l116, um_l117, um_l118, um_l126, um_l128, um_l130, um_l131, um_l132, um_l133, um_l134, um_l135, um_l180, um_l210, um_l211, um_l235, um_l1645, um_l1880, ↓um_nm, um_b1, um_b2, um_b3, um_b4, um_b5, um_b6, um_b7, um_b8, um_b9, um_b10, um_gd, um_bz0, um_bz1, um_m1, nI_add, pk_mul, um_sub_lt0, um_sub_gt0, um_sub_eq0, um_sub_le0, pk_sub, nI_ltI, nI_leI, nI_eq, nI_clamp, um_nv_at, um_nv_up, um_up_eq, um_up_ne, if_true, if_false, if_pos, if_neg, um_at, um_at0, um_put, um_add]
  refine um_loop (fun k (s : (Nat → Int32) × Int32) => ulX9_endsDay_11 (nI (f 1)) (nI 0) k s.1 s.2) (fun i => (um_nv (um_mis f i), nI i)) 0 (f 1) (by omega) (by omega) ?_ ?_
  · intro i k _ hi
    show ulX9_endsDay_11 (nI (f 1)) (nI 0) (k + 1) _ _ = ulX9_endsDay_11 (nI (f 1)) (nI 0) k _ _
    have hbi := hb i hi
    have r1 : um_mis f i (83 + 3 * i + 0) = f (83 + 3 * i) := um_mis_out hb (fun r _ => by omega) i (by omega)
    have e1 : 11 + 6 * f (83 + 3 * i) + 4 = 15 + 6 * f (83 + 3 * i) := by omega
    rw [ulX9_endsDay_11, um_mis]
    simp -implicitDefEqProofs (disch := omega) only [um_l0, um_l1, um_l2, um_l3, um_l4, um_l5, um_l6, um_l7, um_l8, um_l9, um_l10, um_l11, um_l12, um_l16, um_l20, um_l23, um_l24, um_l31, um_l32, um_l35, um_l42, um_l43, um_l45, um_l48, um_l57, um_l58, um_l59, um_l60, um_l61, um_l63, um_l64, um_l68, um_l83, um_l99, um_l100, um_l101, um_l102, um_l103, um_l104, um_l105, um_l106, um_l107, um_l108, um_l109, um_l110, um_l111, um_l112, um_l113, um_l114, um_l115, um_l116, um_l117, um_l118, um_l126, um_l128, um_l130, um_l131, um_l132, um_l133, um_l134, um_l135, um_l180, um_l210, um_l211, um_l235, um_l1645, um_l1880, ↓um_nm, um_b1, um_b2, um_b3, um_b4, um_b5, um_b6, um_b7, um_b8, um_b9, um_b10, um_gd, um_bz0, um_bz1, um_m1, nI_add, pk_mul, um_sub_lt0, um_sub_gt0, um_sub_eq0, um_sub_le0, pk_sub, nI_ltI, nI_leI, nI_eq, nI_clamp, um_nv_at, um_nv_up, um_up_eq, um_up_ne, if_true, if_false, if_pos, if_neg, um_at, um_at0, um_put, um_add, um_pulled, r1, um_x_at, e1]
  · intro k
    show ulX9_endsDay_11 (nI (f 1)) (nI 0) (k + 1) _ _ = _
    rw [ulX9_endsDay_11]
    simp -implicitDefEqProofs (disch := omega) only [um_l0, um_l1, um_l2, um_l3, um_l4, um_l5, um_l6, um_l7, um_l8, um_l9, um_l10, um_l11, um_l12, um_l16, um_l20, um_l23, um_l24, um_l31, um_l32, um_l35, um_l42, um_l43, um_l45, um_l48, um_l57, um_l58, um_l59, um_l60, um_l61, um_l63, um_l64, um_l68, um_l83, um_l99, um_l100, um_l101, um_l102, um_l103, um_l104, um_l105, um_l106, um_l107, um_l108, um_l109, um_l110, um_l111, um_l112, um_l113, um_l114, um_l115, um_l116, um_l117, um_l118, um_l126, um_l128, um_l130, um_l131, um_l132, um_l133, um_l134, um_l135, um_l180, um_l210, um_l211, um_l235, um_l1645, um_l1880, ↓um_nm, um_b1, um_b2, um_b3, um_b4, um_b5, um_b6, um_b7, um_b8, um_b9, um_b10, um_gd, um_bz0, um_bz1, um_m1, nI_add, pk_mul, um_sub_lt0, um_sub_gt0, um_sub_eq0, um_sub_le0, pk_sub, nI_ltI, nI_leI, nI_eq, nI_clamp, um_nv_at, um_nv_up, um_up_eq, um_up_ne, if_true, if_false, if_pos, if_neg, um_at, um_at0, um_put, um_add]
    have e := um_loop (fun k (s : (Nat → Int32) × Int32) => ulX9_endsDay_44 (nI (f 1)) (nI 0) k s.1 s.2) (fun i => (um_nv (um_mix 83 i (fun _ => 0) (um_mis f (f 1))), nI i)) (K := some (nI (f 1), um_nv (um_endF f))) 83 131 (by decide) (by decide) ?_ ?_
    · simp only [um_mix_0] at e
      exact e
    · intro i k ha hi
      show ulX9_endsDay_44 (nI (f 1)) (nI 0) (k + 1) _ _ = ulX9_endsDay_44 (nI (f 1)) (nI 0) k _ _
      rw [ulX9_endsDay_44, ← um_mix_s (x := 0) (g := fun _ => 0) ha rfl]
      simp -implicitDefEqProofs (disch := omega) only [um_l0, um_l1, um_l2, um_l3, um_l4, um_l5, um_l6, um_l7, um_l8, um_l9, um_l10, um_l11, um_l12, um_l16, um_l20, um_l23, um_l24, um_l31, um_l32, um_l35, um_l42, um_l43, um_l45, um_l48, um_l57, um_l58, um_l59, um_l60, um_l61, um_l63, um_l64, um_l68, um_l83, um_l99, um_l100, um_l101, um_l102, um_l103, um_l104, um_l105, um_l106, um_l107, um_l108, um_l109, um_l110, um_l111, um_l112, um_l113, um_l114, um_l115, um_l116, um_l117, um_l118, um_l126, um_l128, um_l130, um_l131, um_l132, um_l133, um_l134, um_l135, um_l180, um_l210, um_l211, um_l235, um_l1645, um_l1880, ↓um_nm, um_b1, um_b2, um_b3, um_b4, um_b5, um_b6, um_b7, um_b8, um_b9, um_b10, um_gd, um_bz0, um_bz1, um_m1, nI_add, pk_mul, um_sub_lt0, um_sub_gt0, um_sub_eq0, um_sub_le0, pk_sub, nI_ltI, nI_leI, nI_eq, nI_clamp, um_nv_at, um_nv_up, um_up_eq, um_up_ne, if_true, if_false, if_pos, if_neg, um_at, um_at0, um_put, um_add]
    · intro k
      show ulX9_endsDay_44 (nI (f 1)) (nI 0) (k + 1) _ _ = _
      have r6 : um_mis f (f 1) 6 = f 6 := um_mis_out hb (fun r _ => by omega) _ (Nat.le_refl _)
      rw [ulX9_endsDay_44]
      simp -implicitDefEqProofs (disch := omega) only [um_l0, um_l1, um_l2, um_l3, um_l4, um_l5, um_l6, um_l7, um_l8, um_l9, um_l10, um_l11, um_l12, um_l16, um_l20, um_l23, um_l24, um_l31, um_l32, um_l35, um_l42, um_l43, um_l45, um_l48, um_l57, um_l58, um_l59, um_l60, um_l61, um_l63, um_l64, um_l68, um_l83, um_l99, um_l100, um_l101, um_l102, um_l103, um_l104, um_l105, um_l106, um_l107, um_l108, um_l109, um_l110, um_l111, um_l112, um_l113, um_l114, um_l115, um_l116, um_l117, um_l118, um_l126, um_l128, um_l130, um_l131, um_l132, um_l133, um_l134, um_l135, um_l180, um_l210, um_l211, um_l235, um_l1645, um_l1880, ↓um_nm, um_b1, um_b2, um_b3, um_b4, um_b5, um_b6, um_b7, um_b8, um_b9, um_b10, um_gd, um_bz0, um_bz1, um_m1, nI_add, pk_mul, um_sub_lt0, um_sub_gt0, um_sub_eq0, um_sub_le0, pk_sub, nI_ltI, nI_leI, nI_eq, nI_clamp, um_nv_at, um_nv_up, um_up_eq, um_up_ne, if_true, if_false, if_pos, if_neg, um_at, um_at0, um_put, um_add, um_mix_out, r6]
      exact e84
theorem um_I_end {f : Nat → Nat} {c : Nat} (hI : um_I f c) (hc : c + 1 ≤ 2 ^ 20) : um_I (um_endF f) (c + 1) := by
  obtain ⟨q0, q1, q2, q3, q4, q5, q6, q7, q8, q9, q10, q11, q12, q13, q14, q15⟩ := hI
  have hb : ∀ k, k < f 1 → f (83 + 3 * k) < 12 := fun k hk => by have := (q14 k hk).1; omega
  obtain ⟨e0, e1, e2, e3, e4, e5, e6, e7, e8, e9, e10, eR, eA, eH⟩ := um_end_read q1 hb
  have hs : um_sum (fun r => um_cnt (fun k => decide (f (83 + 3 * k) = r)) (f 1)) 12 = f 1 := by
    unfold um_cnt
    rw [um_sum_swap, um_sum_congr (g := fun _ => 1) (fun k hk => by
      have h12 := hb k hk
      have := um_sum_b (f := fun _ => 0) (g := fun r => um_b2n (decide (f (83 + 3 * k) = r))) (a := true) (k := f (83 + 3 * k)) h12 (fun i hi => by
        show um_b2n (decide (f (83 + 3 * k) = i)) = 0 + um_b2n (true && decide (i = f (83 + 3 * k)))
        rw [Bool.true_and, Nat.zero_add]
        congr 1
        exact decide_eq_decide.mpr ⟨fun h => h.symm, fun h => h.symm⟩)
      rw [this, um_sum_zero (fun _ _ => rfl)]
      rfl)]
    have : ∀ n, um_sum (fun _ => 1) n = n := fun n => by
      induction n with
      | zero => rfl
      | succ n ih => rw [um_sum, ih]
    exact this _
  refine ⟨by omega, by omega, by omega, by omega, by omega, by omega, by omega, by omega, by omega, fun r hr => ?_, fun r hr hr' => ?_, ?_, ?_, ?_, fun k hk => ?_, fun h hh => ?_⟩
  · obtain ⟨a1, a2, a3, a4, a5, a6⟩ := eR r hr
    have := q9 r hr
    refine ⟨by omega, by omega, ?_⟩
    rw [a3]
    split
    · split <;> omega
    · omega
  · obtain ⟨a1, a2, a3, a4, a5, a6⟩ := eR r hr'
    rw [e0] at hr
    rw [if_neg (by omega)] at a3
    obtain ⟨z1, z2, z3, z4, z5, z6⟩ := q10 r hr hr'
    have hc0 : um_cnt (fun k => decide (f (83 + 3 * k) = r)) (f 1) = 0 := um_sum_zero (fun k hk => by
      show um_b2n (decide (f (83 + 3 * k) = r)) = 0
      have := (q14 k hk).1
      rw [decide_eq_false (by omega)]
      rfl)
    exact ⟨by omega, by omega, by omega, by omega, by omega, by omega⟩
  · rw [e5, ← q11]
    exact um_sum_congr (fun r hr => (eR r hr).2.2.2.1)
  · rw [e6, ← q12, um_sum_congr (g := fun r => f (15 + 6 * r) + um_cnt (fun k => decide (f (83 + 3 * k) = r)) (f 1)) (fun r hr => (eR r hr).2.2.2.2.1), um_sum_add, hs]
  · rw [e7, ← q13]
    exact um_sum_congr (fun r hr => (eR r hr).2.2.2.2.2)
  · omega
  · rw [eH h hh]
    exact Nat.two_pow_pos _
/-! ===== the class ends the day ===== -/
theorem um_heardToday {rg f : Nat → Nat} (hg : um_HD f rg) (hH : ∀ h, h < 24 → f (211 + h) < 2 ^ 12) : ufX7_heardToday (um_nv rg) = some (nI (um_hd f)) := by
  unfold ufX7_heardToday
  refine um_loop (fun k (s : Int32 × Int32) => ulX7_heardToday_13 (um_nv rg) 24 k s.1 s.2) (fun i => (nI (um_ors (fun h => f (211 + h)) i), nI i)) 0 24 (by decide) (by decide) ?_ ?_
  · intro i k _ hi
    show ulX7_heardToday_13 (um_nv rg) 24 (k + 1) _ _ = ulX7_heardToday_13 (um_nv rg) 24 k _ _
    have e1 := hg i hi
    rw [ulX7_heardToday_13, um_ors]
    simp -implicitDefEqProofs (disch := omega) only [um_l0, um_l1, um_l2, um_l3, um_l4, um_l5, um_l6, um_l7, um_l8, um_l9, um_l10, um_l11, um_l12, um_l16, um_l20, um_l23, um_l24, um_l31, um_l32, um_l35, um_l42, um_l43, um_l45, um_l48, um_l57, um_l58, um_l59, um_l60, um_l61, um_l63, um_l64, um_l68, um_l83, um_l99, um_l100, um_l101, um_l102, um_l103, um_l104, um_l105, um_l106, um_l107, um_l108, um_l109, um_l110, um_l111, um_l112, um_l113, um_l114, um_l115, um_l116, um_l117, um_l118, um_l126, um_l128, um_l130, um_l131, um_l132, um_l133, um_l134, um_l135, um_l180, um_l210, um_l211, um_l235, um_l1645, um_l1880, ↓um_nm, um_b1, um_b2, um_b3, um_b4, um_b5, um_b6, um_b7, um_b8, um_b9, um_b10, um_gd, um_bz0, um_bz1, um_m1, nI_add, pk_mul, um_sub_lt0, um_sub_gt0, um_sub_eq0, um_sub_le0, pk_sub, nI_ltI, nI_leI, nI_eq, nI_clamp, um_nv_at, um_nv_up, um_up_eq, um_up_ne, if_true, if_false, if_pos, if_neg, um_at, um_at0, um_put, um_add, e1, um_or]
  · intro k
    show ulX7_heardToday_13 (um_nv rg) 24 (k + 1) _ _ = _
    rw [ulX7_heardToday_13]
    simp -implicitDefEqProofs (disch := omega) only [um_l0, um_l1, um_l2, um_l3, um_l4, um_l5, um_l6, um_l7, um_l8, um_l9, um_l10, um_l11, um_l12, um_l16, um_l20, um_l23, um_l24, um_l31, um_l32, um_l35, um_l42, um_l43, um_l45, um_l48, um_l57, um_l58, um_l59, um_l60, um_l61, um_l63, um_l64, um_l68, um_l83, um_l99, um_l100, um_l101, um_l102, um_l103, um_l104, um_l105, um_l106, um_l107, um_l108, um_l109, um_l110, um_l111, um_l112, um_l113, um_l114, um_l115, um_l116, um_l117, um_l118, um_l126, um_l128, um_l130, um_l131, um_l132, um_l133, um_l134, um_l135, um_l180, um_l210, um_l211, um_l235, um_l1645, um_l1880, ↓um_nm, um_b1, um_b2, um_b3, um_b4, um_b5, um_b6, um_b7, um_b8, um_b9, um_b10, um_gd, um_bz0, um_bz1, um_m1, nI_add, pk_mul, um_sub_lt0, um_sub_gt0, um_sub_eq0, um_sub_le0, pk_sub, nI_ltI, nI_leI, nI_eq, nI_clamp, um_nv_at, um_nv_up, um_up_eq, um_up_ne, if_true, if_false, if_pos, if_neg, um_at, um_at0, um_put, um_add]
    rfl
theorem um_endDay {f ph pr ps rd rh rr rs rg oa od oi om op ou : Nat → Nat} {c la : Nat} {x : Int32} (hI : um_I f c) (hT : um_D f la ph pr ps rd rh rr rs rg oa od oi om op ou) :
    ∃ rg' om' ou' : Nat → Nat, ufX7_endDay (nI (f 3)) x (nI (f 6)) (nI (f 1)) (um_nv pr) (um_nv rg) (nI (f 0)) (um_nv om) (um_nv ou) = some (nI (f 1), nI (um_endF f 3), 0, nI (um_endF f 6), 0, um_nv rg', um_nv om', um_nv ou') ∧ um_D (um_endF f) la ph pr ps rd rh rr rs rg' oa od oi om' op ou' := by
  have hset := fun h hh => um_I_set (h := h) hI hh
  obtain ⟨hPL, hAN, hHD, hRP⟩ := hT
  obtain ⟨q0, q1, q2, q3, q4, q5, q6, q7, q8, q9, q10, q11, q12, q13, q14, q15⟩ := hI
  have hb : ∀ k, k < f 1 → f (83 + 3 * k) < 12 := fun k hk => by have := (q14 k hk).1; omega
  obtain ⟨e0, e1, e2, e3, e4, e5, e6, e7, e8, e9, e10, eR, eA, eH⟩ := um_end_read q1 hb
  have hHd : um_hd f < 2 ^ 12 := um_ors_lt hset
  refine ⟨um_mix 0 24 (fun _ => 0) rg, fun r => om r + um_cnt (fun k => decide (f (83 + 3 * k) = r)) (f 1), um_mix 0 (f 0) (um_less (um_hd f) ou) ou, ?_, ?_, ?_, ?_, ?_⟩
  · unfold ufX7_endDay
    have e := um_loop (fun k (s : Int32 × (Nat → Int32) × Int32) => ulX7_endDay_10 (nI (f 3)) (um_nv pr) (um_nv rg) (nI (f 0)) (um_nv ou) (nI (f 1)) k s.1 s.2.1 s.2.2) (fun i => (nI (f 6 + i), um_nv (fun r => om r + um_cnt (fun k => decide (f (83 + 3 * k) = r)) i), nI i)) (K := some (nI (f 1), nI (um_endF f 3), 0, nI (um_endF f 6), 0, um_nv (um_mix 0 24 (fun _ => 0) rg), um_nv (fun r => om r + um_cnt (fun k => decide (f (83 + 3 * k) = r)) (f 1)), um_nv (um_mix 0 (f 0) (um_less (um_hd f) ou) ou))) 0 (f 1) (by omega) (by omega) ?_ ?_
    · exact e
    · intro i k _ hi
      show ulX7_endDay_10 (nI (f 3)) (um_nv pr) (um_nv rg) (nI (f 0)) (um_nv ou) (nI (f 1)) (k + 1) _ _ _ = ulX7_endDay_10 (nI (f 3)) (um_nv pr) (um_nv rg) (nI (f 0)) (um_nv ou) (nI (f 1)) k _ _ _
      have hbi := hb i hi
      have p1 := (hPL i hi).1
      have ex : um_up (fun r => om r + um_cnt (fun k => decide (f (83 + 3 * k) = r)) i) (f (83 + 3 * i)) (om (f (83 + 3 * i)) + um_cnt (fun k => decide (f (83 + 3 * k) = f (83 + 3 * i))) i + 1) = fun r => om r + um_cnt (fun k => decide (f (83 + 3 * k) = r)) (i + 1) := by
        funext r
        rw [um_cnt_s]
        by_cases hr : r = f (83 + 3 * i)
        · rw [um_up_eq hr, hr, decide_eq_true rfl, um_b2n_t]
          omega
        · rw [um_up_ne hr, decide_eq_false (fun z => hr z.symm), um_b2n_f]
          omega
      rw [ulX7_endDay_10, ← ex]
      unfold ufX7_miss
      simp -implicitDefEqProofs (disch := omega) only [um_l0, um_l1, um_l2, um_l3, um_l4, um_l5, um_l6, um_l7, um_l8, um_l9, um_l10, um_l11, um_l12, um_l16, um_l20, um_l23, um_l24, um_l31, um_l32, um_l35, um_l42, um_l43, um_l45, um_l48, um_l57, um_l58, um_l59, um_l60, um_l61, um_l63, um_l64, um_l68, um_l83, um_l99, um_l100, um_l101, um_l102, um_l103, um_l104, um_l105, um_l106, um_l107, um_l108, um_l109, um_l110, um_l111, um_l112, um_l113, um_l114, um_l115, um_l116, um_l117, um_l118, um_l126, um_l128, um_l130, um_l131, um_l132, um_l133, um_l134, um_l135, um_l180, um_l210, um_l211, um_l235, um_l1645, um_l1880, ↓um_nm, um_b1, um_b2, um_b3, um_b4, um_b5, um_b6, um_b7, um_b8, um_b9, um_b10, um_gd, um_bz0, um_bz1, um_m1, nI_add, pk_mul, um_sub_lt0, um_sub_gt0, um_sub_eq0, um_sub_le0, pk_sub, nI_ltI, nI_leI, nI_eq, nI_clamp, um_nv_at, um_nv_up, um_up_eq, um_up_ne, if_true, if_false, if_pos, if_neg, um_at, um_at0, um_put, um_add, p1, Nat.add_assoc]
    · intro k
      show ulX7_endDay_10 (nI (f 3)) (um_nv pr) (um_nv rg) (nI (f 0)) (um_nv ou) (nI (f 1)) (k + 1) _ _ _ = _
      have hw : ∀ r, r < f 0 → ou r < 2 ^ 30 := fun r hr => by
        have h1 := (hRP r (by omega)).2.2.1
        have h2 := (q9 r (by omega)).2.2
        omega
      rw [ulX7_endDay_10, um_heardToday hHD hset, e3, e6]
      simp -implicitDefEqProofs (disch := omega) only [um_l0, um_l1, um_l2, um_l3, um_l4, um_l5, um_l6, um_l7, um_l8, um_l9, um_l10, um_l11, um_l12, um_l16, um_l20, um_l23, um_l24, um_l31, um_l32, um_l35, um_l42, um_l43, um_l45, um_l48, um_l57, um_l58, um_l59, um_l60, um_l61, um_l63, um_l64, um_l68, um_l83, um_l99, um_l100, um_l101, um_l102, um_l103, um_l104, um_l105, um_l106, um_l107, um_l108, um_l109, um_l110, um_l111, um_l112, um_l113, um_l114, um_l115, um_l116, um_l117, um_l118, um_l126, um_l128, um_l130, um_l131, um_l132, um_l133, um_l134, um_l135, um_l180, um_l210, um_l211, um_l235, um_l1645, um_l1880, ↓um_nm, um_b1, um_b2, um_b3, um_b4, um_b5, um_b6, um_b7, um_b8, um_b9, um_b10, um_gd, um_bz0, um_bz1, um_m1, nI_add, pk_mul, um_sub_lt0, um_sub_gt0, um_sub_eq0, um_sub_le0, pk_sub, nI_ltI, nI_leI, nI_eq, nI_clamp, um_nv_at, um_nv_up, um_up_eq, um_up_ne, if_true, if_false, if_pos, if_neg, um_at, um_at0, um_put, um_add, um_loseRust]
      generalize (fun r => om r + um_cnt (fun k => decide (f (83 + 3 * k) = r)) (f 1)) = OM
      generalize um_mix 0 (f 0) (um_less (um_hd f) ou) ou = OU
      have e := um_loop (fun k (s : (Nat → Int32) × Int32) => ulX7_endDay_57 (nI (f 3)) (nI (f 6 + f 1)) (nI 0) (um_nv OM) (um_nv OU) (nI (f 1)) k s.1 s.2) (fun i => (um_nv (um_mix 0 i (fun _ => 0) rg), nI i)) (K := some (nI (f 1), nI (f 3 + 1), nI 0, nI (f 6 + f 1), nI 0, um_nv (um_mix 0 24 (fun _ => 0) rg), um_nv OM, um_nv OU)) 0 24 (by omega) (by omega) ?_ ?_
      · simp only [um_mix_0] at e
        exact e
      · intro i k ha hi
        show ulX7_endDay_57 (nI (f 3)) (nI (f 6 + f 1)) (nI 0) (um_nv OM) (um_nv OU) (nI (f 1)) (k + 1) _ _ = ulX7_endDay_57 (nI (f 3)) (nI (f 6 + f 1)) (nI 0) (um_nv OM) (um_nv OU) (nI (f 1)) k _ _
        rw [ulX7_endDay_57, ← um_mix_s (x := 0) (g := fun _ => 0) ha rfl]
        simp -implicitDefEqProofs (disch := omega) only [um_l0, um_l1, um_l2, um_l3, um_l4, um_l5, um_l6, um_l7, um_l8, um_l9, um_l10, um_l11, um_l12, um_l16, um_l20, um_l23, um_l24, um_l31, um_l32, um_l35, um_l42, um_l43, um_l45, um_l48, um_l57, um_l58, um_l59, um_l60, um_l61, um_l63, um_l64, um_l68, um_l83, um_l99, um_l100, um_l101, um_l102, um_l103, um_l104, um_l105, um_l106, um_l107, um_l108, um_l109, um_l110, um_l111, um_l112, um_l113, um_l114, um_l115, um_l116, um_l117, um_l118, um_l126, um_l128, um_l130, um_l131, um_l132, um_l133, um_l134, um_l135, um_l180, um_l210, um_l211, um_l235, um_l1645, um_l1880, ↓um_nm, um_b1, um_b2, um_b3, um_b4, um_b5, um_b6, um_b7, um_b8, um_b9, um_b10, um_gd, um_bz0, um_bz1, um_m1, nI_add, pk_mul, um_sub_lt0, um_sub_gt0, um_sub_eq0, um_sub_le0, pk_sub, nI_ltI, nI_leI, nI_eq, nI_clamp, um_nv_at, um_nv_up, um_up_eq, um_up_ne, if_true, if_false, if_pos, if_neg, um_at, um_at0, um_put, um_add]
      · intro k
        show ulX7_endDay_57 (nI (f 3)) (nI (f 6 + f 1)) (nI 0) (um_nv OM) (um_nv OU) (nI (f 1)) (k + 1) _ _ = _
        rw [ulX7_endDay_57]
        simp -implicitDefEqProofs (disch := omega) only [um_l0, um_l1, um_l2, um_l3, um_l4, um_l5, um_l6, um_l7, um_l8, um_l9, um_l10, um_l11, um_l12, um_l16, um_l20, um_l23, um_l24, um_l31, um_l32, um_l35, um_l42, um_l43, um_l45, um_l48, um_l57, um_l58, um_l59, um_l60, um_l61, um_l63, um_l64, um_l68, um_l83, um_l99, um_l100, um_l101, um_l102, um_l103, um_l104, um_l105, um_l106, um_l107, um_l108, um_l109, um_l110, um_l111, um_l112, um_l113, um_l114, um_l115, um_l116, um_l117, um_l118, um_l126, um_l128, um_l130, um_l131, um_l132, um_l133, um_l134, um_l135, um_l180, um_l210, um_l211, um_l235, um_l1645, um_l1880, ↓um_nm, um_b1, um_b2, um_b3, um_b4, um_b5, um_b6, um_b7, um_b8, um_b9, um_b10, um_gd, um_bz0, um_bz1, um_m1, nI_add, pk_mul, um_sub_lt0, um_sub_gt0, um_sub_eq0, um_sub_le0, pk_sub, nI_ltI, nI_leI, nI_eq, nI_clamp, um_nv_at, um_nv_up, um_up_eq, um_up_ne, if_true, if_false, if_pos, if_neg, um_at, um_at0, um_put, um_add]
  · intro k hk
    omega
  · refine ⟨hAN.1, fun k hk => ?_⟩
    rw [e9] at hk
    rw [eA _ (by omega) (by omega), eA _ (by omega) (by omega), eA _ (by omega) (by omega), eA _ (by omega) (by omega)]
    exact hAN.2 k hk
  · intro h hh
    rw [um_mix_in (by omega), eH h hh]
  · intro r hr
    obtain ⟨a1, a2, a3, a4, a5, a6⟩ := eR r hr
    obtain ⟨s1, s2, s3, s4, s5, s6⟩ := hRP r hr
    refine ⟨by omega, by omega, ?_, by omega, ?_, by omega⟩
    · rw [a3]
      by_cases hn : r < f 0
      · rw [if_pos hn, um_mix_in (by omega)]
        unfold um_less
        rw [s3]
      · rw [if_neg hn, um_mix_out (by omega), s3]
    · rw [a5]
      show om r + _ = _
      rw [s5]
