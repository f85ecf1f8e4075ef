/-! ===== pulls as a list; those of a rope are taken away ===== -/
def um_tr (f : Nat → Nat) (k : Nat) : Nat × Nat × Nat := (f (83 + 3 * k), f (84 + 3 * k), f (85 + 3 * k))
def um_lst (f : Nat → Nat) : List (Nat × Nat × Nat) := (List.range (f 1)).map (um_tr f)
theorem um_lst_len {f : Nat → Nat} : (um_lst f).length = f 1 := by unfold um_lst; simp
theorem um_lst_at {f : Nat → Nat} {k : Nat} (h : k < f 1) : (um_lst f)[k]? = some (um_tr f k) := by
  unfold um_lst
  rw [List.getElem?_map, List.getElem?_range h]
  rfl
theorem um_goes_tr {f : Nat → Nat} {p k : Nat} (hk : k + 1 < 16) : um_tr (um_goesF f p) k = if k < p then um_tr f k else um_tr f (k + 1) := by
  unfold um_tr
  by_cases h : k < p
  · rw [if_pos h, um_goesF_out (by omega), um_goesF_out (by omega), um_goesF_out (by omega)]
  · rw [if_neg h, um_goesF_in (by omega), um_goesF_in (by omega), um_goesF_in (by omega), show 83 + 3 * k + 3 = 83 + 3 * (k + 1) by omega, show 84 + 3 * k + 3 = 84 + 3 * (k + 1) by omega, show 85 + 3 * k + 3 = 85 + 3 * (k + 1) by omega]
theorem um_goes_lst {f : Nat → Nat} {p : Nat} (hp : p < f 1) (h1 : f 1 ≤ 16) : um_lst (um_goesF f p) = (um_lst f).eraseIdx p := by
  apply List.ext_getElem?
  intro k
  rw [List.getElem?_eraseIdx]
  have e1 : um_goesF f p 1 = f 1 - 1 := um_goesF_1
  by_cases hk : k < f 1 - 1
  · rw [um_lst_at (by omega), um_goes_tr (by omega)]
    split
    · rw [um_lst_at (by omega)]
    · rw [um_lst_at (by omega)]
  · rw [List.getElem?_eq_none (by rw [um_lst_len]; omega)]
    split
    · omega
    · rw [List.getElem?_eq_none (by rw [um_lst_len]; omega)]
def um_can (r : Nat) : Nat → (Nat → Nat) → (Nat → Nat)
  | 0, g => g
  | k + 1, g => um_can r k (if g (83 + 3 * k) = r then um_goesF g k else g)
def um_keep (r : Nat) (t : Nat × Nat × Nat) : Bool := !decide (t.1 = r)
theorem um_can_lst {r : Nat} : ∀ (k : Nat) (g : Nat → Nat), k ≤ g 1 → g 1 ≤ 16 → um_lst (um_can r k g) = ((um_lst g).take k).filter (um_keep r) ++ (um_lst g).drop k ∧ (∀ q, q ≠ 1 → (q < 83 ∨ 131 ≤ q) → um_can r k g q = g q) ∧ um_can r k g 1 ≤ g 1
  | 0, g, _, _ => ⟨by simp [um_can], fun _ _ _ => rfl, Nat.le_refl _⟩
  | k + 1, g, hk, h16 => by
    have hat := um_lst_at (f := g) (k := k) (by omega)
    have hlt : k < (um_lst g).length := by rw [um_lst_len]; omega
    have hget : (um_lst g)[k] = um_tr g k := by
      have := List.getElem?_eq_getElem hlt
      rw [hat] at this
      exact (Option.some.inj this).symm
    have htake : (um_lst g).take (k + 1) = (um_lst g).take k ++ [um_tr g k] := by
      rw [List.take_succ, hat]
      rfl
    have hdrop : (um_lst g).drop k = um_tr g k :: (um_lst g).drop (k + 1) := by
      rw [← hget]
      exact List.drop_eq_getElem_cons hlt
    rw [um_can]
    by_cases h : g (83 + 3 * k) = r
    · rw [if_pos h]
      have e1 : um_goesF g k 1 = g 1 - 1 := um_goesF_1
      obtain ⟨i1, i2, i3⟩ := um_can_lst (r := r) k (um_goesF g k) (by omega) (by omega)
      refine ⟨?_, fun q h1 h2 => ?_, by omega⟩
      · rw [i1, um_goes_lst (by omega) h16, htake, List.filter_append]
        have hk0 : um_keep r (um_tr g k) = false := by
          unfold um_keep um_tr
          simp [h]
        rw [List.eraseIdx_eq_take_drop_succ]
        have ht : ((um_lst g).take k).length = k := by rw [List.length_take]; omega
        rw [List.take_append_of_le_length (by omega), List.take_of_length_le (by omega), List.drop_append_of_le_length (by omega), List.drop_of_length_le (by omega)]
        simp [hk0]
      · rw [i2 q h1 h2, um_goesF_out (by omega)]
    · rw [if_neg h]
      obtain ⟨i1, i2, i3⟩ := um_can_lst (r := r) k g (by omega) h16
      refine ⟨?_, i2, i3⟩
      rw [i1, htake, List.filter_append, hdrop]
      have hk0 : um_keep r (um_tr g k) = true := by
        unfold um_keep um_tr
        simp [h]
      simp [hk0]
theorem um_cancels48 {d a w : Int32} {r n : Nat} (hr : r < 12) : ∀ (k j : Nat) (g : Nat → Nat), j < k → j ≤ g 1 → g 1 ≤ 16 → (∀ i, i < g 1 → g (83 + 3 * i) < 12) → ulX9_cancels_48 d a w (nI r) (nI n) k (um_nv g) (nI j - nI 1) = some (nI (um_can r j g 1), d, a, w, um_nv (um_up (um_can r j g) 8 (g 8 + n)))
  | 0, j, _, hk, _, _, _ => absurd hk (Nat.not_lt_zero _)
  | k + 1, 0, g, _, _, _, _ => by
    rw [ulX9_cancels_48]
    simp -implicitDefEqProofs (disch := omega) only [um_l0, um_l1, um_l2, um_l3, um_l4, um_l5, um_l6, um_l7, um_l8, um_l9, um_l10, um_l11, um_l12, um_l16, um_l20, um_l23, um_l24, um_l31, um_l32, um_l35, um_l42, um_l43, um_l45, um_l48, um_l57, um_l58, um_l59, um_l60, um_l61, um_l63, um_l64, um_l68, um_l83, um_l99, um_l100, um_l101, um_l102, um_l103, um_l104, um_l105, um_l106, um_l107, um_l108, um_l109, um_l110, um_l111, um_l112, um_l113, um_l114, um_l115, um_l116, um_l117, um_l118, um_l126, um_l128, um_l130, um_l131, um_l132, um_l133, um_l134, um_l135, um_l180, um_l210, um_l211, um_l235, um_l1645, um_l1880, ↓um_nm, um_b1, um_b2, um_b3, um_b4, um_b5, um_b6, um_b7, um_b8, um_b9, um_b10, um_gd, um_bz0, um_bz1, um_m1, nI_add, pk_mul, um_sub_lt0, um_sub_gt0, um_sub_eq0, um_sub_le0, pk_sub, nI_ltI, nI_leI, nI_eq, nI_clamp, um_nv_at, um_nv_up, um_up_eq, um_up_ne, if_true, if_false, if_pos, if_neg, um_at, um_at0, um_put, um_add, um_can]
  | k + 1, j + 1, g, hk, hj, h16, hb => by
    have hbj := hb j (by omega)
    have e8 : um_goesF g j 8 = g 8 := um_goesF_out (by omega)
    have e1 : um_goesF g j 1 = g 1 - 1 := um_goesF_1
    have ez : nI j + -(nI 1) = nI j - nI 1 := by rw [Int32.sub_eq_add_neg]
    rw [ulX9_cancels_48, um_can]
    by_cases h : g (83 + 3 * j) = r
    · have ih := um_cancels48 (d := d) (a := a) (w := w) (n := n) hr k j (um_goesF g j) (by omega) (by omega) (by omega) (fun i hi => by
        rw [e1] at hi
        by_cases c : i < j
        · rw [um_goesF_out (by omega)]; exact hb i (by omega)
        · rw [um_goesF_in (by omega), show 83 + 3 * i + 3 = 83 + 3 * (i + 1) by omega]; exact hb (i + 1) (by omega))
      rw [e8] at ih
      simp (disch := omega) only [um_l0, um_l1, um_l2, um_l3, um_l4, um_l5, um_l6, um_l7, um_l8, um_l9, um_l10, um_l11, um_l12, um_l16, um_l20, um_l23, um_l24, um_l31, um_l32, um_l35, um_l42, um_l43, um_l45, um_l48, um_l57, um_l58, um_l59, um_l60, um_l61, um_l63, um_l64, um_l68, um_l83, um_l99, um_l100, um_l101, um_l102, um_l103, um_l104, um_l105, um_l106, um_l107, um_l108, um_l109, um_l110, um_l111, um_l112, um_l113, um_l114, um_l115, um_l116, um_l117, um_l118, um_l126, um_l128, um_l130, um_l131, um_l132, um_l133, um_l134, um_l135, um_l180, um_l210, um_l211, um_l235, um_l1645, um_l1880, um_b1, pk_sub, Nat.add_sub_cancel, nI_ltI, um_pulled, Nat.add_zero, h, if_true, if_neg, um_goes, ez]
      exact ih
    · have ih := um_cancels48 (d := d) (a := a) (w := w) (n := n) hr k j g (by omega) (by omega) h16 hb
      simp (disch := omega) only [um_l0, um_l1, um_l2, um_l3, um_l4, um_l5, um_l6, um_l7, um_l8, um_l9, um_l10, um_l11, um_l12, um_l16, um_l20, um_l23, um_l24, um_l31, um_l32, um_l35, um_l42, um_l43, um_l45, um_l48, um_l57, um_l58, um_l59, um_l60, um_l61, um_l63, um_l64, um_l68, um_l83, um_l99, um_l100, um_l101, um_l102, um_l103, um_l104, um_l105, um_l106, um_l107, um_l108, um_l109, um_l110, um_l111, um_l112, um_l113, um_l114, um_l115, um_l116, um_l117, um_l118, um_l126, um_l128, um_l130, um_l131, um_l132, um_l133, um_l134, um_l135, um_l180, um_l210, um_l211, um_l235, um_l1645, um_l1880, um_b1, pk_sub, Nat.add_sub_cancel, nI_ltI, nI_eq, um_pulled, Nat.add_zero, h, if_false, if_neg, ez]
      exact ih
theorem um_cnt_filter {r n : Nat} {f : Nat → Nat} : ((List.range n).map (um_tr f)).length = ((((List.range n).map (um_tr f)).filter (um_keep r))).length + um_cnt (fun k => decide (f (83 + 3 * k) = r)) n := by
  induction n with
  | zero => rfl
  | succ n ih =>
    rw [List.range_succ, List.map_append, List.filter_append, List.length_append, List.length_append, ih, um_cnt_s]
    cases h : decide (f (83 + 3 * n) = r)
    · have : um_keep r (um_tr f n) = true := by unfold um_keep um_tr; rw [h]; rfl
      simp [this, um_b2n_f]
      omega
    · have : um_keep r (um_tr f n) = false := by unfold um_keep um_tr; rw [h]; rfl
      simp [this, um_b2n_t]
      omega
/-- those of a rope taken away -/
def um_canF (f : Nat → Nat) (r : Nat) : Nat → Nat := um_up (um_can r (f 1) f) 8 (f 8 + um_cnt (fun k => decide (f (83 + 3 * k) = r)) (f 1))
theorem um_canF_lst {f : Nat → Nat} {r : Nat} (h16 : f 1 ≤ 16) : um_lst (um_canF f r) = (um_lst f).filter (um_keep r) ∧ (∀ q, q ≠ 1 → q ≠ 8 → (q < 83 ∨ 131 ≤ q) → um_canF f r q = f q) ∧ um_canF f r 1 + um_cnt (fun k => decide (f (83 + 3 * k) = r)) (f 1) = f 1 ∧ um_canF f r 8 = f 8 + um_cnt (fun k => decide (f (83 + 3 * k) = r)) (f 1) := by
  obtain ⟨i1, i2, i3⟩ := um_can_lst (r := r) (f 1) f (Nat.le_refl _) h16
  have el : um_lst (um_canF f r) = (um_lst f).filter (um_keep r) := by
    have e : um_lst (um_canF f r) = um_lst (um_can r (f 1) f) := by
      have e1 : um_canF f r 1 = um_can r (f 1) f 1 := by unfold um_canF; exact um_up_ne (by omega)
      have e2 : um_tr (um_canF f r) = um_tr (um_can r (f 1) f) := by
        funext k
        unfold um_tr um_canF
        rw [um_up_ne (by omega), um_up_ne (by omega), um_up_ne (by omega)]
      unfold um_lst
      rw [e1, e2]
    rw [e, i1, List.take_of_length_le (by rw [um_lst_len]; exact Nat.le_refl _), List.drop_of_length_le (by rw [um_lst_len]; exact Nat.le_refl _), List.append_nil]
  refine ⟨el, fun q h1 h2 h3 => ?_, ?_, ?_⟩
  · unfold um_canF
    rw [um_up_ne h2, i2 q h1 h3]
  · have h1 := congrArg List.length el
    rw [um_lst_len] at h1
    have h2 := um_cnt_filter (r := r) (n := f 1) (f := f)
    rw [h1]
    unfold um_lst
    rw [← h2]
    simp
  · unfold um_canF
    exact um_up_eq rfl
/-- of a row's law for each pull, what is left of them keeps it -/
theorem um_lst_all {f g : Nat → Nat} {p : Nat × Nat × Nat → Bool} {Q : Nat × Nat × Nat → Prop} (h : um_lst g = (um_lst f).filter p) (hf : ∀ k, k < f 1 → Q (um_tr f k)) : ∀ k, k < g 1 → Q (um_tr g k) := by
  intro k hk
  have h1 := um_lst_at hk
  rw [h] at h1
  have h2 := List.mem_of_getElem? h1
  have h3 := (List.mem_filter.mp h2).1
  obtain ⟨j, hj⟩ := List.getElem?_of_mem h3
  have hlt : j < f 1 := by
    rw [← um_lst_len (f := f)]
    exact (List.getElem?_eq_some_iff.mp hj).1
  rw [um_lst_at hlt] at hj
  rw [← Option.some.inj hj]
  exact hf j hlt
theorem um_I_can {f : Nat → Nat} {c r : Nat} (hI : um_I f c) : um_I (um_canF f r) c := by
  obtain ⟨q0, q1, q2, q3, q4, q5, q6, q7, q8, q9, q10, q11, q12, q13, q14, q15⟩ := hI
  obtain ⟨i1, i2, i3, i4⟩ := um_canF_lst (r := r) q2
  have A : ∀ q, (q ≠ 1 ∧ q ≠ 8 ∧ (q < 83 ∨ 131 ≤ q)) → um_canF f r q = f q := fun q hq => i2 q hq.1 hq.2.1 hq.2.2
  have a0 := A 0 (by omega)
  have a2 := A 2 (by omega)
  have a3 := A 3 (by omega)
  have a4 := A 4 (by omega)
  have a5 := A 5 (by omega)
  have a6 := A 6 (by omega)
  have a7 := A 7 (by omega)
  have a9 := A 9 (by omega)
  have a10 := A 10 (by omega)
  refine ⟨by omega, by omega, by omega, by omega, by omega, by omega, by omega, by omega, by omega, fun r' hr' => ?_, fun r' hr' hr'' => ?_, ?_, ?_, ?_, ?_, fun h' hh' => ?_⟩
  · rw [A _ (by omega), A _ (by omega), A _ (by omega)]
    exact q9 r' hr'
  · rw [A _ (by omega), A _ (by omega), A _ (by omega), A _ (by omega), A _ (by omega), A _ (by omega)]
    exact q10 r' (by omega) hr''
  · rw [a5, ← q11]
    exact um_sum_congr (fun i hi => A _ (by omega))
  · rw [a6, ← q12]
    exact um_sum_congr (fun i hi => A _ (by omega))
  · rw [a7, ← q13]
    exact um_sum_congr (fun i hi => A _ (by omega))
  · rw [a0]
    exact um_lst_all (Q := fun t => t.1 < f 0 ∧ t.2.1 < 24 ∧ 1 ≤ t.2.2 ∧ t.2.2 ≤ 9) i1 q14
  · rw [A _ (by omega), a0]
    exact q15 h' hh'
/-! ===== the class: those of a rope taken away ===== -/
def um_pk (ph pr ps : Nat → Nat) (k : Nat) : Nat × Nat × Nat := (pr k, ph k, ps k)
theorem um_removeAll {r n : Nat} (hr : r < 12) (hn : n ≤ 16) : ∀ (j k i m : Nat) (ph pr ps : Nat → Nat), n = i + j → j < k → m ≤ i → (∀ q, i ≤ q → q < n → pr q < 12) →
    ∃ m' ph' pr' ps', ulX4_removeAllOf_4 (nI n) (nI r) k (um_nv ph) (um_nv pr) (um_nv ps) (nI m) (nI i) = some (nI m', um_nv ph', um_nv pr', um_nv ps') ∧ (List.range m').map (um_pk ph' pr' ps') = (List.range m).map (um_pk ph pr ps) ++ ((List.range' i j).map (um_pk ph pr ps)).filter (um_keep r)
  | 0, 0, _, _, _, _, _, _, hk, _, _ => absurd hk (Nat.lt_irrefl _)
  | 0, k + 1, i, m, ph, pr, ps, hn', _, hm, _ => by
    refine ⟨m, ph, pr, ps, ?_, by simp⟩
    rw [ulX4_removeAllOf_4]
    simp -implicitDefEqProofs (disch := omega) only [um_l0, um_l1, um_l2, um_l3, um_l4, um_l5, um_l6, um_l7, um_l8, um_l9, um_l10, um_l11, um_l12, um_l16, um_l20, um_l23, um_l24, um_l31, um_l32, um_l35, um_l42, um_l43, um_l45, um_l48, um_l57, um_l58, um_l59, um_l60, um_l61, um_l63, um_l64, um_l68, um_l83, um_l99, um_l100, um_l101, um_l102, um_l103, um_l104, um_l105, um_l106, um_l107, um_l108, um_l109, um_l110, um_l111, um_l112, um_l113, um_l114, um_l115, um_l116, um_l117, um_l118, um_l126, um_l128, um_l130, um_l131, um_l132, um_l133, um_l134, um_l135, um_l180, um_l210, um_l211, um_l235, um_l1645, um_l1880, ↓um_nm, um_b1, um_b2, um_b3, um_b4, um_b5, um_b6, um_b7, um_b8, um_b9, um_b10, um_gd, um_bz0, um_bz1, um_m1, nI_add, pk_mul, um_sub_lt0, um_sub_gt0, um_sub_eq0, um_sub_le0, pk_sub, nI_ltI, nI_leI, nI_eq, nI_clamp, um_nv_at, um_nv_up, um_up_eq, um_up_ne, if_true, if_false, if_pos, if_neg, um_at, um_at0, um_put, um_add]
  | j + 1, 0, _, _, _, _, _, _, hk, _, _ => absurd hk (Nat.not_lt_zero _)
  | j + 1, k + 1, i, m, ph, pr, ps, hn', hk, hm, hb => by
    have hbi := hb i (Nat.le_refl _) (by omega)
    rw [ulX4_removeAllOf_4, List.range'_succ, List.map_cons, List.filter_cons]
    by_cases h : pr i = r
    · have hk0 : um_keep r (um_pk ph pr ps i) = false := by unfold um_keep um_pk; simp [h]
      obtain ⟨m', ph', pr', ps', h1, h2⟩ := um_removeAll hr hn j k (i + 1) m ph pr ps (by omega) (by omega) (by omega) (fun q h1 h2 => hb q (by omega) h2)
      refine ⟨m', ph', pr', ps', ?_, ?_⟩
      · simp -implicitDefEqProofs (disch := omega) only [um_l0, um_l1, um_l2, um_l3, um_l4, um_l5, um_l6, um_l7, um_l8, um_l9, um_l10, um_l11, um_l12, um_l16, um_l20, um_l23, um_l24, um_l31, um_l32, um_l35, um_l42, um_l43, um_l45, um_l48, um_l57, um_l58, um_l59, um_l60, um_l61, um_l63, um_l64, um_l68, um_l83, um_l99, um_l100, um_l101, um_l102, um_l103, um_l104, um_l105, um_l106, um_l107, um_l108, um_l109, um_l110, um_l111, um_l112, um_l113, um_l114, um_l115, um_l116, um_l117, um_l118, um_l126, um_l128, um_l130, um_l131, um_l132, um_l133, um_l134, um_l135, um_l180, um_l210, um_l211, um_l235, um_l1645, um_l1880, ↓um_nm, um_b1, um_b2, um_b3, um_b4, um_b5, um_b6, um_b7, um_b8, um_b9, um_b10, um_gd, um_bz0, um_bz1, um_m1, nI_add, pk_mul, um_sub_lt0, um_sub_gt0, um_sub_eq0, um_sub_le0, pk_sub, nI_ltI, nI_leI, nI_eq, nI_clamp, um_nv_at, um_nv_up, um_up_eq, um_up_ne, if_true, if_false, if_pos, if_neg, um_at, um_at0, um_put, um_add, h]
        exact h1
      · rw [h2, hk0]
        rfl
    · have hk0 : um_keep r (um_pk ph pr ps i) = true := by unfold um_keep um_pk; simp [h]
      have hx : ∀ q, q < m → um_pk (um_up ph m (ph i)) (um_up pr m (pr i)) (um_up ps m (ps i)) q = um_pk ph pr ps q := fun q hq => by
        unfold um_pk
        rw [um_up_ne (by omega), um_up_ne (by omega), um_up_ne (by omega)]
      have hy : ∀ q, i < q → um_pk (um_up ph m (ph i)) (um_up pr m (pr i)) (um_up ps m (ps i)) q = um_pk ph pr ps q := fun q hq => by
        unfold um_pk
        rw [um_up_ne (by omega), um_up_ne (by omega), um_up_ne (by omega)]
      obtain ⟨m', ph', pr', ps', h1, h2⟩ := um_removeAll hr hn j k (i + 1) (m + 1) (um_up ph m (ph i)) (um_up pr m (pr i)) (um_up ps m (ps i)) (by omega) (by omega) (by omega) (fun q h1 h2 => by
        rw [um_up_ne (by omega)]
        exact hb q (by omega) h2)
      refine ⟨m', ph', pr', ps', ?_, ?_⟩
      · simp -implicitDefEqProofs (disch := omega) only [um_l0, um_l1, um_l2, um_l3, um_l4, um_l5, um_l6, um_l7, um_l8, um_l9, um_l10, um_l11, um_l12, um_l16, um_l20, um_l23, um_l24, um_l31, um_l32, um_l35, um_l42, um_l43, um_l45, um_l48, um_l57, um_l58, um_l59, um_l60, um_l61, um_l63, um_l64, um_l68, um_l83, um_l99, um_l100, um_l101, um_l102, um_l103, um_l104, um_l105, um_l106, um_l107, um_l108, um_l109, um_l110, um_l111, um_l112, um_l113, um_l114, um_l115, um_l116, um_l117, um_l118, um_l126, um_l128, um_l130, um_l131, um_l132, um_l133, um_l134, um_l135, um_l180, um_l210, um_l211, um_l235, um_l1645, um_l1880, ↓um_nm, um_b1, um_b2, um_b3, um_b4, um_b5, um_b6, um_b7, um_b8, um_b9, um_b10, um_gd, um_bz0, um_bz1, um_m1, nI_add, pk_mul, um_sub_lt0, um_sub_gt0, um_sub_eq0, um_sub_le0, pk_sub, nI_ltI, nI_leI, nI_eq, nI_clamp, um_nv_at, um_nv_up, um_up_eq, um_up_ne, if_true, if_false, if_pos, if_neg, um_at, um_at0, um_put, um_add, um_carry]
        exact h1
      · rw [h2, hk0, List.range_succ, List.map_append, if_pos rfl]
        have e1 : (List.range m).map (um_pk (um_up ph m (ph i)) (um_up pr m (pr i)) (um_up ps m (ps i))) = (List.range m).map (um_pk ph pr ps) := List.map_congr_left (fun q hq => hx q (List.mem_range.mp hq))
        have e2 : (List.range' (i + 1) j).map (um_pk (um_up ph m (ph i)) (um_up pr m (pr i)) (um_up ps m (ps i))) = (List.range' (i + 1) j).map (um_pk ph pr ps) := List.map_congr_left (fun q hq => hy q (by have := List.mem_range'_1.mp hq; omega))
        have e3 : um_pk (um_up ph m (ph i)) (um_up pr m (pr i)) (um_up ps m (ps i)) m = um_pk ph pr ps i := by
          unfold um_pk
          rw [um_up_eq rfl, um_up_eq rfl, um_up_eq rfl]
        rw [e1, e2]
        simp [e3]
theorem um_PL_lst {f ph pr ps : Nat → Nat} (h : um_PL f ph pr ps) : (List.range (f 1)).map (um_pk ph pr ps) = um_lst f := by
  unfold um_lst
  refine List.map_congr_left (fun k hk => ?_)
  obtain ⟨h1, h2, h3⟩ := h k (List.mem_range.mp hk)
  unfold um_pk um_tr
  rw [h1, h2, h3]
theorem um_lst_PL {f ph pr ps : Nat → Nat} {m : Nat} (h : (List.range m).map (um_pk ph pr ps) = um_lst f) : m = f 1 ∧ um_PL f ph pr ps := by
  have hl := congrArg List.length h
  rw [um_lst_len] at hl
  simp at hl
  refine ⟨hl, fun k hk => ?_⟩
  have h1 := um_lst_at hk
  rw [← h, List.getElem?_map, List.getElem?_range (by omega)] at h1
  have h2 := Option.some.inj h1
  unfold um_pk um_tr at h2
  have h3 := Prod.mk.inj h2
  have h4 := Prod.mk.inj h3.2
  exact ⟨h3.1, h4.1, h4.2⟩
theorem um_removeAllOf {f ph pr ps : Nat → Nat} {r : Nat} (hr : r < 12) (h16 : f 1 ≤ 16) (hP : um_PL f ph pr ps) (hb : ∀ k, k < f 1 → f (83 + 3 * k) < 12) : ∃ ph' pr' ps', ufX4_removeAllOf (nI (f 1)) (um_nv ph) (um_nv pr) (um_nv ps) (nI r) = some (nI (um_canF f r 1), um_nv ph', um_nv pr', um_nv ps') ∧ um_PL (um_canF f r) ph' pr' ps' := by
  obtain ⟨m', ph', pr', ps', h1, h2⟩ := um_removeAll hr h16 (f 1) ub_F 0 0 ph pr ps (by omega) (by unfold ub_F; omega) (Nat.le_refl _) (fun q _ hq => by rw [(hP q hq).1]; exact hb q hq)
  have e : (List.range m').map (um_pk ph' pr' ps') = um_lst (um_canF f r) := by
    rw [h2, (um_canF_lst h16).1, ← um_PL_lst hP]
    simp [List.range_eq_range']
  obtain ⟨e1, e2⟩ := um_lst_PL e
  refine ⟨ph', pr', ps', ?_, e2⟩
  rw [← e1]
  exact h1
