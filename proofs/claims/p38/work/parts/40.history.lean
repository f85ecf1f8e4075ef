/-! ===== towers as values; the history on both sides ===== -/
def um_T (f : Nat → Nat) (la : Nat) (ph pr ps rd rh rr rs rg oa od oi om op ou : Nat → Nat) : ubT := (nI (f 2), nI (f 3), nI (f 4), nI (f 10), nI (f 5), nI (f 6), nI (f 7), nI (f 8), nI (f 1), um_nv ph, um_nv pr, um_nv ps, nI (f 9), nI la, um_nv rd, um_nv rh, um_nv rr, um_nv rs, um_nv rg, nI (f 0), um_nv oa, um_nv od, um_nv oi, um_nv om, um_nv op, um_nv ou)
def um_C (f : Nat → Nat) (T : ubT) : Prop := ∃ (la : Nat) (ph pr ps rd rh rr rs rg oa od oi om op ou : Nat → Nat), T = um_T f la ph pr ps rd rh rr rs rg oa od oi om op ou ∧ um_D f la ph pr ps rd rh rr rs rg oa od oi om op ou
theorem um_T_congr {f g : Nat → Nat} {la : Nat} {ph pr ps rd rh rr rs rg oa od oi om op ou : Nat → Nat} (h : ∀ q, q < 235 → g q = f q) : um_T g la ph pr ps rd rh rr rs rg oa od oi om op ou = um_T f la ph pr ps rd rh rr rs rg oa od oi om op ou := by
  unfold um_T
  rw [h 0 (by omega), h 1 (by omega), h 2 (by omega), h 3 (by omega), h 4 (by omega), h 5 (by omega), h 6 (by omega), h 7 (by omega), h 8 (by omega), h 9 (by omega), h 10 (by omega)]
theorem um_C_congr {f g : Nat → Nat} {c : Nat} {T : ubT} (hI : um_I f c) (h : ∀ q, q < 235 → g q = f q) (hC : um_C f T) : um_C g T := by
  obtain ⟨la, ph, pr, ps, rd, rh, rr, rs, rg, oa, od, oi, om, op, ou, e, hT⟩ := hC
  exact ⟨la, ph, pr, ps, rd, rh, rr, rs, rg, oa, od, oi, om, op, ou, e.trans (um_T_congr h).symm, um_D_congr h hI.2.2.1 hI.2.2.2.2.2.2.2.2.1 hT⟩
/-- a copy of a tower holds what it holds -/
theorem um_cp {f : Nat → Nat} {c : Nat} {N : ubT} (hI : um_I f c) (hC : um_C f N) (old : ubT) : ∃ T, ub_cp old N = some T ∧ um_C f T := by
  obtain ⟨la, ph, pr, ps, rd, rh, rr, rs, rg, oa, od, oi, om, op, ou, rfl, hT⟩ := hC
  obtain ⟨o_hour, o_day, o_came, o_rung, o_answers, o_misses, o_doubles, o_takenAway, o_pulls_number, o_pulls_hour, o_pulls_rope, o_pulls_strength, o_remembered_number, o_remembered_latest, o_remembered_day, o_remembered_hour, o_remembered_rope, o_remembered_strength, o_ringers, o_ropes_number, o_ropes_answers, o_ropes_doubles, o_ropes_isOn, o_ropes_misses, o_ropes_parish, o_ropes_rust⟩ := old
  obtain ⟨ph', pr', ps', rd', rh', rr', rs', rg', oa', od', oi', om', op', ou', e, hT'⟩ := um_copyFrom (t_answers := o_answers) (t_came := o_came) (t_day := o_day) (t_doubles := o_doubles) (t_hour := o_hour) (t_misses := o_misses) (t_rung := o_rung) (t_takenAway := o_takenAway) (t_pulls_number := o_pulls_number) (t_pulls_hour := o_pulls_hour) (t_pulls_rope := o_pulls_rope) (t_pulls_strength := o_pulls_strength) (t_remembered_latest := o_remembered_latest) (t_remembered_number := o_remembered_number) (t_remembered_day := o_remembered_day) (t_remembered_hour := o_remembered_hour) (t_remembered_rope := o_remembered_rope) (t_remembered_strength := o_remembered_strength) (t_ringers := o_ringers) (t_ropes_number := o_ropes_number) (t_ropes_answers := o_ropes_answers) (t_ropes_doubles := o_ropes_doubles) (t_ropes_isOn := o_ropes_isOn) (t_ropes_misses := o_ropes_misses) (t_ropes_parish := o_ropes_parish) (t_ropes_rust := o_ropes_rust) hI.2.2.1 hI.2.2.2.2.2.2.2.2.1 hT
  refine ⟨um_T f la ph' pr' ps' rd' rh' rr' rs' rg' oa' od' oi' om' op' ou', ?_, la, ph', pr', ps', rd', rh', rr', rs', rg', oa', od', oi', om', op', ou', rfl, hT'⟩
  unfold ub_cp um_T
  dsimp only
  rw [e, um_b26]
theorem um_fm9 : ∀ x, x < 18 → ufJ9_floorMod_7cf53 (nI x) (nI 9) = some (nI (x % 9)) := by decide +kernel
theorem um_fm9m : ∀ a, a < 9 → ufJ9_floorMod_7cf53 (nI a - 1) 9 = some (nI ((a + 8) % 9)) := by decide +kernel
theorem um_up_at {α : Type} {f : Nat → α} {i : Nat} {x : α} : va_up f i x i = x := by
  unfold va_up
  exact if_pos rfl
theorem um_up_other {α : Type} {f : Nat → α} {i j : Nat} {x : α} (h : j ≠ i) : va_up f i x j = f j := by
  unfold va_up
  exact if_neg h
/-- the state before a change is kept at the free row -/
theorem um_note {f : Nat → Nat} {c hf la : Nat} {ph pr ps rd rh rr rs rg oa od oi om op ou : Nat → Nat} {K : Nat → Option ubT} (hI : um_I f c) (hT : um_D f la ph pr ps rd rh rr rs rg oa od oi om op ou) (hh : hf < 9) :
    ∃ T, ufX1_note (nI hf) K (nI (f 5)) (nI (f 4)) (nI (f 3)) (nI (f 7)) (nI (f 2)) (nI (f 6)) (nI (f 10)) (nI (f 8)) (nI (f 1)) (um_nv ph) (um_nv pr) (um_nv ps) (nI la) (nI (f 9)) (um_nv rd) (um_nv rh) (um_nv rr) (um_nv rs) (um_nv rg) (nI (f 0)) (um_nv oa) (um_nv od) (um_nv oi) (um_nv om) (um_nv op) (um_nv ou) = some (va_up K hf (some T)) ∧ um_C f T := by
  obtain ⟨T, e, hC⟩ := um_cp hI ⟨la, ph, pr, ps, rd, rh, rr, rs, rg, oa, od, oi, om, op, ou, rfl, hT⟩ ((K hf).getD ubT0)
  refine ⟨T, ?_, hC⟩
  have em : hf % 9 = hf := Nat.mod_eq_of_lt hh
  unfold ufX1_note
  rw [show (9 : Int32) = nI 9 from rfl, um_fm9 hf (by omega), em, um_b1, um_gd hh (by decide), nI_clamp (by omega)]
  unfold um_T at e
  rw [e, um_b1]
theorem um_takeBack {g : Nat → Nat} {c j : Nat} {K : Nat → Option ubT} {T0 : ubT} {t_answers t_came t_day t_doubles t_hour t_misses t_rung t_takenAway t_pulls_number t_remembered_latest t_remembered_number t_ropes_number : Int32} {t_pulls_hour t_pulls_rope t_pulls_strength t_remembered_day t_remembered_hour t_remembered_rope t_remembered_strength t_ringers t_ropes_answers t_ropes_doubles t_ropes_isOn t_ropes_misses t_ropes_parish t_ropes_rust : Nat → Int32} (hI : um_I g c) (hj : j < 9) (hK : K j = some T0) (hC : um_C g T0) :
    ∃ (la : Nat) (ph pr ps rd rh rr rs rg oa od oi om op ou : Nat → Nat), ufX1_takeBack (nI j) K t_answers t_came t_day t_doubles t_hour t_misses t_rung t_takenAway t_pulls_number t_pulls_hour t_pulls_rope t_pulls_strength t_remembered_latest t_remembered_number t_remembered_day t_remembered_hour t_remembered_rope t_remembered_strength t_ringers t_ropes_number t_ropes_answers t_ropes_doubles t_ropes_isOn t_ropes_misses t_ropes_parish t_ropes_rust = some (va_up K j (some T0), nI (g 5), nI (g 4), nI (g 3), nI (g 7), nI (g 2), nI (g 6), nI (g 10), nI (g 8), nI (g 1), um_nv ph, um_nv pr, um_nv ps, nI la, nI (g 9), um_nv rd, um_nv rh, um_nv rr, um_nv rs, um_nv rg, nI (g 0), um_nv oa, um_nv od, um_nv oi, um_nv om, um_nv op, um_nv ou) ∧ um_D g la ph pr ps rd rh rr rs rg oa od oi om op ou := by
  obtain ⟨T, e, la, ph, pr, ps, rd, rh, rr, rs, rg, oa, od, oi, om, op, ou, rfl, hT⟩ := um_cp hI hC (t_hour, t_day, t_came, t_rung, t_answers, t_misses, t_doubles, t_takenAway, t_pulls_number, t_pulls_hour, t_pulls_rope, t_pulls_strength, t_remembered_number, t_remembered_latest, t_remembered_day, t_remembered_hour, t_remembered_rope, t_remembered_strength, t_ringers, t_ropes_number, t_ropes_answers, t_ropes_doubles, t_ropes_isOn, t_ropes_misses, t_ropes_parish, t_ropes_rust)
  refine ⟨la, ph, pr, ps, rd, rh, rr, rs, rg, oa, od, oi, om, op, ou, ?_, hT⟩
  have em : j % 9 = j := Nat.mod_eq_of_lt hj
  unfold ufX1_takeBack
  rw [show (9 : Int32) = nI 9 from rfl, um_fm9 j (by omega), em, um_b1, um_gd hj (by decide), nI_clamp (by omega), hK]
  dsimp only [Option.getD]
  rw [e, um_b1]
  rfl
def um_blk (past : Nat → Nat) (k : Nat) : Nat → Nat := fun q => past (235 * k + q)
def um_H (c : Nat) (K : Nat → Option ubT) (hf n : Nat) (past : Nat → Nat) : Prop := hf < 9 ∧ n ≤ 8 ∧ ∀ k, k < n → ∃ T, K ((hf + 9 - (n - k)) % 9) = some T ∧ um_C (um_blk past k) T ∧ um_I (um_blk past k) c
theorem um_H_mono {c d hf n : Nat} {K : Nat → Option ubT} {past : Nat → Nat} (hcd : c ≤ d) (hd : d ≤ 2 ^ 20) (h : um_H c K hf n past) : um_H d K hf n past :=
  ⟨h.1, h.2.1, fun k hk => by
    obtain ⟨T, h1, h2, h3⟩ := h.2.2 k hk
    exact ⟨T, h1, h2, um_I_up hcd hd h3⟩⟩
/-- the free row is of no change that can be undone -/
theorem um_H_free {c hf n : Nat} {K : Nat → Option ubT} {past : Nat → Nat} (o : Option ubT) (h : um_H c K hf n past) : um_H c (va_up K hf o) hf n past :=
  ⟨h.1, h.2.1, fun k hk => by
    obtain ⟨T, h1, h2, h3⟩ := h.2.2 k hk
    refine ⟨T, ?_, h2, h3⟩
    have a1 := h.1
    have a2 := h.2.1
    rw [um_up_other (show (hf + 9 - (n - k)) % 9 ≠ hf by omega)]
    exact h1⟩
def um_push (past : Nat → Nat) (n : Nat) (b : Nat → Nat) : Nat → Nat :=
  if n = 8 then um_mix 1645 1880 (fun q => b (q - 1645)) (um_mix 0 1645 (fun q => past (q + 235)) past) else um_mix (235 * n) (235 * n + 235) (fun q => b (q - 235 * n)) past
def um_inc8 (n : Nat) : Nat := if 8 ≤ n then 8 else n + 1
theorem um_keep8 {hf n : Nat} (hh : hf < 9) (hn : n ≤ 8) : ufX1_keep (nI hf) (nI n) = some (nI ((hf + 1) % 9), nI (um_inc8 n)) := by
  have e := um_fm9 (hf + 1) (by omega)
  unfold ufX1_keep um_inc8
  rw [nI_1, nI_1, show (9 : Int32) = nI 9 from rfl, e, um_b1, um_nm, show (8 : Int32) = nI 8 from rfl]
  by_cases h : 8 ≤ n
  · rw [if_pos (show nI 8 < nI (n + 1) from nI_lt (by omega) (by omega)), if_pos h]
  · rw [if_neg (show ¬ nI 8 < nI (n + 1) from nI_nlt (by omega) (by omega)), if_neg h]
theorem um_ends75 {n : Nat} {x : Int32} {b v past : Nat → Nat} (hn : n < 8) : ulX9_ends_75 (nI n) (um_nv b) (um_nv v) x ub_F (um_nv past) (nI 0) = some (x, nI (n + 1), um_nv (um_mix (235 * n) (235 * n + 235) (fun q => b (q - 235 * n)) past), um_nv v) := by
  have e := um_loop (fun k (s : (Nat → Int32) × Int32) => ulX9_ends_75 (nI n) (um_nv b) (um_nv v) x k s.1 s.2) (fun i => (um_nv (um_mix (235 * n) (235 * n + i) (fun q => b (q - 235 * n)) past), nI i)) (K := some (x, nI (n + 1), um_nv (um_mix (235 * n) (235 * n + 235) (fun q => b (q - 235 * n)) past), um_nv v)) 0 235 (by decide) (by decide) ?_ ?_
  · simp only [Nat.add_zero, um_mix_0] at e
    exact e
  · intro i k _ hi
    show ulX9_ends_75 (nI n) (um_nv b) (um_nv v) x (k + 1) _ _ = ulX9_ends_75 (nI n) (um_nv b) (um_nv v) x k _ _
    have ei : b i = (fun q => b (q - 235 * n)) (235 * n + i) := by
      show b i = b (235 * n + i - 235 * n)
      rw [Nat.add_sub_cancel_left]
    rw [ulX9_ends_75, show 235 * n + (i + 1) = (235 * n + i) + 1 from rfl, ← um_mix_s (x := b i) (a := 235 * n) (i := 235 * n + i) (g := fun q => b (q - 235 * n)) (by omega) ei]
    have em : n * 235 = 235 * n := Nat.mul_comm _ _
    simp -implicitDefEqProofs (disch := omega) only [um_l0, um_l1, um_l2, um_l3, um_l4, um_l5, um_l6, um_l7, um_l8, um_l9, um_l10, um_l11, um_l12, um_l16, um_l20, um_l23, um_l24, um_l31, um_l32, um_l35, um_l42, um_l43, um_l45, um_l48, um_l57, um_l58, um_l59, um_l60, um_l61, um_l63, um_l64, um_l68, um_l83, um_l99, um_l100, um_l101, um_l102, um_l103, um_l104, um_l105, um_l106, um_l107, um_l108, um_l109, um_l110, um_l111, um_l112, um_l113, um_l114, um_l115, um_l116, um_l117, um_l118, um_l126, um_l128, um_l130, um_l131, um_l132, um_l133, um_l134, um_l135, um_l180, um_l210, um_l211, um_l235, um_l1645, um_l1880, ↓um_nm, um_b1, um_b2, um_b3, um_b4, um_b5, um_b6, um_b7, um_b8, um_b9, um_b10, um_gd, um_bz0, um_bz1, um_m1, nI_add, pk_mul, um_sub_lt0, um_sub_gt0, um_sub_eq0, um_sub_le0, pk_sub, nI_ltI, nI_leI, nI_eq, nI_clamp, um_nv_at, um_nv_up, um_up_eq, um_up_ne, if_true, if_false, if_pos, if_neg, um_at, um_at0, um_put, um_add, em]
  · intro k
    show ulX9_ends_75 (nI n) (um_nv b) (um_nv v) x (k + 1) _ _ = _
    rw [ulX9_ends_75]
    simp -implicitDefEqProofs (disch := omega) only [um_l0, um_l1, um_l2, um_l3, um_l4, um_l5, um_l6, um_l7, um_l8, um_l9, um_l10, um_l11, um_l12, um_l16, um_l20, um_l23, um_l24, um_l31, um_l32, um_l35, um_l42, um_l43, um_l45, um_l48, um_l57, um_l58, um_l59, um_l60, um_l61, um_l63, um_l64, um_l68, um_l83, um_l99, um_l100, um_l101, um_l102, um_l103, um_l104, um_l105, um_l106, um_l107, um_l108, um_l109, um_l110, um_l111, um_l112, um_l113, um_l114, um_l115, um_l116, um_l117, um_l118, um_l126, um_l128, um_l130, um_l131, um_l132, um_l133, um_l134, um_l135, um_l180, um_l210, um_l211, um_l235, um_l1645, um_l1880, ↓um_nm, um_b1, um_b2, um_b3, um_b4, um_b5, um_b6, um_b7, um_b8, um_b9, um_b10, um_gd, um_bz0, um_bz1, um_m1, nI_add, pk_mul, um_sub_lt0, um_sub_gt0, um_sub_eq0, um_sub_le0, pk_sub, nI_ltI, nI_leI, nI_eq, nI_clamp, um_nv_at, um_nv_up, um_up_eq, um_up_ne, if_true, if_false, if_pos, if_neg, um_at, um_at0, um_put, um_add]
theorem um_ends {n : Nat} {x : Int32} {b v past : Nat → Nat} (hn : n ≤ 8) : ufX9_ends (nI n) 0 (um_nv b) (um_nv past) (um_nv v) x = some (x, nI (um_inc8 n), um_nv (um_push past n b), um_nv v) := by
  unfold ufX9_ends um_inc8 um_push
  rw [if_pos rfl]
  by_cases h8 : n = 8
  · subst h8
    rw [if_pos (by decide), if_pos rfl, if_pos (Nat.le_refl _)]
    have e := um_loop (fun k (s : (Nat → Int32) × Int32) => ulX9_ends_34 (nI 8) (um_nv b) (um_nv v) x k s.1 s.2) (fun i => (um_nv (um_mix 0 i (fun q => past (q + 235)) past), nI i)) (K := some (x, nI 8, um_nv (um_mix 1645 1880 (fun q => b (q - 1645)) (um_mix 0 1645 (fun q => past (q + 235)) past)), um_nv v)) 0 1645 (by decide) (by decide) ?_ ?_
    · simp only [um_mix_0] at e
      exact e
    · intro i k h0 hi
      show ulX9_ends_34 (nI 8) (um_nv b) (um_nv v) x (k + 1) _ _ = ulX9_ends_34 (nI 8) (um_nv b) (um_nv v) x k _ _
      rw [ulX9_ends_34, ← um_mix_s h0 (show past (i + 235) = (fun q => past (q + 235)) i from rfl)]
      simp -implicitDefEqProofs (disch := omega) only [um_l0, um_l1, um_l2, um_l3, um_l4, um_l5, um_l6, um_l7, um_l8, um_l9, um_l10, um_l11, um_l12, um_l16, um_l20, um_l23, um_l24, um_l31, um_l32, um_l35, um_l42, um_l43, um_l45, um_l48, um_l57, um_l58, um_l59, um_l60, um_l61, um_l63, um_l64, um_l68, um_l83, um_l99, um_l100, um_l101, um_l102, um_l103, um_l104, um_l105, um_l106, um_l107, um_l108, um_l109, um_l110, um_l111, um_l112, um_l113, um_l114, um_l115, um_l116, um_l117, um_l118, um_l126, um_l128, um_l130, um_l131, um_l132, um_l133, um_l134, um_l135, um_l180, um_l210, um_l211, um_l235, um_l1645, um_l1880, ↓um_nm, um_b1, um_b2, um_b3, um_b4, um_b5, um_b6, um_b7, um_b8, um_b9, um_b10, um_gd, um_bz0, um_bz1, um_m1, nI_add, pk_mul, um_sub_lt0, um_sub_gt0, um_sub_eq0, um_sub_le0, pk_sub, nI_ltI, nI_leI, nI_eq, nI_clamp, um_nv_at, um_nv_up, um_up_eq, um_up_ne, if_true, if_false, if_pos, if_neg, um_at, um_at0, um_put, um_add, um_mix_out]
    · intro k
      show ulX9_ends_34 (nI 8) (um_nv b) (um_nv v) x (k + 1) _ _ = _
      rw [ulX9_ends_34]
      simp -implicitDefEqProofs (disch := omega) only [um_l0, um_l1, um_l2, um_l3, um_l4, um_l5, um_l6, um_l7, um_l8, um_l9, um_l10, um_l11, um_l12, um_l16, um_l20, um_l23, um_l24, um_l31, um_l32, um_l35, um_l42, um_l43, um_l45, um_l48, um_l57, um_l58, um_l59, um_l60, um_l61, um_l63, um_l64, um_l68, um_l83, um_l99, um_l100, um_l101, um_l102, um_l103, um_l104, um_l105, um_l106, um_l107, um_l108, um_l109, um_l110, um_l111, um_l112, um_l113, um_l114, um_l115, um_l116, um_l117, um_l118, um_l126, um_l128, um_l130, um_l131, um_l132, um_l133, um_l134, um_l135, um_l180, um_l210, um_l211, um_l235, um_l1645, um_l1880, ↓um_nm, um_b1, um_b2, um_b3, um_b4, um_b5, um_b6, um_b7, um_b8, um_b9, um_b10, um_gd, um_bz0, um_bz1, um_m1, nI_add, pk_mul, um_sub_lt0, um_sub_gt0, um_sub_eq0, um_sub_le0, pk_sub, nI_ltI, nI_leI, nI_eq, nI_clamp, um_nv_at, um_nv_up, um_up_eq, um_up_ne, if_true, if_false, if_pos, if_neg, um_at, um_at0, um_put, um_add]
      exact um_ends75 (n := 7) (by decide)
  · have c1 : ¬ nI n = (8 : Int32) := fun z => h8 ((nI_eq (by omega) (by decide)).mp z)
    rw [if_neg c1, if_neg h8, if_neg (by omega)]
    exact um_ends75 (by omega)
theorem um_push_at {past b : Nat → Nat} {n k q : Nat} (hn : n ≤ 8) (hk : k < um_inc8 n) (hq : q < 235) : um_blk (um_push past n b) k q = if k + 1 = um_inc8 n then b q else um_blk past (if n = 8 then k + 1 else k) q := by
  unfold um_blk um_push
  unfold um_inc8 at *
  by_cases h8 : n = 8
  · subst h8
    rw [if_pos (Nat.le_refl _)] at hk ⊢
    rw [if_pos rfl, if_pos rfl]
    by_cases hk7 : k = 7
    · subst hk7
      rw [if_pos rfl, um_mix_in (by omega), show 235 * 7 + q - 1645 = q by omega]
    · rw [if_neg (by omega), um_mix_out (by omega), um_mix_in (by omega), show 235 * k + q + 235 = 235 * (k + 1) + q by omega]
  · have e8 : ¬ 8 ≤ n := by omega
    rw [if_neg e8] at hk ⊢
    rw [if_neg h8, if_neg h8]
    by_cases hkn : k = n
    · subst hkn
      rw [if_pos rfl, um_mix_in (by omega), Nat.add_sub_cancel_left]
    · rw [if_neg (by omega), um_mix_out (by omega)]
theorem um_H_push {c hf n : Nat} {K : Nat → Option ubT} {past b f : Nat → Nat} {T : ubT} (h : um_H c K hf n past) (hc : c + 1 ≤ 2 ^ 20) (hI : um_I f c) (hC : um_C f T) (hb : ∀ q, q < 235 → b q = f q) : um_H (c + 1) (va_up K hf (some T)) ((hf + 1) % 9) (um_inc8 n) (um_push past n b) := by
  obtain ⟨h1, h2, h3⟩ := h
  refine ⟨Nat.mod_lt _ (by decide), by unfold um_inc8; split <;> omega, fun k hk => ?_⟩
  have hat := fun q hq => um_push_at (past := past) (b := b) (n := n) (k := k) (q := q) h2 hk hq
  by_cases hl : k + 1 = um_inc8 n
  · have ix : ((hf + 1) % 9 + 9 - (um_inc8 n - k)) % 9 = hf := by omega
    have ag : ∀ q, q < 235 → um_blk (um_push past n b) k q = f q := fun q hq => by rw [hat q hq, if_pos hl, hb q hq]
    rw [ix, um_up_at]
    exact ⟨T, rfl, um_C_congr hI ag hC, um_I_congr ag (by omega) hc hI⟩
  · obtain ⟨T', g1, g2, g3⟩ := h3 (if n = 8 then k + 1 else k) (by
      unfold um_inc8 at hk hl
      by_cases e : n = 8
      · rw [if_pos (show 8 ≤ n by omega)] at hk hl
        rw [if_pos e]
        omega
      · rw [if_neg (show ¬ 8 ≤ n by omega)] at hk hl
        rw [if_neg e]
        omega)
    have ag : ∀ q, q < 235 → um_blk (um_push past n b) k q = um_blk past (if n = 8 then k + 1 else k) q := fun q hq => by rw [hat q hq, if_neg hl]
    have ix : ((hf + 1) % 9 + 9 - (um_inc8 n - k)) % 9 = (hf + 9 - (n - (if n = 8 then k + 1 else k))) % 9 := by
      unfold um_inc8 at hk hl ⊢
      by_cases e : n = 8
      · rw [if_pos (show 8 ≤ n by omega)] at hk hl ⊢
        rw [if_pos e]
        omega
      · rw [if_neg (show ¬ 8 ≤ n by omega)] at hk hl ⊢
        rw [if_neg e]
        omega
    have ne : (hf + 9 - (n - (if n = 8 then k + 1 else k))) % 9 ≠ hf := by
      unfold um_inc8 at hk hl
      by_cases e : n = 8
      · rw [if_pos (show 8 ≤ n by omega)] at hk hl
        rw [if_pos e]
        omega
      · rw [if_neg (show ¬ 8 ≤ n by omega)] at hk hl
        rw [if_neg e]
        omega
    rw [ix, um_up_other ne]
    exact ⟨T', g1, um_C_congr g3 ag g2, um_I_congr ag (by omega) hc g3⟩
/-- how a change is settled on either side -/
theorem um_wrap {c hf n : Nat} {K : Nat → Option ubT} {past bb f f' : Nat → Nat} {T : ubT} {y z fl : Int32} (h : um_H c K hf n past) (hc : c + 1 ≤ 2 ^ 20) (hI : um_I f c) (hC : um_C f T) (hE : um_E y z fl f f') :
    ∃ (hf' n' : Nat) (past' f'' : Nat → Nat), ufX8_settle (nI hf) (nI n) y = some (y, nI hf', nI n') ∧ ufX9_ends (nI n) fl (um_nv (um_mix 0 235 f bb)) (um_nv past) (um_nv f') z = some (y, nI n', um_nv past', um_nv f'') ∧
      um_H (c + 1) (va_up K hf (some T)) hf' n' past' ∧ (∀ q, q < 235 → f'' q = f' q) := by
  have hb : ∀ q, q < 235 → um_mix 0 235 f bb q = f q := fun q hq => um_mix_in (by omega)
  rcases hE with ⟨h1, h2, h3⟩ | ⟨h1, h2, h3⟩
  · subst h1 h2
    refine ⟨(hf + 1) % 9, um_inc8 n, um_push past n (um_mix 0 235 f bb), f', ?_, um_ends h.2.1, um_H_push h hc hI hC hb, fun _ _ => rfl⟩
    unfold ufX8_settle
    rw [if_neg h3, um_keep8 h.1 h.2.1, um_b2]
  · subst h1 h3
    refine ⟨hf, n, past, um_mix 0 235 (um_mix 0 235 f' bb) f', ?_, ?_, um_H_mono (Nat.le_succ c) hc (um_H_free _ h), fun q hq => by rw [um_mix_in (by omega), um_mix_in (by omega)]⟩
    · unfold ufX8_settle
      rw [if_pos h2]
    · have hne : ¬ fl = 0 := fun z => by
        rw [z] at h2
        exact absurd h2 (by decide)
      unfold ufX9_ends
      rw [if_neg hne, um_lays, um_b1]
