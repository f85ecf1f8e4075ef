/-! ===== the forecast in the second way: rope by rope ===== -/
/-- of the next n rings those that are answers of the rope r -/
def um_fr (r : Nat) : Nat → (Nat → Nat) → Nat
  | 0, _ => 0
  | n + 1, f => um_b2n (decide (um_ringR f = 1) && decide (f 83 = r)) + um_fr r n (um_ringF f)
theorem um_fc_fr {c : Nat} : ∀ (n : Nat) (f : Nat → Nat), um_I f c → n ≤ f 1 → um_fc n f = um_sum (fun r => um_fr r n f) (f 0)
  | 0, f, _, _ => (um_sum_zero (f := fun r => um_fr r 0 f) (fun _ _ => rfl)).symm
  | n + 1, f, hI, hn => by
    have hI' := um_I_ring hI (by omega)
    have e1 := um_ringF_1 (f := f)
    have K0 : um_ringF f 0 = f 0 := um_ringF_keep (by omega)
    have ih := um_fc_fr n (um_ringF f) hI' (by omega)
    have h83 : f 83 < f 0 := (hI.2.2.2.2.2.2.2.2.2.2.2.2.2.2.1 0 (by omega)).1
    rw [um_fc, ih, K0]
    have := um_sum_b (f := fun r => um_fr r n (um_ringF f)) (g := fun r => um_fr r (n + 1) f) (a := decide (um_ringR f = 1)) (k := f 83) h83 (fun i hi => by
      show um_b2n (decide (um_ringR f = 1) && decide (f 83 = i)) + um_fr i n (um_ringF f) = um_fr i n (um_ringF f) + um_b2n (decide (um_ringR f = 1) && decide (i = f 83))
      rw [Nat.add_comm]
      congr 3
      exact decide_eq_decide.mpr ⟨fun h => h.symm, fun h => h.symm⟩)
    rw [this]
    omega
/-- a state in which i pulls have been rung since f -/
def um_bitsH (f : Nat → Nat) (r : Nat) : Nat := um_set (fun h => (f (211 + h)).testBit r) 24
theorem um_hoursOf7 {f rg : Nat → Nat} {c r : Nat} (hI : um_I f c) (hHD : um_HD f rg) (hr : r < 12) : ufX7_hoursOf (um_nv rg) (nI r) = some (nI (um_bitsH f r)) := by
  have hset := fun h hh => um_I_set (h := h) hI hh
  unfold ufX7_hoursOf
  refine um_loop (fun k (s : Int32 × Int32) => ulX7_hoursOf_4 (um_nv rg) (nI r) k s.1 s.2) (fun i => (nI (um_set (fun h => (f (211 + h)).testBit r) i), nI i)) 0 24 (by omega) (by omega) ?_ ?_
  · intro i k _ hi
    show ulX7_hoursOf_4 (um_nv rg) (nI r) (k + 1) _ _ = ulX7_hoursOf_4 (um_nv rg) (nI r) k _ _
    have e1 := hHD i hi
    have hs := hset i hi
    rw [ulX7_hoursOf_4, um_set]
    cases h : (f (211 + i)).testBit r
    · simp -implicitDefEqProofs (disch := omega) only [um_l0, um_l1, um_l2, um_l3, um_l4, um_l5, um_l6, um_l7, um_l8, um_l9, um_l10, um_l11, um_l12, um_l16, um_l20, um_l23, um_l24, um_l31, um_l32, um_l35, um_l42, um_l43, um_l45, um_l48, um_l57, um_l58, um_l59, um_l60, um_l61, um_l63, um_l64, um_l68, um_l83, um_l99, um_l100, um_l101, um_l102, um_l103, um_l104, um_l105, um_l106, um_l107, um_l108, um_l109, um_l110, um_l111, um_l112, um_l113, um_l114, um_l115, um_l116, um_l117, um_l118, um_l126, um_l128, um_l130, um_l131, um_l132, um_l133, um_l134, um_l135, um_l180, um_l210, um_l211, um_l235, um_l1645, um_l1880, ↓um_nm, um_b1, um_b2, um_b3, um_b4, um_b5, um_b6, um_b7, um_b8, um_b9, um_b10, um_gd, um_bz0, um_bz1, um_m1, nI_add, pk_mul, um_sub_lt0, um_sub_gt0, um_sub_eq0, um_sub_le0, pk_sub, nI_ltI, nI_leI, nI_eq, nI_clamp, um_nv_at, um_nv_up, um_up_eq, um_up_ne, if_true, if_false, if_pos, if_neg, um_at, um_at0, um_put, um_add, e1, um_isIn, h, um_b2n_f, Bool.false_eq_true]
    · simp -implicitDefEqProofs (disch := omega) only [um_l0, um_l1, um_l2, um_l3, um_l4, um_l5, um_l6, um_l7, um_l8, um_l9, um_l10, um_l11, um_l12, um_l16, um_l20, um_l23, um_l24, um_l31, um_l32, um_l35, um_l42, um_l43, um_l45, um_l48, um_l57, um_l58, um_l59, um_l60, um_l61, um_l63, um_l64, um_l68, um_l83, um_l99, um_l100, um_l101, um_l102, um_l103, um_l104, um_l105, um_l106, um_l107, um_l108, um_l109, um_l110, um_l111, um_l112, um_l113, um_l114, um_l115, um_l116, um_l117, um_l118, um_l126, um_l128, um_l130, um_l131, um_l132, um_l133, um_l134, um_l135, um_l180, um_l210, um_l211, um_l235, um_l1645, um_l1880, ↓um_nm, um_b1, um_b2, um_b3, um_b4, um_b5, um_b6, um_b7, um_b8, um_b9, um_b10, um_gd, um_bz0, um_bz1, um_m1, nI_add, pk_mul, um_sub_lt0, um_sub_gt0, um_sub_eq0, um_sub_le0, pk_sub, nI_ltI, nI_leI, nI_eq, nI_clamp, um_nv_at, um_nv_up, um_up_eq, um_up_ne, if_true, if_false, if_pos, if_neg, um_at, um_at0, um_put, um_add, e1, um_isIn, h, um_b2n_t, um_bit, um_or, um_set_or]
  · intro k
    show ulX7_hoursOf_4 (um_nv rg) (nI r) (k + 1) _ _ = _
    rw [ulX7_hoursOf_4]
    simp -implicitDefEqProofs (disch := omega) only [um_l0, um_l1, um_l2, um_l3, um_l4, um_l5, um_l6, um_l7, um_l8, um_l9, um_l10, um_l11, um_l12, um_l16, um_l20, um_l23, um_l24, um_l31, um_l32, um_l35, um_l42, um_l43, um_l45, um_l48, um_l57, um_l58, um_l59, um_l60, um_l61, um_l63, um_l64, um_l68, um_l83, um_l99, um_l100, um_l101, um_l102, um_l103, um_l104, um_l105, um_l106, um_l107, um_l108, um_l109, um_l110, um_l111, um_l112, um_l113, um_l114, um_l115, um_l116, um_l117, um_l118, um_l126, um_l128, um_l130, um_l131, um_l132, um_l133, um_l134, um_l135, um_l180, um_l210, um_l211, um_l235, um_l1645, um_l1880, ↓um_nm, um_b1, um_b2, um_b3, um_b4, um_b5, um_b6, um_b7, um_b8, um_b9, um_b10, um_gd, um_bz0, um_bz1, um_m1, nI_add, pk_mul, um_sub_lt0, um_sub_gt0, um_sub_eq0, um_sub_le0, pk_sub, nI_ltI, nI_leI, nI_eq, nI_clamp, um_nv_at, um_nv_up, um_up_eq, um_up_ne, if_true, if_false, if_pos, if_neg, um_at, um_at0, um_put, um_add]
    rfl
theorem um_set_put {b : Nat → Bool} {n h : Nat} (hh : h < n) (hb : b h = false) : um_set b n ||| 2 ^ h = um_set (fun i => b i || decide (i = h)) n := by
  apply Nat.eq_of_testBit_eq
  intro i
  rw [Nat.testBit_or, um_set_bit, um_set_bit, Nat.testBit_two_pow]
  by_cases hi : i = h
  · subst hi
    simp [hh]
  · have e1 : decide (h = i) = false := decide_eq_false (fun z => hi z.symm)
    have e2 : decide (i = h) = false := decide_eq_false hi
    rw [e1, e2, Bool.or_false, Bool.or_false]
theorem um_set_congr {a b : Nat → Bool} : ∀ {n : Nat}, (∀ i, i < n → a i = b i) → um_set a n = um_set b n
  | 0, _ => rfl
  | n + 1, h => by rw [um_set, um_set, um_set_congr (fun i hi => h i (by omega)), h n (by omega)]
theorem um_ahead40 {ph pr ps : Nat → Nat} {n0 c r : Nat} (hr : r < 12) (hn0 : n0 ≤ 16) : ∀ (n k i a : Nat) (f : Nat → Nat), um_I f c → f 1 = n → i + n = n0 → n < k → f (12 + 6 * r) = 1 →
    (∀ j, i ≤ j → j < n0 → pr j = f (83 + 3 * (j - i)) ∧ ph j = f (84 + 3 * (j - i)) ∧ ps j = f (85 + 3 * (j - i))) →
    ulX7_answersAhead_40 (nI n0) (um_nv ph) (um_nv pr) (um_nv ps) (nI r) k (nI a) (nI (f (13 + 6 * r))) (nI (um_bitsH f r)) (nI i) = some (nI (a + um_fr r n f))
  | _, 0, _, _, _, _, _, _, h, _, _ => absurd h (Nat.not_lt_zero _)
  | 0, k + 1, i, a, f, hI, hn, hi, _, _, _ => by
    rw [ulX7_answersAhead_40]
    simp -implicitDefEqProofs (disch := omega) only [um_l0, um_l1, um_l2, um_l3, um_l4, um_l5, um_l6, um_l7, um_l8, um_l9, um_l10, um_l11, um_l12, um_l16, um_l20, um_l23, um_l24, um_l31, um_l32, um_l35, um_l42, um_l43, um_l45, um_l48, um_l57, um_l58, um_l59, um_l60, um_l61, um_l63, um_l64, um_l68, um_l83, um_l99, um_l100, um_l101, um_l102, um_l103, um_l104, um_l105, um_l106, um_l107, um_l108, um_l109, um_l110, um_l111, um_l112, um_l113, um_l114, um_l115, um_l116, um_l117, um_l118, um_l126, um_l128, um_l130, um_l131, um_l132, um_l133, um_l134, um_l135, um_l180, um_l210, um_l211, um_l235, um_l1645, um_l1880, ↓um_nm, um_b1, um_b2, um_b3, um_b4, um_b5, um_b6, um_b7, um_b8, um_b9, um_b10, um_gd, um_bz0, um_bz1, um_m1, nI_add, pk_mul, um_sub_lt0, um_sub_gt0, um_sub_eq0, um_sub_le0, pk_sub, nI_ltI, nI_leI, nI_eq, nI_clamp, um_nv_at, um_nv_up, um_up_eq, um_up_ne, if_true, if_false, if_pos, if_neg, um_at, um_at0, um_put, um_add]
    rfl
  | n + 1, k + 1, i, a, f, hI, hn, hi, hk, hon, hP => by
    have hI' := um_I_ring hI (by omega)
    have e1 := um_ringF_1 (f := f)
    have hset := fun h hh => um_I_set (h := h) hI hh
    obtain ⟨q0, q1, q2, q3, q4, q5, q6, q7, q8, q9, q10, q11, q12, q13, q14, q15⟩ := hI
    obtain ⟨w1, w2, w3, w4⟩ := q14 0 (by omega)
    have w1 : f 83 < f 0 := w1
    have w2 : f 84 < 24 := w2
    have w4 : f 85 ≤ 9 := w4
    obtain ⟨p1, p2, p3⟩ := hP i (by omega) (by omega)
    rw [Nat.sub_self] at p1 p2 p3
    have p1 : pr i = f 83 := p1
    have p2 : ph i = f 84 := p2
    have p3 : ps i = f 85 := p3
    have hq := q9 r hr
    obtain ⟨R5, R6, R7, R2, R10, R9, RR, RH⟩ := um_ring_read (f := f) (by omega) w2
    have hon' : um_ringF f (12 + 6 * r) = 1 := by
      rw [um_ringF_keep (Or.inr (Or.inr (Or.inr (Or.inr ⟨r, hr, Or.inr rfl⟩))))]
      exact hon
    have hP' : ∀ j, i + 1 ≤ j → j < n0 → pr j = um_ringF f (83 + 3 * (j - (i + 1))) ∧ ph j = um_ringF f (84 + 3 * (j - (i + 1))) ∧ ps j = um_ringF f (85 + 3 * (j - (i + 1))) := fun j h1 h2 => by
      rw [um_ringF_p (by omega) (by omega), um_ringF_p (by omega) (by omega), um_ringF_p (by omega) (by omega)]
      have := hP j (by omega) h2
      rw [show 83 + 3 * (j - (i + 1)) + 3 = 83 + 3 * (j - i) by omega, show 84 + 3 * (j - (i + 1)) + 3 = 84 + 3 * (j - i) by omega, show 85 + 3 * (j - (i + 1)) + 3 = 85 + 3 * (j - i) by omega]
      exact this
    have ih := fun a => um_ahead40 (ph := ph) (pr := pr) (ps := ps) hr hn0 n k (i + 1) a (um_ringF f) hI' (by omega) (by omega) (by omega) hon' hP'
    have hH : um_bitsH f r < 2 ^ 24 := um_set_lt
    -- what the ring does to this rope's numbers
    have e13 := (RR r hr).1
    rw [ulX7_answersAhead_40, um_fr]
    by_cases c0 : f 83 = r
    · have hbit : (um_bitsH f r).testBit (f 84) = (f (211 + f 84)).testBit (f 83) := by
        unfold um_bitsH
        rw [um_set_bit, decide_eq_true w2, Bool.true_and, c0]
      cases hb : (f (211 + f 84)).testBit (f 83)
      · rw [hb] at hbit
        by_cases c1 : f (13 + 6 * r) < f 85
        · -- an answer
          have ER : um_ringR f = 1 := by
            unfold um_ringR
            rw [hb, if_neg (by decide), if_pos ⟨by rw [c0]; exact hon, by rw [c0]; exact c1⟩]
          have eH : um_bitsH (um_ringF f) r = um_bitsH f r ||| 2 ^ f 84 := by
            unfold um_bitsH
            rw [um_set_put w2 (by rw [← c0]; exact hb)]
            refine um_set_congr (fun h hh => ?_)
            rw [RH h hh, ER]
            by_cases c2 : h = f 84
            · rw [if_pos ⟨rfl, c2⟩, Nat.testBit_or, Nat.testBit_two_pow, decide_eq_true c0, decide_eq_true c2]
            · rw [if_neg (fun z => c2 z.2), decide_eq_false c2, Bool.or_false]
          rw [ER, if_pos ⟨rfl, c0.symm⟩] at e13
          have ih := ih (a + 1)
          rw [e13, eH] at ih
          rw [ER, decide_eq_true rfl, decide_eq_true c0, Bool.and_true, um_b2n_t, show a + (1 + um_fr r n (um_ringF f)) = (a + 1) + um_fr r n (um_ringF f) by omega, ← ih]
          by_cases c9 : 9 ≤ f (13 + 6 * r)
          · exfalso
            omega
          · simp -implicitDefEqProofs (disch := omega) only [um_l0, um_l1, um_l2, um_l3, um_l4, um_l5, um_l6, um_l7, um_l8, um_l9, um_l10, um_l11, um_l12, um_l16, um_l20, um_l23, um_l24, um_l31, um_l32, um_l35, um_l42, um_l43, um_l45, um_l48, um_l57, um_l58, um_l59, um_l60, um_l61, um_l63, um_l64, um_l68, um_l83, um_l99, um_l100, um_l101, um_l102, um_l103, um_l104, um_l105, um_l106, um_l107, um_l108, um_l109, um_l110, um_l111, um_l112, um_l113, um_l114, um_l115, um_l116, um_l117, um_l118, um_l126, um_l128, um_l130, um_l131, um_l132, um_l133, um_l134, um_l135, um_l180, um_l210, um_l211, um_l235, um_l1645, um_l1880, ↓um_nm, um_b1, um_b2, um_b3, um_b4, um_b5, um_b6, um_b7, um_b8, um_b9, um_b10, um_gd, um_bz0, um_bz1, um_m1, nI_add, pk_mul, um_sub_lt0, um_sub_gt0, um_sub_eq0, um_sub_le0, pk_sub, nI_ltI, nI_leI, nI_eq, nI_clamp, um_nv_at, um_nv_up, um_up_eq, um_up_ne, if_true, if_false, if_pos, if_neg, um_at, um_at0, um_put, um_add, p1, p2, p3, c0, ujX7_answersAhead_87, um_isIn, hbit, um_b2n_f, um_bit, um_or]
        · have ER : um_ringR f = 0 := by
            unfold um_ringR
            rw [hb, if_neg (by decide), if_neg (fun z => c1 (by rw [c0] at z; exact z.2))]
          have eH : um_bitsH (um_ringF f) r = um_bitsH f r := by
            refine um_set_congr (fun h hh => ?_)
            rw [RH h hh, ER, if_neg (fun z => absurd z.1 (by decide))]
          rw [ER, if_neg (fun z => absurd z.1 (by decide))] at e13
          have ih := ih a
          rw [e13, eH] at ih
          rw [ER, show decide ((0 : Nat) = 1) = false from rfl, Bool.false_and, um_b2n_f, Nat.zero_add, ← ih]
          simp -implicitDefEqProofs (disch := omega) only [um_l0, um_l1, um_l2, um_l3, um_l4, um_l5, um_l6, um_l7, um_l8, um_l9, um_l10, um_l11, um_l12, um_l16, um_l20, um_l23, um_l24, um_l31, um_l32, um_l35, um_l42, um_l43, um_l45, um_l48, um_l57, um_l58, um_l59, um_l60, um_l61, um_l63, um_l64, um_l68, um_l83, um_l99, um_l100, um_l101, um_l102, um_l103, um_l104, um_l105, um_l106, um_l107, um_l108, um_l109, um_l110, um_l111, um_l112, um_l113, um_l114, um_l115, um_l116, um_l117, um_l118, um_l126, um_l128, um_l130, um_l131, um_l132, um_l133, um_l134, um_l135, um_l180, um_l210, um_l211, um_l235, um_l1645, um_l1880, ↓um_nm, um_b1, um_b2, um_b3, um_b4, um_b5, um_b6, um_b7, um_b8, um_b9, um_b10, um_gd, um_bz0, um_bz1, um_m1, nI_add, pk_mul, um_sub_lt0, um_sub_gt0, um_sub_eq0, um_sub_le0, pk_sub, nI_ltI, nI_leI, nI_eq, nI_clamp, um_nv_at, um_nv_up, um_up_eq, um_up_ne, if_true, if_false, if_pos, if_neg, um_at, um_at0, um_put, um_add, p1, p2, p3, c0, ujX7_answersAhead_87, um_isIn, hbit, um_b2n_f]
      · rw [hb] at hbit
        have ER : um_ringR f = 2 := by
          unfold um_ringR
          rw [hb, if_pos rfl]
        have eH : um_bitsH (um_ringF f) r = um_bitsH f r := by
          refine um_set_congr (fun h hh => ?_)
          rw [RH h hh, ER, if_neg (fun z => absurd z.1 (by decide))]
        rw [ER, if_neg (fun z => absurd z.1 (by decide))] at e13
        have ih := ih a
        rw [e13, eH] at ih
        rw [ER, show decide ((2 : Nat) = 1) = false from rfl, Bool.false_and, um_b2n_f, Nat.zero_add, ← ih]
        simp -implicitDefEqProofs (disch := omega) only [um_l0, um_l1, um_l2, um_l3, um_l4, um_l5, um_l6, um_l7, um_l8, um_l9, um_l10, um_l11, um_l12, um_l16, um_l20, um_l23, um_l24, um_l31, um_l32, um_l35, um_l42, um_l43, um_l45, um_l48, um_l57, um_l58, um_l59, um_l60, um_l61, um_l63, um_l64, um_l68, um_l83, um_l99, um_l100, um_l101, um_l102, um_l103, um_l104, um_l105, um_l106, um_l107, um_l108, um_l109, um_l110, um_l111, um_l112, um_l113, um_l114, um_l115, um_l116, um_l117, um_l118, um_l126, um_l128, um_l130, um_l131, um_l132, um_l133, um_l134, um_l135, um_l180, um_l210, um_l211, um_l235, um_l1645, um_l1880, ↓um_nm, um_b1, um_b2, um_b3, um_b4, um_b5, um_b6, um_b7, um_b8, um_b9, um_b10, um_gd, um_bz0, um_bz1, um_m1, nI_add, pk_mul, um_sub_lt0, um_sub_gt0, um_sub_eq0, um_sub_le0, pk_sub, nI_ltI, nI_leI, nI_eq, nI_clamp, um_nv_at, um_nv_up, um_up_eq, um_up_ne, if_true, if_false, if_pos, if_neg, um_at, um_at0, um_put, um_add, p1, p2, p3, c0, ujX7_answersAhead_87, um_isIn, hbit, um_b2n_t]
    · have eH : um_bitsH (um_ringF f) r = um_bitsH f r := by
        refine um_set_congr (fun h hh => ?_)
        rw [RH h hh]
        split
        · rw [Nat.testBit_or, Nat.testBit_two_pow, decide_eq_false c0, Bool.or_false]
        · rfl
      rw [if_neg (fun z => c0 z.2.symm)] at e13
      have ih := ih a
      rw [e13, eH] at ih
      rw [decide_eq_false c0, Bool.and_false, um_b2n_f, Nat.zero_add, ← ih]
      simp -implicitDefEqProofs (disch := omega) only [um_l0, um_l1, um_l2, um_l3, um_l4, um_l5, um_l6, um_l7, um_l8, um_l9, um_l10, um_l11, um_l12, um_l16, um_l20, um_l23, um_l24, um_l31, um_l32, um_l35, um_l42, um_l43, um_l45, um_l48, um_l57, um_l58, um_l59, um_l60, um_l61, um_l63, um_l64, um_l68, um_l83, um_l99, um_l100, um_l101, um_l102, um_l103, um_l104, um_l105, um_l106, um_l107, um_l108, um_l109, um_l110, um_l111, um_l112, um_l113, um_l114, um_l115, um_l116, um_l117, um_l118, um_l126, um_l128, um_l130, um_l131, um_l132, um_l133, um_l134, um_l135, um_l180, um_l210, um_l211, um_l235, um_l1645, um_l1880, ↓um_nm, um_b1, um_b2, um_b3, um_b4, um_b5, um_b6, um_b7, um_b8, um_b9, um_b10, um_gd, um_bz0, um_bz1, um_m1, nI_add, pk_mul, um_sub_lt0, um_sub_gt0, um_sub_eq0, um_sub_le0, pk_sub, nI_ltI, nI_leI, nI_eq, nI_clamp, um_nv_at, um_nv_up, um_up_eq, um_up_ne, if_true, if_false, if_pos, if_neg, um_at, um_at0, um_put, um_add, p1, p2, p3, ujX7_answersAhead_87]
theorem um_fr_off {c r : Nat} (hr : r < 12) : ∀ (n : Nat) (f : Nat → Nat), um_I f c → n ≤ f 1 → f (12 + 6 * r) ≠ 1 → um_fr r n f = 0
  | 0, _, _, _, _ => rfl
  | n + 1, f, hI, hn, hoff => by
    have hI' := um_I_ring hI (by omega)
    have e1 := um_ringF_1 (f := f)
    have hoff' : um_ringF f (12 + 6 * r) ≠ 1 := by
      rw [um_ringF_keep (Or.inr (Or.inr (Or.inr (Or.inr ⟨r, hr, Or.inr rfl⟩))))]
      exact hoff
    rw [um_fr, um_fr_off hr n (um_ringF f) hI' (by omega) hoff']
    by_cases c0 : f 83 = r
    · have : um_ringR f ≠ 1 := by
        unfold um_ringR
        split
        · decide
        · rw [if_neg (fun z => hoff (by rw [c0] at z; exact z.1))]
          decide
      rw [decide_eq_false this, Bool.false_and]
      rfl
    · rw [decide_eq_false c0, Bool.and_false]
      rfl
theorem um_answersAhead {f ph pr ps rd rh rr rs rg oa od oi om op ou : Nat → Nat} {c la r : Nat} (hI : um_I f c) (hT : um_D f la ph pr ps rd rh rr rs rg oa od oi om op ou) (hr : r < 12) :
    ufX7_answersAhead (nI (f 1)) (um_nv ph) (um_nv pr) (um_nv ps) (um_nv rg) (um_nv oi) (um_nv ou) (nI r) = some (nI (um_fr r (f 1) f)) := by
  obtain ⟨hPL, hAN, hHD, hRP⟩ := hT
  have h1 := (hI.2.2.2.2.2.2.2.2.2.1 r hr)
  have h16 := hI.2.2.1
  obtain ⟨s1, s2, s3, s4, s5, s6⟩ := hRP r hr
  unfold ufX7_answersAhead
  rw [um_at hr (by decide), um_b1, s2]
  by_cases h0 : f (12 + 6 * r) = 0
  · rw [if_pos (by rw [h0]; rfl), um_fr_off hr _ f hI (Nat.le_refl _) (by omega)]
    rfl
  · rw [if_neg (nI_ne0 (by omega) (by omega)), um_at hr (by decide), um_b1, s3, um_hoursOf7 hI hHD hr, um_b1]
    have := um_ahead40 (ph := ph) (pr := pr) (ps := ps) hr h16 (f 1) ub_F 0 0 f hI rfl (by omega) (by unfold ub_F; omega) (by omega) (fun j _ hj => hPL j hj)
    rw [Nat.zero_add] at this
    exact this
theorem um_forecastAgain8 {f ph pr ps rd rh rr rs rg oa od oi om op ou : Nat → Nat} {c la : Nat} (hI : um_I f c) (hT : um_D f la ph pr ps rd rh rr rs rg oa od oi om op ou) :
    ufX8_forecastAgain (nI (f 1)) (um_nv ph) (um_nv pr) (um_nv ps) (um_nv rg) (nI (f 0)) (um_nv oi) (um_nv ou) = some (nI (um_fc (f 1) f)) := by
  have h12 := hI.2.1
  rw [um_fc_fr (f 1) f hI (Nat.le_refl _)]
  unfold ufX8_forecastAgain
  refine um_loop (fun k (s : Int32 × Int32) => ulX8_forecastAgain_4 (nI (f 1)) (um_nv ph) (um_nv pr) (um_nv ps) (um_nv rg) (nI (f 0)) (um_nv oi) (um_nv ou) k s.1 s.2) (fun i => (nI (um_sum (fun r => um_fr r (f 1) f) i), nI i)) 0 (f 0) (by omega) (by omega) ?_ ?_
  · intro i k _ hi
    show ulX8_forecastAgain_4 (nI (f 1)) (um_nv ph) (um_nv pr) (um_nv ps) (um_nv rg) (nI (f 0)) (um_nv oi) (um_nv ou) (k + 1) _ _ = ulX8_forecastAgain_4 (nI (f 1)) (um_nv ph) (um_nv pr) (um_nv ps) (um_nv rg) (nI (f 0)) (um_nv oi) (um_nv ou) k _ _
    rw [ulX8_forecastAgain_4, um_answersAhead hI hT (by omega), um_sum]
    simp -implicitDefEqProofs (disch := omega) only [um_l0, um_l1, um_l2, um_l3, um_l4, um_l5, um_l6, um_l7, um_l8, um_l9, um_l10, um_l11, um_l12, um_l16, um_l20, um_l23, um_l24, um_l31, um_l32, um_l35, um_l42, um_l43, um_l45, um_l48, um_l57, um_l58, um_l59, um_l60, um_l61, um_l63, um_l64, um_l68, um_l83, um_l99, um_l100, um_l101, um_l102, um_l103, um_l104, um_l105, um_l106, um_l107, um_l108, um_l109, um_l110, um_l111, um_l112, um_l113, um_l114, um_l115, um_l116, um_l117, um_l118, um_l126, um_l128, um_l130, um_l131, um_l132, um_l133, um_l134, um_l135, um_l180, um_l210, um_l211, um_l235, um_l1645, um_l1880, ↓um_nm, um_b1, um_b2, um_b3, um_b4, um_b5, um_b6, um_b7, um_b8, um_b9, um_b10, um_gd, um_bz0, um_bz1, um_m1, nI_add, pk_mul, um_sub_lt0, um_sub_gt0, um_sub_eq0, um_sub_le0, pk_sub, nI_ltI, nI_leI, nI_eq, nI_clamp, um_nv_at, um_nv_up, um_up_eq, um_up_ne, if_true, if_false, if_pos, if_neg, um_at, um_at0, um_put, um_add]
  · intro k
    show ulX8_forecastAgain_4 (nI (f 1)) (um_nv ph) (um_nv pr) (um_nv ps) (um_nv rg) (nI (f 0)) (um_nv oi) (um_nv ou) (k + 1) _ _ = _
    rw [ulX8_forecastAgain_4]
    simp -implicitDefEqProofs (disch := omega) only [um_l0, um_l1, um_l2, um_l3, um_l4, um_l5, um_l6, um_l7, um_l8, um_l9, um_l10, um_l11, um_l12, um_l16, um_l20, um_l23, um_l24, um_l31, um_l32, um_l35, um_l42, um_l43, um_l45, um_l48, um_l57, um_l58, um_l59, um_l60, um_l61, um_l63, um_l64, um_l68, um_l83, um_l99, um_l100, um_l101, um_l102, um_l103, um_l104, um_l105, um_l106, um_l107, um_l108, um_l109, um_l110, um_l111, um_l112, um_l113, um_l114, um_l115, um_l116, um_l117, um_l118, um_l126, um_l128, um_l130, um_l131, um_l132, um_l133, um_l134, um_l135, um_l180, um_l210, um_l211, um_l235, um_l1645, um_l1880, ↓um_nm, um_b1, um_b2, um_b3, um_b4, um_b5, um_b6, um_b7, um_b8, um_b9, um_b10, um_gd, um_bz0, um_bz1, um_m1, nI_add, pk_mul, um_sub_lt0, um_sub_gt0, um_sub_eq0, um_sub_le0, pk_sub, nI_ltI, nI_leI, nI_eq, nI_clamp, um_nv_at, um_nv_up, um_up_eq, um_up_ne, if_true, if_false, if_pos, if_neg, um_at, um_at0, um_put, um_add]
