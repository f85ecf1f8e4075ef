/-! ===== what a ring does, number by number; it keeps what holds of every state ===== -/
theorem um_ring_read {f : Nat → Nat} (h83 : f 83 < 12) (h84 : f 84 < 24) :
    um_ringF f 5 = f 5 + um_b2n (decide (um_ringR f = 1)) ∧ um_ringF f 6 = f 6 + um_b2n (decide (um_ringR f = 0)) ∧ um_ringF f 7 = f 7 + um_b2n (decide (um_ringR f = 2)) ∧
    um_ringF f 2 = f 84 ∧ um_ringF f 10 = f 10 + 1 ∧ (um_ringF f 9 = f 9 ∨ um_ringF f 9 = if 20 ≤ f 9 then 20 else f 9 + 1) ∧
    (∀ r, r < 12 → um_ringF f (13 + 6 * r) = (if um_ringR f = 1 ∧ r = f 83 then (if 9 ≤ f (13 + 6 * r) then 9 else f (13 + 6 * r) + 1) else f (13 + 6 * r)) ∧
      um_ringF f (14 + 6 * r) = f (14 + 6 * r) + um_b2n (decide (um_ringR f = 1) && decide (r = f 83)) ∧
      um_ringF f (15 + 6 * r) = f (15 + 6 * r) + um_b2n (decide (um_ringR f = 0) && decide (r = f 83)) ∧
      um_ringF f (16 + 6 * r) = f (16 + 6 * r) + um_b2n (decide (um_ringR f = 2) && decide (r = f 83))) ∧
    (∀ h, h < 24 → um_ringF f (211 + h) = if um_ringR f = 1 ∧ h = f 84 then f (211 + h) ||| 2 ^ f 83 else f (211 + h)) := by
  cases hb : (f (211 + f 84)).testBit (f 83)
  · by_cases hq : f (12 + 6 * f 83) = 1 ∧ f (13 + 6 * f 83) < f 85
    · have ER : um_ringR f = 1 := by unfold um_ringR; rw [hb, if_neg (by decide), if_pos hq]
      have EF : um_ringF f = um_ansF (um_ring2 f) (f 83) (f 84) (f 85) := by unfold um_ringF; rw [hb, if_neg (by decide), if_pos hq]
      rw [ER, EF]
      unfold um_ansF
      refine ⟨?_, ?_, ?_, ?_, ?_, Or.inr ?_, fun r hr => ?_, fun h hh => ?_⟩
      · simp (disch := omega) only [um_up_ne, um_up_eq, um_mix_out, um_ring2_at]; rfl
      · simp (disch := omega) only [um_up_ne, um_up_eq, um_mix_out, um_ring2_at]; rfl
      · simp (disch := omega) only [um_up_ne, um_up_eq, um_mix_out, um_ring2_at]; rfl
      · simp (disch := omega) only [um_up_ne, um_up_eq, um_mix_out, um_ring2_2]
      · simp (disch := omega) only [um_up_ne, um_up_eq, um_mix_out, um_ring2_10]
      · simp (disch := omega) only [um_up_ne, um_up_eq, um_mix_out, um_ring2_at]
      · by_cases hz : r = f 83
        · subst hz
          refine ⟨?_, ?_, ?_, ?_⟩
          · rw [if_pos (show (1 : Nat) = 1 ∧ f 83 = f 83 from ⟨rfl, rfl⟩)]
            simp (disch := omega) only [um_up_ne, um_up_eq, um_mix_out, um_ring2_at]
          · simp (disch := omega) only [um_up_ne, um_up_eq, um_mix_out, um_ring2_at, decide_true, Bool.and_true, um_b2n_t]
          · simp (disch := omega) only [um_up_ne, um_up_eq, um_mix_out, um_ring2_at]; rfl
          · simp (disch := omega) only [um_up_ne, um_up_eq, um_mix_out, um_ring2_at]; rfl
        · refine ⟨?_, ?_, ?_, ?_⟩
          · rw [if_neg (show ¬ ((1 : Nat) = 1 ∧ r = f 83) from fun z => hz z.2)]
            simp (disch := omega) only [um_up_ne, um_up_eq, um_mix_out, um_ring2_at]
          · simp (disch := omega) only [um_up_ne, um_up_eq, um_mix_out, um_ring2_at, decide_eq_false hz, Bool.and_false, um_b2n_f, Nat.add_zero]
          · simp (disch := omega) only [um_up_ne, um_up_eq, um_mix_out, um_ring2_at, decide_eq_false hz, Bool.and_false, um_b2n_f, Nat.add_zero]
          · simp (disch := omega) only [um_up_ne, um_up_eq, um_mix_out, um_ring2_at, decide_eq_false hz, Bool.and_false, um_b2n_f, Nat.add_zero]
      · by_cases hz : h = f 84
        · subst hz
          rw [if_pos (show (1 : Nat) = 1 ∧ f 84 = f 84 from ⟨rfl, rfl⟩)]
          simp (disch := omega) only [um_up_ne, um_up_eq, um_mix_out, um_ring2_at]
        · rw [if_neg (show ¬ ((1 : Nat) = 1 ∧ h = f 84) from fun z => hz z.2)]
          simp (disch := omega) only [um_up_ne, um_up_eq, um_mix_out, um_ring2_at]
    · have ER : um_ringR f = 0 := by unfold um_ringR; rw [hb, if_neg (by decide), if_neg hq]
      have EF : um_ringF f = um_up (um_up (um_ring2 f) (15 + 6 * f 83) (f (15 + 6 * f 83) + 1)) 6 (f 6 + 1) := by unfold um_ringF; rw [hb, if_neg (by decide), if_neg hq]
      rw [ER, EF]
      refine ⟨?_, ?_, ?_, ?_, ?_, Or.inl ?_, fun r hr => ?_, fun h hh => ?_⟩
      · simp (disch := omega) only [um_up_ne, um_up_eq, um_ring2_at]; rfl
      · simp (disch := omega) only [um_up_ne, um_up_eq, um_ring2_at]; rfl
      · simp (disch := omega) only [um_up_ne, um_up_eq, um_ring2_at]; rfl
      · simp (disch := omega) only [um_up_ne, um_up_eq, um_ring2_2]
      · simp (disch := omega) only [um_up_ne, um_up_eq, um_ring2_10]
      · simp (disch := omega) only [um_up_ne, um_up_eq, um_ring2_at]
      · rw [if_neg (fun z => absurd z.1 (by decide))]
        by_cases hz : r = f 83
        · subst hz
          refine ⟨?_, ?_, ?_, ?_⟩
          · simp (disch := omega) only [um_up_ne, um_up_eq, um_ring2_at]
          · simp (disch := omega) only [um_up_ne, um_up_eq, um_ring2_at]; rfl
          · simp (disch := omega) only [um_up_ne, um_up_eq, um_ring2_at, decide_true, Bool.and_true, um_b2n_t]
          · simp (disch := omega) only [um_up_ne, um_up_eq, um_ring2_at]; rfl
        · refine ⟨?_, ?_, ?_, ?_⟩ <;> simp (disch := omega) only [um_up_ne, um_up_eq, um_ring2_at, decide_eq_false hz, Bool.and_false, um_b2n_f, Nat.add_zero]
      · rw [if_neg (fun z => absurd z.1 (by decide))]
        simp (disch := omega) only [um_up_ne, um_up_eq, um_ring2_at]
  · have ER : um_ringR f = 2 := by unfold um_ringR; rw [hb, if_pos rfl]
    have EF : um_ringF f = um_up (um_up (um_ring2 f) (16 + 6 * f 83) (f (16 + 6 * f 83) + 1)) 7 (f 7 + 1) := by unfold um_ringF; rw [hb, if_pos rfl]
    rw [ER, EF]
    refine ⟨?_, ?_, ?_, ?_, ?_, Or.inl ?_, fun r hr => ?_, fun h hh => ?_⟩
    · simp (disch := omega) only [um_up_ne, um_up_eq, um_ring2_at]; rfl
    · simp (disch := omega) only [um_up_ne, um_up_eq, um_ring2_at]; rfl
    · simp (disch := omega) only [um_up_ne, um_up_eq, um_ring2_at]; rfl
    · simp (disch := omega) only [um_up_ne, um_up_eq, um_ring2_2]
    · simp (disch := omega) only [um_up_ne, um_up_eq, um_ring2_10]
    · simp (disch := omega) only [um_up_ne, um_up_eq, um_ring2_at]
    · rw [if_neg (fun z => absurd z.1 (by decide))]
      by_cases hz : r = f 83
      · subst hz
        refine ⟨?_, ?_, ?_, ?_⟩
        · simp (disch := omega) only [um_up_ne, um_up_eq, um_ring2_at]
        · simp (disch := omega) only [um_up_ne, um_up_eq, um_ring2_at]; rfl
        · simp (disch := omega) only [um_up_ne, um_up_eq, um_ring2_at]; rfl
        · simp (disch := omega) only [um_up_ne, um_up_eq, um_ring2_at, decide_true, Bool.and_true, um_b2n_t]
      · refine ⟨?_, ?_, ?_, ?_⟩ <;> simp (disch := omega) only [um_up_ne, um_up_eq, um_ring2_at, decide_eq_false hz, Bool.and_false, um_b2n_f, Nat.add_zero]
    · rw [if_neg (fun z => absurd z.1 (by decide))]
      simp (disch := omega) only [um_up_ne, um_up_eq, um_ring2_at]
theorem um_sum_b {f g : Nat → Nat} {a : Bool} {k n : Nat} (hk : k < n) (h : ∀ i, i < n → g i = f i + um_b2n (a && decide (i = k))) : um_sum g n = um_sum f n + um_b2n a := by
  rw [um_sum_congr h, um_sum_add]
  congr 1
  have e : ∀ m, um_sum (fun i => um_b2n (a && decide (i = k))) m = if k < m then um_b2n a else 0 := by
    intro m
    induction m with
    | zero => rw [if_neg (by omega)]; rfl
    | succ m ih =>
      rw [um_sum, ih]
      by_cases h1 : m = k
      · subst h1
        rw [if_neg (by omega), if_pos (by omega), decide_eq_true (show m = m from rfl), Bool.and_true, Nat.zero_add]
      · rw [decide_eq_false h1, Bool.and_false, um_b2n_f, Nat.add_zero]
        by_cases h2 : k < m
        · rw [if_pos h2, if_pos (by omega)]
        · rw [if_neg h2, if_neg (by omega)]
  rw [e n, if_pos hk]
theorem um_ringR_lt {f : Nat → Nat} : um_ringR f < 3 := by
  unfold um_ringR
  split
  · decide
  · split <;> decide
theorem um_I_ring {f : Nat → Nat} {c : Nat} (hI : um_I f c) (h1 : 0 < f 1) : um_I (um_ringF f) c := by
  obtain ⟨q0, q1, q2, q3, q4, q5, q6, q7, q8, q9, q10, q11, q12, q13, q14, q15⟩ := hI
  obtain ⟨p1, p2, p3, p4⟩ := q14 0 h1
  have p1 : f 83 < f 0 := p1
  have p2 : f 84 < 24 := p2
  obtain ⟨R5, R6, R7, R2, R10, R9, RR, RH⟩ := um_ring_read (f := f) (by omega) p2
  have K0 : um_ringF f 0 = f 0 := um_ringF_keep (Or.inl rfl)
  have K3 : um_ringF f 3 = f 3 := um_ringF_keep (by omega)
  have K4 : um_ringF f 4 = f 4 := um_ringF_keep (by omega)
  have K8 : um_ringF f 8 = f 8 := um_ringF_keep (by omega)
  have hR : um_b2n (decide (um_ringR f = 1)) + um_b2n (decide (um_ringR f = 0)) + um_b2n (decide (um_ringR f = 2)) = 1 := by
    have := um_ringR_lt (f := f)
    rcases (show um_ringR f = 0 ∨ um_ringR f = 1 ∨ um_ringR f = 2 by omega) with h | h | h <;> rw [h] <;> rfl
  have e1 : um_ringF f 1 = f 1 - 1 := um_ringF_1
  refine ⟨q0, by omega, by omega, by omega, by omega, by omega, by omega, by omega, ?_, fun r hr => ?_, fun r hr hr' => ?_, ?_, ?_, ?_, fun k hk => ?_, fun h hh => ?_⟩
  · rcases R9 with e | e
    · omega
    · rw [e]; split <;> omega
  · obtain ⟨a1, a2, a3, a4⟩ := RR r hr
    have b1 : um_ringF f (11 + 6 * r) = f (11 + 6 * r) := um_ringF_keep (Or.inr (Or.inr (Or.inr (Or.inr ⟨r, hr, Or.inl rfl⟩))))
    have b2 : um_ringF f (12 + 6 * r) = f (12 + 6 * r) := um_ringF_keep (Or.inr (Or.inr (Or.inr (Or.inr ⟨r, hr, Or.inr rfl⟩))))
    have := q9 r hr
    refine ⟨by omega, by omega, ?_⟩
    rw [a1]
    split
    · split <;> omega
    · omega
  · obtain ⟨a1, a2, a3, a4⟩ := RR r hr'
    have b1 : um_ringF f (11 + 6 * r) = f (11 + 6 * r) := um_ringF_keep (Or.inr (Or.inr (Or.inr (Or.inr ⟨r, hr', Or.inl rfl⟩))))
    have b2 : um_ringF f (12 + 6 * r) = f (12 + 6 * r) := um_ringF_keep (Or.inr (Or.inr (Or.inr (Or.inr ⟨r, hr', Or.inr rfl⟩))))
    obtain ⟨z1, z2, z3, z4, z5, z6⟩ := q10 r (by omega) hr'
    have hne : ¬ r = f 83 := by omega
    rw [decide_eq_false hne, Bool.and_false, um_b2n_f] at a2 a3 a4
    rw [if_neg (fun z => hne z.2)] at a1
    exact ⟨by omega, by omega, by omega, by omega, by omega, by omega⟩
  · rw [um_sum_b (f := fun r => f (14 + 6 * r)) (k := f 83) (a := decide (um_ringR f = 1)) (by omega) (fun i hi => (RR i hi).2.1), q11, R5]
  · rw [um_sum_b (f := fun r => f (15 + 6 * r)) (k := f 83) (a := decide (um_ringR f = 0)) (by omega) (fun i hi => (RR i hi).2.2.1), q12, R6]
  · rw [um_sum_b (f := fun r => f (16 + 6 * r)) (k := f 83) (a := decide (um_ringR f = 2)) (by omega) (fun i hi => (RR i hi).2.2.2), q13, R7]
  · rw [um_ringF_1] at hk
    have i1 : 83 + 3 * k + 3 = 83 + 3 * (k + 1) := by omega
    have i2 : 84 + 3 * k + 3 = 84 + 3 * (k + 1) := by omega
    have i3 : 85 + 3 * k + 3 = 85 + 3 * (k + 1) := by omega
    rw [K0, um_ringF_p (by omega) (by omega), um_ringF_p (by omega) (by omega), um_ringF_p (by omega) (by omega), i1, i2, i3]
    exact q14 (k + 1) (by omega)
  · rw [RH h hh, K0]
    split
    · exact Nat.or_lt_two_pow (q15 h hh) (Nat.pow_lt_pow_right (by decide) p1)
    · exact q15 h hh
