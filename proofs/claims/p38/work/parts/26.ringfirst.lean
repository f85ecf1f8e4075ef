theorem um_ring2_1 {f : Nat → Nat} : um_ring2 f 1 = f 1 - 1 := by
  unfold um_ring2 um_goesF
  rw [um_up_ne (by omega), um_up_ne (by omega), um_up_eq rfl]
theorem um_ring2_2 {f : Nat → Nat} : um_ring2 f 2 = f 84 := by
  unfold um_ring2
  rw [um_up_ne (by omega), um_up_eq rfl]
theorem um_ring2_10 {f : Nat → Nat} : um_ring2 f 10 = f 10 + 1 := by
  unfold um_ring2
  rw [um_up_eq rfl]
theorem um_ring2_p {f : Nat → Nat} {q : Nat} (h : 83 ≤ q ∧ q + 3 < 131) : um_ring2 f q = f (q + 3) := by
  unfold um_ring2 um_goesF
  rw [um_up_ne (by omega), um_up_ne (by omega), um_up_ne (by omega), um_mix_in (by omega)]
  unfold um_gs
  rw [if_pos h.2]
theorem um_ringF_1 {f : Nat → Nat} : um_ringF f 1 = f 1 - 1 := by
  unfold um_ringF um_ansF
  split
  · simp (disch := omega) only [um_up_ne, um_ring2_1]
  · split
    · simp (disch := omega) only [um_up_ne, um_mix_out, um_ring2_1]
    · simp (disch := omega) only [um_up_ne, um_ring2_1]
theorem um_ringF_p {f : Nat → Nat} {q : Nat} (h : 83 ≤ q ∧ q + 3 < 131) (h0 : f 83 < 12) : um_ringF f q = f (q + 3) := by
  unfold um_ringF um_ansF
  split
  · simp (disch := omega) only [um_up_ne, um_ring2_p]
  · split
    · simp (disch := omega) only [um_up_ne, um_mix_out, um_ring2_p]
    · simp (disch := omega) only [um_up_ne, um_ring2_p]
theorem um_PL_ring {f ph pr ps : Nat → Nat} {c : Nat} (hI : um_I f c) (hP : um_PL f ph pr ps) (h1 : 0 < f 1) : um_PL (um_ringF f) (um_mix 0 (f 1 - 1) (fun q => ph (q + 1)) ph) (um_mix 0 (f 1 - 1) (fun q => pr (q + 1)) pr) (um_mix 0 (f 1 - 1) (fun q => ps (q + 1)) ps) := by
  obtain ⟨q0, q1, q2, q3, q4, q5, q6, q7, q8, q9, q10, q11, q12, q13, q14, q15⟩ := hI
  have p1 : f 83 < f 0 := (q14 0 h1).1
  intro k hk
  rw [um_ringF_1] at hk
  have h := hP (k + 1) (by omega)
  have i1 : 83 + 3 * k + 3 = 83 + 3 * (k + 1) := by omega
  have i2 : 84 + 3 * k + 3 = 84 + 3 * (k + 1) := by omega
  have i3 : 85 + 3 * k + 3 = 85 + 3 * (k + 1) := by omega
  rw [um_mix_in (by omega), um_mix_in (by omega), um_mix_in (by omega), um_ringF_p (by omega) (by omega), um_ringF_p (by omega) (by omega), um_ringF_p (by omega) (by omega), i1, i2, i3]
  exact h
set_option maxHeartbeats 4000000 in
theorem um_ringFirst {f : Nat → Nat} {c la : Nat} {ph pr ps rd rh rr rs rg oa od oi om op ou : Nat → Nat} (hI : um_I f c) (h1 : 0 < f 1) (hT : um_D f la ph pr ps rd rh rr rs rg oa od oi om op ou) :
    ∃ (la' : Nat) (ph' pr' ps' rd' rh' rr' rs' rg' oa' od' om' ou' : Nat → Nat), ufX7_ringFirst (nI (f 5)) (nI (f 3)) (nI (f 7)) (nI (f 2)) (nI (f 6)) (nI (f 10)) (nI (f 1)) (um_nv ph) (um_nv pr) (um_nv ps) (nI la) (nI (f 9)) (um_nv rd) (um_nv rh) (um_nv rr) (um_nv rs) (um_nv rg) (um_nv oa) (um_nv od) (um_nv oi) (um_nv om) (um_nv ou) = some (nI (um_ringR f), nI (um_ringF f 5), nI (um_ringF f 7), nI (um_ringF f 2), nI (um_ringF f 6), nI (um_ringF f 10), nI (um_ringF f 1), um_nv ph', um_nv pr', um_nv ps', nI la', nI (um_ringF f 9), um_nv rd', um_nv rh', um_nv rr', um_nv rs', um_nv rg', um_nv oa', um_nv od', um_nv om', um_nv ou') ∧ um_D (um_ringF f) la' ph' pr' ps' rd' rh' rr' rs' rg' oa' od' oi om' op ou' := by
  have hset := fun h hh => um_I_set (h := h) hI hh
  obtain ⟨hPL, hAN, hHD, hRP⟩ := hT
  have hPL' := um_PL_ring hI hPL h1
  obtain ⟨q0, q1, q2, q3, q4, q5, q6, q7, q8, q9, q10, q11, q12, q13, q14, q15⟩ := hI
  obtain ⟨p1, p2, p3, p4⟩ := q14 0 h1
  have p1 : f 83 < f 0 := p1
  have p2 : f 84 < 24 := p2
  have p4 : f 85 ≤ 9 := p4
  have hs := hset (f 84) p2
  have w1 : pr 0 = f 83 := (hPL 0 h1).1
  have w2 : ph 0 = f 84 := (hPL 0 h1).2.1
  have w3 : ps 0 = f 85 := (hPL 0 h1).2.2
  have w4 : rg (f 84) = f (211 + f 84) := hHD _ p2
  have hr := q9 (f 83) (by omega)
  obtain ⟨r1, r2, r3, r4, r5, r6⟩ := hRP (f 83) (by omega)
  obtain ⟨hl, hA⟩ := hAN
  cases hb : (f (211 + f 84)).testBit (f 83)
  · by_cases hq : f (12 + 6 * f 83) = 1 ∧ f (13 + 6 * f 83) < f 85
    · -- an answer
      have ER : um_ringR f = 1 := by unfold um_ringR; rw [hb, if_neg (by decide), if_pos hq]
      have EF : um_ringF f = um_ansF (um_ring2 f) (f 83) (f 84) (f 85) := by unfold um_ringF; rw [hb, if_neg (by decide), if_pos hq]
      refine ⟨(la + 1) % 20, um_mix 0 (f 1 - 1) (fun q => ph (q + 1)) ph, um_mix 0 (f 1 - 1) (fun q => pr (q + 1)) pr, um_mix 0 (f 1 - 1) (fun q => ps (q + 1)) ps, um_up rd ((la + 1) % 20) (f 3), um_up rh ((la + 1) % 20) (f 84), um_up rr ((la + 1) % 20) (f 83), um_up rs ((la + 1) % 20) (f 85), um_up rg (f 84) (rg (f 84) ||| 2 ^ f 83), um_up oa (f 83) (oa (f 83) + 1), od, om, um_up ou (f 83) (if 9 ≤ ou (f 83) then 9 else ou (f 83) + 1), ?_, hPL', ?_, ?_, ?_⟩
      · rw [ER, EF]
        have V : ∀ q, (q = 1 ∨ q = 2 ∨ q = 6 ∨ q = 7 ∨ q = 10) → um_ansF (um_ring2 f) (f 83) (f 84) (f 85) q = um_ring2 f q := fun q hq => by
          unfold um_ansF
          simp (disch := omega) only [um_up_ne, um_mix_out]
        have V5 : um_ansF (um_ring2 f) (f 83) (f 84) (f 85) 5 = f 5 + 1 := by
          unfold um_ansF
          simp (disch := omega) only [um_up_ne, um_up_eq, um_mix_out, um_ring2_at]
        have V9 : um_ansF (um_ring2 f) (f 83) (f 84) (f 85) 9 = if 20 ≤ f 9 then 20 else f 9 + 1 := by
          unfold um_ansF
          rw [um_up_eq rfl, um_ring2_at (by omega)]
        rw [V 1 (by omega), V 2 (by omega), V 6 (by omega), V 7 (by omega), V 10 (by omega), V5, V9, um_ring2_1, um_ring2_2, um_ring2_10, um_ring2_at (by omega), um_ring2_at (by omega)]
        unfold ufX7_ringFirst
        simp -implicitDefEqProofs (disch := omega) only [um_l0, um_l1, um_l2, um_l3, um_l4, um_l5, um_l6, um_l7, um_l8, um_l9, um_l10, um_l11, um_l12, um_l16, um_l20, um_l23, um_l24, um_l31, um_l32, um_l35, um_l42, um_l43, um_l45, um_l48, um_l57, um_l58, um_l59, um_l60, um_l61, um_l63, um_l64, um_l68, um_l83, um_l99, um_l100, um_l101, um_l102, um_l103, um_l104, um_l105, um_l106, um_l107, um_l108, um_l109, um_l110, um_l111, um_l112, um_l113, um_l114, um_l115, um_l116, um_l117, um_l118, um_l126, um_l128, um_l130, um_l131, um_l132, um_l133, um_l134, um_l135, um_l180, um_l210, um_l211, um_l235, um_l1645, um_l1880, ↓um_nm, um_b1, um_b2, um_b3, um_b4, um_b5, um_b6, um_b7, um_b8, um_b9, um_b10, um_gd, um_bz0, um_bz1, um_m1, nI_add, pk_mul, um_sub_lt0, um_sub_gt0, um_sub_eq0, um_sub_le0, pk_sub, nI_ltI, nI_leI, nI_eq, nI_clamp, um_nv_at, um_nv_up, um_up_eq, um_up_ne, if_true, if_false, if_pos, if_neg, um_at, um_at0, um_put, um_add, um_removeFirst, w1, w2, w3, w4, um_isIn, hb, um_b2n_f, um_isEnough, r2, r3, hq.1, hq.2, decide_true, Bool.and_true, um_b2n_t, um_answer]
      · -- the answers that are remembered
        rw [EF]
        have U9 : um_ansF (um_ring2 f) (f 83) (f 84) (f 85) 9 = if 20 ≤ f 9 then 20 else f 9 + 1 := by
          unfold um_ansF
          rw [um_up_eq rfl, um_ring2_at (by omega)]
        refine ⟨Nat.mod_lt _ (by decide), fun k hk => ?_⟩
        rw [U9] at hk
        by_cases hk0 : k = 0
        · subst hk0
          have i0 : ((la + 1) % 20 + 20 - 0) % 20 = (la + 1) % 20 := by omega
          rw [i0, um_up_eq rfl, um_up_eq rfl, um_up_eq rfl, um_up_eq rfl]
          unfold um_ansF
          refine ⟨?_, ?_, ?_, ?_⟩ <;> simp (disch := omega) only [um_up_ne, um_up_eq, um_mix_out, um_ring2_at]
        · have hk2 : k - 1 < f 9 := by
            split at hk <;> omega
          have hk3 : k < 20 := by
            split at hk <;> omega
          obtain ⟨a1, a2, a3, a4⟩ := hA (k - 1) hk2
          have i0 : ((la + 1) % 20 + 20 - k) % 20 = (la + 20 - (k - 1)) % 20 := by omega
          have i1 : (la + 20 - (k - 1)) % 20 ≠ (la + 1) % 20 := by omega
          rw [i0, um_up_ne i1, um_up_ne i1, um_up_ne i1, um_up_ne i1, a1, a2, a3, a4]
          unfold um_ansF
          have j1 : 131 + 4 * k - 4 = 131 + 4 * (k - 1) := by omega
          have j2 : 132 + 4 * k - 4 = 132 + 4 * (k - 1) := by omega
          have j3 : 133 + 4 * k - 4 = 133 + 4 * (k - 1) := by omega
          have j4 : 134 + 4 * k - 4 = 134 + 4 * (k - 1) := by omega
          refine ⟨?_, ?_, ?_, ?_⟩ <;> simp (disch := omega) only [um_up_ne, um_up_eq, um_mix_in, um_ring2_at, j1, j2, j3, j4]
      · rw [EF]
        intro h hh
        unfold um_ansF
        by_cases hz : h = f 84
        · subst hz
          rw [um_up_eq rfl, w4]
          simp (disch := omega) only [um_up_ne, um_up_eq, um_mix_out, um_ring2_at]
        · rw [um_up_ne hz, hHD h hh]
          simp (disch := omega) only [um_up_ne, um_up_eq, um_mix_out, um_ring2_at]
      · rw [EF]
        intro r hr'
        obtain ⟨s1, s2, s3, s4, s5, s6⟩ := hRP r hr'
        unfold um_ansF
        by_cases hz : r = f 83
        · subst hz
          rw [um_up_eq rfl, um_up_eq rfl, r3, r4]
          refine ⟨?_, ?_, ?_, ?_, ?_, ?_⟩ <;> simp (disch := omega) only [um_up_ne, um_up_eq, um_mix_out, um_ring2_at, s1, s2, s3, s4, s5, s6]
        · rw [um_up_ne hz, um_up_ne hz]
          refine ⟨?_, ?_, ?_, ?_, ?_, ?_⟩ <;> simp (disch := omega) only [um_up_ne, um_up_eq, um_mix_out, um_ring2_at, s1, s2, s3, s4, s5, s6]
    · -- a miss
      have hz : (decide (f (12 + 6 * f 83) = 1) && decide (f (13 + 6 * f 83) < f 85)) = false := by
        rw [← Bool.decide_and]
        exact decide_eq_false hq
      have ER : um_ringR f = 0 := by unfold um_ringR; rw [hb, if_neg (by decide), if_neg hq]
      have EF : um_ringF f = um_up (um_up (um_ring2 f) (15 + 6 * f 83) (f (15 + 6 * f 83) + 1)) 6 (f 6 + 1) := by unfold um_ringF; rw [hb, if_neg (by decide), if_neg hq]
      refine ⟨la, um_mix 0 (f 1 - 1) (fun q => ph (q + 1)) ph, um_mix 0 (f 1 - 1) (fun q => pr (q + 1)) pr, um_mix 0 (f 1 - 1) (fun q => ps (q + 1)) ps, rd, rh, rr, rs, rg, oa, od, um_up om (f 83) (om (f 83) + 1), ou, ?_, hPL', ?_, ?_, ?_⟩
      · rw [ER, EF]
        unfold ufX7_ringFirst ufX7_miss
        simp -implicitDefEqProofs (disch := omega) only [um_l0, um_l1, um_l2, um_l3, um_l4, um_l5, um_l6, um_l7, um_l8, um_l9, um_l10, um_l11, um_l12, um_l16, um_l20, um_l23, um_l24, um_l31, um_l32, um_l35, um_l42, um_l43, um_l45, um_l48, um_l57, um_l58, um_l59, um_l60, um_l61, um_l63, um_l64, um_l68, um_l83, um_l99, um_l100, um_l101, um_l102, um_l103, um_l104, um_l105, um_l106, um_l107, um_l108, um_l109, um_l110, um_l111, um_l112, um_l113, um_l114, um_l115, um_l116, um_l117, um_l118, um_l126, um_l128, um_l130, um_l131, um_l132, um_l133, um_l134, um_l135, um_l180, um_l210, um_l211, um_l235, um_l1645, um_l1880, ↓um_nm, um_b1, um_b2, um_b3, um_b4, um_b5, um_b6, um_b7, um_b8, um_b9, um_b10, um_gd, um_bz0, um_bz1, um_m1, nI_add, pk_mul, um_sub_lt0, um_sub_gt0, um_sub_eq0, um_sub_le0, pk_sub, nI_ltI, nI_leI, nI_eq, nI_clamp, um_nv_at, um_nv_up, um_up_eq, um_up_ne, if_true, if_false, if_pos, if_neg, um_at, um_at0, um_put, um_add, um_removeFirst, w1, w2, w3, w4, um_isIn, hb, um_b2n_f, um_isEnough, r2, r3, hz, um_ring2_1, um_ring2_2, um_ring2_10, um_ring2_at]
      · rw [EF]
        refine ⟨hl, fun k hk => ?_⟩
        simp (disch := omega) only [um_up_ne, um_ring2_at] at hk
        obtain ⟨a1, a2, a3, a4⟩ := hA k hk
        rw [a1, a2, a3, a4]
        refine ⟨?_, ?_, ?_, ?_⟩ <;> simp (disch := omega) only [um_up_ne, um_ring2_at]
      · rw [EF]
        intro h hh
        rw [hHD h hh]
        simp (disch := omega) only [um_up_ne, um_ring2_at]
      · rw [EF]
        intro r hr'
        obtain ⟨s1, s2, s3, s4, s5, s6⟩ := hRP r hr'
        by_cases hy : r = f 83
        · subst hy
          rw [um_up_eq rfl, r5]
          refine ⟨?_, ?_, ?_, ?_, ?_, ?_⟩ <;> simp (disch := omega) only [um_up_ne, um_up_eq, um_ring2_at, s1, s2, s3, s4, s5, s6]
        · rw [um_up_ne hy]
          refine ⟨?_, ?_, ?_, ?_, ?_, ?_⟩ <;> simp (disch := omega) only [um_up_ne, um_up_eq, um_ring2_at, s1, s2, s3, s4, s5, s6]
  · -- a double
    have ER : um_ringR f = 2 := by unfold um_ringR; rw [hb, if_pos rfl]
    have EF : um_ringF f = um_up (um_up (um_ring2 f) (16 + 6 * f 83) (f (16 + 6 * f 83) + 1)) 7 (f 7 + 1) := by unfold um_ringF; rw [hb, if_pos rfl]
    refine ⟨la, um_mix 0 (f 1 - 1) (fun q => ph (q + 1)) ph, um_mix 0 (f 1 - 1) (fun q => pr (q + 1)) pr, um_mix 0 (f 1 - 1) (fun q => ps (q + 1)) ps, rd, rh, rr, rs, rg, oa, um_up od (f 83) (od (f 83) + 1), om, ou, ?_, hPL', ?_, ?_, ?_⟩
    · rw [ER, EF]
      unfold ufX7_ringFirst
      simp -implicitDefEqProofs (disch := omega) only [um_l0, um_l1, um_l2, um_l3, um_l4, um_l5, um_l6, um_l7, um_l8, um_l9, um_l10, um_l11, um_l12, um_l16, um_l20, um_l23, um_l24, um_l31, um_l32, um_l35, um_l42, um_l43, um_l45, um_l48, um_l57, um_l58, um_l59, um_l60, um_l61, um_l63, um_l64, um_l68, um_l83, um_l99, um_l100, um_l101, um_l102, um_l103, um_l104, um_l105, um_l106, um_l107, um_l108, um_l109, um_l110, um_l111, um_l112, um_l113, um_l114, um_l115, um_l116, um_l117, um_l118, um_l126, um_l128, um_l130, um_l131, um_l132, um_l133, um_l134, um_l135, um_l180, um_l210, um_l211, um_l235, um_l1645, um_l1880, ↓um_nm, um_b1, um_b2, um_b3, um_b4, um_b5, um_b6, um_b7, um_b8, um_b9, um_b10, um_gd, um_bz0, um_bz1, um_m1, nI_add, pk_mul, um_sub_lt0, um_sub_gt0, um_sub_eq0, um_sub_le0, pk_sub, nI_ltI, nI_leI, nI_eq, nI_clamp, um_nv_at, um_nv_up, um_up_eq, um_up_ne, if_true, if_false, if_pos, if_neg, um_at, um_at0, um_put, um_add, um_removeFirst, w1, w2, w3, w4, um_isIn, hb, um_b2n_t, um_ring2_1, um_ring2_2, um_ring2_10, um_ring2_at]
    · rw [EF]
      refine ⟨hl, fun k hk => ?_⟩
      simp (disch := omega) only [um_up_ne, um_ring2_at] at hk
      obtain ⟨a1, a2, a3, a4⟩ := hA k hk
      rw [a1, a2, a3, a4]
      refine ⟨?_, ?_, ?_, ?_⟩ <;> simp (disch := omega) only [um_up_ne, um_ring2_at]
    · rw [EF]
      intro h hh
      rw [hHD h hh]
      simp (disch := omega) only [um_up_ne, um_ring2_at]
    · rw [EF]
      intro r hr'
      obtain ⟨s1, s2, s3, s4, s5, s6⟩ := hRP r hr'
      by_cases hy : r = f 83
      · subst hy
        rw [um_up_eq rfl, r6]
        refine ⟨?_, ?_, ?_, ?_, ?_, ?_⟩ <;> simp (disch := omega) only [um_up_ne, um_up_eq, um_ring2_at, s1, s2, s3, s4, s5, s6]
      · rw [um_up_ne hy]
        refine ⟨?_, ?_, ?_, ?_, ?_, ?_⟩ <;> simp (disch := omega) only [um_up_ne, um_up_eq, um_ring2_at, s1, s2, s3, s4, s5, s6]
