/-! ===== what is written: the class and the reference do alike ===== -/
section UM48
variable {f ph pr ps rd rh rr rs rg oa od oi om op ou : Nat → Nat} {c la l : Nat} {lc lm : Nat → Int32} {x : Int32}
def um_L (l : Nat) (lc lm : Nat → Int32) : Prop := l ≤ 128 ∧ ∀ k, k < l → lc k = lm k
theorem um_L0 {lc lm : Nat → Int32} : um_L 0 lc lm := ⟨by decide, fun k hk => absurd hk (Nat.not_lt_zero k)⟩
theorem um_upd_at {f : Nat → Int32} {i : Nat} {x : Int32} : upd f i x i = x := by
  unfold upd
  exact if_pos rfl
theorem um_upd_other {f : Nat → Int32} {i j : Nat} {x : Int32} (h : j ≠ i) : upd f i x j = f j := by
  unfold upd
  exact if_neg h
theorem um_lw (x : Int32) (hL : um_L l lc lm) (h : l < 128) : ∃ lc' lm', ufX2_write (nI l) lc x = some (nI (l + 1), lc') ∧ ufX9_writes (nI l) lm x = some (nI (l + 1), lm') ∧ um_L (l + 1) lc' lm' := by
  refine ⟨upd lc l x, upd lm l x, ?_, ?_, by omega, fun k hk => ?_⟩
  · unfold ufX2_write
    rw [um_putI h (by decide), um_b1, nI_1, if_neg (show ¬ (128 : Int32) < nI (l + 1) from nI_nlt (a := 128) (by omega) (by decide)), um_nm]
  · unfold ufX9_writes
    rw [um_gd (by omega) (by decide), nI_clamp (by omega), um_nm, nI_1]
  · by_cases e : k = l
    · subst e
      rw [um_upd_at, um_upd_at]
    · rw [um_upd_other e, um_upd_other e]
      exact hL.2 k (by omega)
theorem um_ln (x : Int32) (hL : um_L l lc lm) (h : l + 2 ≤ 128) : ∃ (e : Nat) (lc' lm' : Nat → Int32), ufX2_writeNumber (nI l) lc x = some (nI (l + e), lc') ∧ ufX9_writesNumber (nI l) lm x = some (nI (l + e), lm') ∧ um_L (l + e) lc' lm' ∧ 1 ≤ e ∧ e ≤ 2 ∧ (x < 10 → e = 1) := by
  unfold ufX2_writeNumber ufX9_writesNumber
  by_cases hx : x < 10
  · obtain ⟨lc', lm', e1, e2, e3⟩ := um_lw (48 + (x - x / 10 * 10)) hL (by omega)
    refine ⟨1, lc', lm', ?_, ?_, e3, by decide, by decide, fun _ => rfl⟩
    · rw [if_pos hx]
      unfold ujX2_writeNumber_17
      rw [e1, um_b2]
    · rw [if_pos hx]
      unfold ujX9_writesNumber_17
      rw [e2, um_b2]
  · obtain ⟨lc', lm', e1, e2, e3⟩ := um_lw (48 + (x / 10)) hL (by omega)
    obtain ⟨lc2, lm2, g1, g2, g3⟩ := um_lw (48 + (x - x / 10 * 10)) e3 (by omega)
    refine ⟨2, lc2, lm2, ?_, ?_, g3, by decide, by decide, fun h => absurd h hx⟩
    · rw [if_neg hx, e1, um_b2]
      unfold ujX2_writeNumber_17
      rw [g1, um_b2]
    · rw [if_neg hx, e2, um_b2]
      unfold ujX9_writesNumber_17
      rw [g2, um_b2]
theorem um_lL63 {r : Nat} (hr : r < 12) : ∀ (k i fu l : Nat) (lc lm : Nat → Int32), i + k = f (13 + 6 * r) → f (13 + 6 * r) ≤ 9 → k < fu → um_L l lc lm → l + k ≤ 128 →
    ∃ (lc' lm' : Nat → Int32), ulX8_tellRope_81 (nI (f (13 + 6 * r))) fu (nI l) lc (nI i) = some (nI (l + k), lc') ∧ ulX9_tell_63 (um_nv f) (nI r) fu (nI l) lm (nI i) = ulX9_tell_91 (um_nv f) (nI r) ub_F (nI (l + k)) lm' 0 ∧ um_L (l + k) lc' lm'
  | k, i, 0, _, _, _, _, _, h, _, _ => absurd h (Nat.not_lt_zero k)
  | 0, i, fu + 1, l, lc, lm, h1, h9, _, hL, _ => by
    have ex : ufX9_at (nI r) 2 = some (nI (13 + 6 * r)) := by
      rw [show (2 : Int32) = nI 2 from rfl, um_x_at, show 11 + 6 * r + 2 = 13 + 6 * r by omega]
    refine ⟨lc, lm, ?_, ?_, hL⟩
    · rw [ulX8_tellRope_81, if_pos (nI_le (by omega) (by omega))]
      rfl
    · rw [ulX9_tell_63, ex, um_b1, um_gd (by omega) (by decide), nI_clamp (by omega), um_nv_at, if_pos (nI_le (by omega) (by omega))]
      rfl
  | k + 1, i, fu + 1, l, lc, lm, h1, h9, hk, hL, h128 => by
    have ex : ufX9_at (nI r) 2 = some (nI (13 + 6 * r)) := by
      rw [show (2 : Int32) = nI 2 from rfl, um_x_at, show 11 + 6 * r + 2 = 13 + 6 * r by omega]
    obtain ⟨lc1, lm1, e1, e2, e3⟩ := um_lw 126 hL (by omega)
    obtain ⟨lc', lm', g1, g2, g3⟩ := um_lL63 hr k (i + 1) fu (l + 1) lc1 lm1 (by omega) h9 (by omega) e3 (by omega)
    have el : l + 1 + k = l + (k + 1) := by omega
    rw [el] at g1 g2 g3
    refine ⟨lc', lm', ?_, ?_, g3⟩
    · rw [ulX8_tellRope_81, if_neg (nI_ge (by omega) (by omega)), e1, um_b2, nI_1]
      exact g1
    · rw [ulX9_tell_63, ex, um_b1, um_gd (by omega) (by decide), nI_clamp (by omega), um_nv_at, if_neg (nI_ge (by omega) (by omega)), e2, um_b2, nI_1]
      exact g2
theorem um_lL91 {r : Nat} (hn : f 1 ≤ 16) (hr : r < 12) (hPL : um_PL f ph pr ps) (hb : ∀ k, k < f 1 → f (83 + 3 * k) < 12) : ∀ (k i fu l : Nat) (lc lm : Nat → Int32), i + k = f 1 → k < fu → um_L l lc lm → l + 6 * k ≤ 128 →
    ∃ (l' : Nat) (lc' lm' : Nat → Int32), ulX8_tellPulls_2 (nI (f 1)) (um_nv ph) (um_nv pr) (um_nv ps) (nI r) fu (nI l) lc (nI i) = some (nI l', lc') ∧ ulX9_tell_91 (um_nv f) (nI r) fu (nI l) lm (nI i) = some (nI l', nI l', lm') ∧ um_L l' lc' lm'
  | k, i, 0, _, _, _, _, h, _, _ => absurd h (Nat.not_lt_zero k)
  | 0, i, fu + 1, l, lc, lm, h1, _, hL, _ => by
    refine ⟨l, lc, lm, ?_, ?_, hL⟩
    · rw [ulX8_tellPulls_2, if_pos (nI_le (by omega) (by omega))]
    · rw [ulX9_tell_91, show (1 : Int32) = nI 1 from rfl, um_gd (by decide) (by decide), nI_clamp (by decide), um_nv_at, if_pos (nI_le (by omega) (by omega))]
  | k + 1, i, fu + 1, l, lc, lm, h1, hk, hL, h128 => by
    obtain ⟨s1, s2, s3⟩ := hPL i (by omega)
    have hbi := hb i (by omega)
    have p0 : ufX9_pulled (um_nv f) (nI i) 0 = some (nI (f (83 + 3 * i))) := um_pulled (j := 0) (by omega)
    have p1 : ufX9_pulled (um_nv f) (nI i) 1 = some (nI (f (84 + 3 * i))) := by
      rw [show (1 : Int32) = nI 1 from rfl, um_pulled (by omega), show 83 + 3 * i + 1 = 84 + 3 * i by omega]
    have p2 : ufX9_pulled (um_nv f) (nI i) 2 = some (nI (f (85 + 3 * i))) := by
      rw [show (2 : Int32) = nI 2 from rfl, um_pulled (by omega), show 83 + 3 * i + 2 = 85 + 3 * i by omega]
    have hM : ulX9_tell_91 (um_nv f) (nI r) (fu + 1) (nI l) lm (nI i) = if nI (f (83 + 3 * i)) = nI r then ub_b2 (ufX9_writes (nI l) lm 64) fun ym_lineN_12 ym_line_13 => ub_b2 (ufX9_writesNumber ym_lineN_12 ym_line_13 (nI (f (84 + 3 * i)))) fun ym_lineN_15 ym_line_16 => ub_b2 (ufX9_writes ym_lineN_15 ym_line_16 42) fun ym_lineN_17 ym_line_18 => ub_b2 (ufX9_writesNumber ym_lineN_17 ym_line_18 (nI (f (85 + 3 * i)))) fun ym_lineN_20 ym_line_21 => ulX9_tell_91 (um_nv f) (nI r) fu ym_lineN_20 ym_line_21 (nI (i + 1)) else ulX9_tell_91 (um_nv f) (nI r) fu (nI l) lm (nI (i + 1)) := by
      rw [ulX9_tell_91, p0, p1, p2, um_b1, nI_1]
      exact (um_gd (n := 1) (by decide) (by decide)).trans (if_neg (show ¬ nI (f 1) ≤ nI i from nI_ge (by omega) (by omega)))
    have hC : ulX8_tellPulls_2 (nI (f 1)) (um_nv ph) (um_nv pr) (um_nv ps) (nI r) (fu + 1) (nI l) lc (nI i) = if nI (f (83 + 3 * i)) = nI r then ub_b2 (ufX2_write (nI l) lc 64) fun ym_lineN_12 ym_line_13 => ub_b2 (ufX2_writeNumber ym_lineN_12 ym_line_13 (nI (f (84 + 3 * i)))) fun ym_lineN_15 ym_line_16 => ub_b2 (ufX2_write ym_lineN_15 ym_line_16 42) fun ym_lineN_17 ym_line_18 => ub_b2 (ufX2_writeNumber ym_lineN_17 ym_line_18 (nI (f (85 + 3 * i)))) fun ym_lineN_20 ym_line_21 => ulX8_tellPulls_2 (nI (f 1)) (um_nv ph) (um_nv pr) (um_nv ps) (nI r) fu ym_lineN_20 ym_line_21 (nI (i + 1)) else ulX8_tellPulls_2 (nI (f 1)) (um_nv ph) (um_nv pr) (um_nv ps) (nI r) fu (nI l) lc (nI (i + 1)) := by
      rw [ulX8_tellPulls_2, if_neg (nI_ge (show i < f 1 by omega) (by omega)), um_at (show i < 16 by omega) (by decide), um_at (show i < 16 by omega) (by decide), um_at (show i < 16 by omega) (by decide), um_b1, nI_1, s1, s2, s3]
      rfl
    rw [hM, hC]
    by_cases hq : nI (f (83 + 3 * i)) = nI r
    · rw [if_pos hq, if_pos hq]
      obtain ⟨lc1, lm1, e1, e2, e3⟩ := um_lw 64 hL (by omega)
      obtain ⟨n1, lc2, lm2, g1, g2, g3, g4, g5, _⟩ := um_ln (nI (f (84 + 3 * i))) e3 (by omega)
      obtain ⟨lc3, lm3, i1, i2, i3⟩ := um_lw 42 g3 (by omega)
      obtain ⟨n2, lc4, lm4, j1, j2, j3, j4, j5, _⟩ := um_ln (nI (f (85 + 3 * i))) i3 (by omega)
      rw [e1, um_b2, g1, um_b2, i1, um_b2, j1, um_b2, e2, um_b2, g2, um_b2, i2, um_b2, j2, um_b2]
      exact um_lL91 hn hr hPL hb k (i + 1) fu _ lc4 lm4 (by omega) (by omega) j3 (by omega)
    · rw [if_neg hq, if_neg hq]
      exact um_lL91 hn hr hPL hb k (i + 1) fu l lc lm (by omega) (by omega) hL (by omega)
theorem um_f_tell (hL : um_L l lc lm) (hI : um_I f c) (hT : um_D f la ph pr ps rd rh rr rs rg oa od oi om op ou) :
    ∃ (y : Int32) (l' : Nat) (lc' lm' : Nat → Int32), ufX8_tell (nI l) lc (nI (f 1)) (um_nv ph) (um_nv pr) (um_nv ps) (nI (f 0)) (um_nv oi) (um_nv op) (um_nv ou) x = some (y, nI l', lc') ∧ ufX9_tell (nI l) lm (um_nv f) x = some (y, nI l', lm') ∧ um_L l' lc' lm' := by
  obtain ⟨hPL, hAN, hHD, hRP⟩ := hT
  obtain ⟨q0, q1, q2, q3, q4, q5, q6, q7, q8, q9, q10, q11, q12, q13, q14, q15⟩ := hI
  unfold ufX8_tell ufX9_tell
  rw [um_has5 (by omega), um_isRope (by omega), um_b1, um_b1]
  cases hx : um_in x (f 0)
  · exact ⟨-1011, l, lc, lm, if_pos rfl, if_pos rfl, hL⟩
  · obtain ⟨r, hr, rfl⟩ := um_in_of (by omega) hx
    obtain ⟨s1, s2, s3, -⟩ := hRP r (by omega)
    obtain ⟨b1, b2, b3⟩ := q9 r (by omega)
    rw [if_neg (show ¬ nI (um_b2n true) = (0 : Int32) by decide), if_neg (show ¬ nI (um_b2n true) = (0 : Int32) by decide)]
    have a0 : ufX9_at (nI r) 0 = some (nI (11 + 6 * r)) := um_x_at (b := 0)
    have a1 : ufX9_at (nI r) 1 = some (nI (12 + 6 * r)) := by
      rw [show (1 : Int32) = nI 1 from rfl, um_x_at, show 11 + 6 * r + 1 = 12 + 6 * r by omega]
    have c0 : ufX8_at 12 (um_nv op) (nI r) = some (nI (f (11 + 6 * r))) := by rw [um_at (by omega) (by decide), s1]
    have c1 : ufX8_at 12 (um_nv oi) (nI r) = some (nI (f (12 + 6 * r))) := by rw [um_at (by omega) (by decide), s2]
    have c2 : ufX8_at 12 (um_nv ou) (nI r) = some (nI (f (13 + 6 * r))) := by rw [um_at (by omega) (by decide), s3]
    obtain ⟨n1, lc1, lm1, e1, e2, e3, e4, e5, _⟩ := um_ln (nI r) (um_L0 (lc := lc) (lm := lm)) (by omega)
    rw [Nat.zero_add] at e1 e2 e3
    obtain ⟨lc2, lm2, g1, g2, g3⟩ := um_lw 58 e3 (by omega)
    obtain ⟨n2, lc3, lm3, i1, i2, i3, i4, i5, _⟩ := um_ln (nI (f (11 + 6 * r))) g3 (by omega)
    have e1' : ufX2_writeNumber 0 lc (nI r) = some (nI n1, lc1) := e1
    have e2' : ufX9_writesNumber 0 lm (nI r) = some (nI n1, lm1) := e2
    have rest : ∀ (l3 : Nat) (lc4 lm4 : Nat → Int32), um_L l3 lc4 lm4 → l3 ≤ 20 → ∃ (y : Int32) (l' : Nat) (lc' lm' : Nat → Int32), (ub_b2 (ujX8_tellRope_64 (nI l3) lc4 (um_nv ou) (nI r)) fun ym_line_length_2 ym_line_codes_3 => ub_b2 (ufX8_tellPulls ym_line_length_2 ym_line_codes_3 (nI (f 1)) (um_nv ph) (um_nv pr) (um_nv ps) (nI r)) fun ym_line_length_4 ym_line_codes_5 => some (ym_line_length_4, ym_line_length_4, ym_line_codes_5)) = some (y, nI l', lc') ∧ ulX9_tell_63 (um_nv f) (nI r) ub_F (nI l3) lm4 0 = some (y, nI l', lm') ∧ um_L l' lc' lm' := by
      intro l3 lc4 lm4 h3 hl3
      obtain ⟨lc5, lm5, j1, j2, j3⟩ := um_lL63 (f := f) (r := r) (by omega) (f (13 + 6 * r)) 0 ub_F l3 lc4 lm4 (Nat.zero_add _) b3 (Nat.lt_of_le_of_lt b3 (by decide)) h3 (by omega)
      obtain ⟨l6, lc6, lm6, k1, k2, k3⟩ := um_lL91 (f := f) (r := r) q2 (by omega) hPL (fun k hk => by have := (q14 k hk).1; omega) (f 1) 0 ub_F (l3 + f (13 + 6 * r)) lc5 lm5 (Nat.zero_add _) (Nat.lt_of_le_of_lt q2 (by decide)) j3 (by omega)
      refine ⟨nI l6, l6, lc6, lm6, ?_, ?_, k3⟩
      · unfold ujX8_tellRope_64 ufX8_tellPulls
        rw [c2, um_b1, show (0 : Int32) = nI 0 from rfl, j1, um_b2, k1, um_b2]
      · rw [show (0 : Int32) = nI 0 from rfl, j2]
        exact k2
    unfold ufX8_tellRope
    rw [e1', e2', um_b2, um_b2, g1, g2, um_b2, um_b2, c0, a0, um_b1, um_b1, um_gd (show 11 + 6 * r < 235 by omega) (by decide), nI_clamp (by omega), um_nv_at, i1, i2, um_b2, um_b2, c1, a1, um_b1, um_b1, um_gd (show 12 + 6 * r < 235 by omega) (by decide), nI_clamp (by omega), um_nv_at]
    by_cases ho : nI (f (12 + 6 * r)) = 0
    · obtain ⟨lc4, lm4, j1, j2, j3⟩ := um_lw 35 i3 (by omega)
      rw [if_pos ho, if_pos ho, j1, j2, um_b2, um_b2]
      exact rest _ lc4 lm4 j3 (by omega)
    · rw [if_neg ho, if_neg ho]
      exact rest _ lc3 lm3 i3 (by omega)
theorem um_gI_lt {b : Nat} (h : b ≤ 8) : um_gI b < 10 := by
  unfold um_gI
  split
  · decide
  · exact nI_lt (b := 10) (by omega) (by decide)
theorem um_gp_fst {W G : Nat → Nat} : ∀ i, (um_gp W G i).1 ≤ i
  | 0 => Nat.le_refl _
  | i + 1 => by
    rw [um_gp]
    split
    · exact Nat.le_refl _
    · exact Nat.le_succ_of_le (um_gp_fst i)
theorem um_guess_lt {P : Nat → Nat} {n H : Nat} : um_guess P n H < 10 := um_gI_lt (Nat.le_trans (um_gp_fst 4) (by decide))
theorem um_lL7 (hI : um_I f c) (hHD : um_HD f rg) (hp : ∀ r, r < 12 → op r = f (11 + 6 * r)) : ∀ (k i fu l : Nat) (lc lm : Nat → Int32), i + k = 24 → k < fu → um_L l lc lm → l + 5 * k ≤ 120 →
    ∃ (l' : Nat) (lc' lm' : Nat → Int32), ulX8_tellDay_10 (um_nv rg) (nI (f 0)) (um_nv op) fu (nI l) lc (nI i) = some (nI l', nI l', lc') ∧ ulX9_tellDay_7 (um_nv f) fu (nI l) lm (nI i) = some (nI l', nI l', lm') ∧ um_L l' lc' lm'
  | k, i, 0, _, _, _, _, h, _, _ => absurd h (Nat.not_lt_zero k)
  | 0, i, fu + 1, l, lc, lm, h1, _, hL, _ => by
    refine ⟨l, lc, lm, ?_, ?_, hL⟩
    · rw [ulX8_tellDay_10, if_pos (show (24 : Int32) ≤ nI i from nI_le (a := 24) (by omega) (by omega))]
    · rw [ulX9_tellDay_7, if_pos (show (24 : Int32) ≤ nI i from nI_le (a := 24) (by omega) (by omega))]
  | k + 1, i, fu + 1, l, lc, lm, h1, hk, hL, h128 => by
    have hi : i < 24 := by omega
    obtain ⟨u1, -, u3⟩ := um_guess8 hI hHD hp hi
    have hM : ulX9_tellDay_7 (um_nv f) (fu + 1) (nI l) lm (nI i) = if nI (f (211 + i)) = 0 then ulX9_tellDay_7 (um_nv f) fu (nI l) lm (nI (i + 1)) else if nI l ≤ 0 then ujX9_tellDay_42 (fun ym_lineN' ym_line' l1' => ulX9_tellDay_7 (um_nv f) fu ym_lineN' ym_line' l1') (nI l) lm (um_nv f) (nI i) else ub_b2 (ufX9_writes (nI l) lm 32) fun ym_lineN_8 ym_line_9 => ujX9_tellDay_42 (fun ym_lineN' ym_line' l1' => ulX9_tellDay_7 (um_nv f) fu ym_lineN' ym_line' l1') ym_lineN_8 ym_line_9 (um_nv f) (nI i) := by
      rw [ulX9_tellDay_7, if_neg (show ¬ (24 : Int32) ≤ nI i from nI_ge (b := 24) hi (by decide)), show (211 : Int32) = nI 211 from rfl, nI_add, um_gd (by omega) (by decide), nI_clamp (by omega), um_nv_at, nI_1]
    have hC : ulX8_tellDay_10 (um_nv rg) (nI (f 0)) (um_nv op) (fu + 1) (nI l) lc (nI i) = if nI (f (211 + i)) = 0 then ulX8_tellDay_10 (um_nv rg) (nI (f 0)) (um_nv op) fu (nI l) lc (nI (i + 1)) else ub_b2 (ufX8_tellHour (nI l) lc (um_nv rg) (nI (f 0)) (um_nv op) (nI i)) fun ym_line_length_2 ym_line_codes_3 => ulX8_tellDay_10 (um_nv rg) (nI (f 0)) (um_nv op) fu ym_line_length_2 ym_line_codes_3 (nI (i + 1)) := by
      rw [ulX8_tellDay_10, if_neg (show ¬ (24 : Int32) ≤ nI i from nI_ge (b := 24) hi (by decide)), um_at hi (by decide), um_b1, hHD i hi, nI_1]
    rw [hM, hC]
    by_cases hz : nI (f (211 + i)) = 0
    · rw [if_pos hz, if_pos hz]
      exact um_lL7 hI hHD hp k (i + 1) fu l lc lm (by omega) (by omega) hL (by omega)
    · rw [if_neg hz, if_neg hz]
      unfold ufX8_tellHour
      have rest : ∀ (l1 : Nat) (lc1 lm1 : Nat → Int32), um_L l1 lc1 lm1 → l1 ≤ l + 1 → ∃ (l' : Nat) (lc' lm' : Nat → Int32), (ub_b2 (ujX8_tellHour_19 (nI l1) lc1 (um_nv rg) (nI (f 0)) (um_nv op) (nI i)) fun ym_line_length_2 ym_line_codes_3 => ulX8_tellDay_10 (um_nv rg) (nI (f 0)) (um_nv op) fu ym_line_length_2 ym_line_codes_3 (nI (i + 1))) = some (nI l', nI l', lc') ∧ ujX9_tellDay_42 (fun ym_lineN' ym_line' l1' => ulX9_tellDay_7 (um_nv f) fu ym_lineN' ym_line' l1') (nI l1) lm1 (um_nv f) (nI i) = some (nI l', nI l', lm') ∧ um_L l' lc' lm' := by
        intro l1 lc1 lm1 hL1 hl1
        obtain ⟨n1, lc2, lm2, e1, e2, e3, e4, e5, _⟩ := um_ln (nI i) hL1 (by omega)
        obtain ⟨lc3, lm3, g1, g2, g3⟩ := um_lw 61 e3 (by omega)
        obtain ⟨n2, lc4, lm4, i1, i2, i3, i4, i5, i6⟩ := um_ln (um_guess (um_pa f) (f 0) (f (211 + i))) g3 (by omega)
        have i7 := i6 um_guess_lt
        subst i7
        obtain ⟨l', lc', lm', j1, j2, j3⟩ := um_lL7 hI hHD hp k (i + 1) fu _ lc4 lm4 (by omega) (by omega) i3 (by omega)
        refine ⟨l', lc', lm', ?_, ?_, j3⟩
        · unfold ujX8_tellHour_19
          rw [e1, um_b2, g1, um_b2, u1, um_b1, i1, um_b2, um_b2]
          exact j1
        · unfold ujX9_tellDay_42
          rw [e2, um_b2, g2, um_b2, u3, um_b1, i2, um_b2, nI_1]
          exact j2
      by_cases hl : nI l ≤ 0
      · rw [if_pos hl, if_pos hl]
        exact rest l lc lm hL (by omega)
      · rw [if_neg hl, if_neg hl]
        obtain ⟨lc1, lm1, e1, e2, e3⟩ := um_lw 32 hL (by omega)
        rw [e1, e2, um_b2, um_b2]
        exact rest _ lc1 lm1 e3 (by omega)
theorem um_f_tellDay (hL : um_L l lc lm) (hI : um_I f c) (hT : um_D f la ph pr ps rd rh rr rs rg oa od oi om op ou) :
    ∃ (y : Int32) (l' : Nat) (lc' lm' : Nat → Int32), ufX8_tellDay (nI l) lc (um_nv rg) (nI (f 0)) (um_nv op) = some (y, nI l', lc') ∧ ufX9_tellDay (nI l) lm (um_nv f) = some (y, nI l', lm') ∧ um_L l' lc' lm' := by
  obtain ⟨hPL, hAN, hHD, hRP⟩ := hT
  obtain ⟨l', lc', lm', e1, e2, e3⟩ := um_lL7 hI hHD (fun r hr => (hRP r hr).1) 24 0 ub_F 0 lc lm rfl (by decide) um_L0 (by decide)
  exact ⟨nI l', l', lc', lm', e1, e2, e3⟩
theorem um_in_out {x : Int32} {n : Nat} (h : um_in x n = false) : x < 0 ∨ nI n ≤ x := by
  unfold um_in at h
  by_cases h0 : x < 0
  · exact Or.inl h0
  · rw [decide_eq_true h0, Bool.true_and] at h
    exact Or.inr (Int32.not_lt.mp (of_decide_eq_false h))
theorem um_f_character (hL : um_L l lc lm) : ∃ y, ufX8_character (nI l) lc x = some y ∧ ufX9_character (nI l) lm x = some y := by
  have hl := hL.1
  unfold ufX8_character ufX9_character
  have e := um_isIn0 (x := x) (n := l) (by omega)
  rw [show nI l - (1 : Int32) = nI l - nI 1 from rfl, show ufX9_isIn x 0 (nI l - nI 1) = some (nI (um_b2n (um_in x l))) from e, um_b1]
  cases hx : um_in x l
  · refine ⟨-1011, ?_, if_pos rfl⟩
    rcases um_in_out hx with h | h
    · rw [if_pos h]
    · by_cases h0 : x < 0
      · rw [if_pos h0]
      · rw [if_neg h0, if_pos h]
  · obtain ⟨j, hj, rfl⟩ := um_in_of (by omega) hx
    refine ⟨lc j, ?_, ?_⟩
    · rw [if_neg (nI_pos (by omega)), if_neg (nI_ge hj (by omega)), um_atI (by omega) (by decide), um_b1]
    · rw [if_neg (show ¬ nI (um_b2n true) = (0 : Int32) by decide), um_gd (by omega) (by decide), nI_clamp (by omega), hL.2 j hj]
theorem um_f_reason {lr ld w d : Int32} (hR : um_RS lr ld w d) : ∃ y, ufX8_reason ld lr x = some y ∧ ufX9_reason d w x = some y := by
  unfold ufX8_reason ufX9_reason
  rcases hR with ⟨rfl, rfl, rfl⟩ | ⟨h, rfl, rfl⟩
  · refine ⟨-1015, ?_, if_pos rfl⟩
    split <;> rfl
  · rw [if_neg h]
    split
    · exact ⟨_, rfl, rfl⟩
    · exact ⟨_, rfl, rfl⟩
theorem um_f_append {t : Nat} {g : Nat → Nat} {tc tx : Nat → Int32} (hX : um_X t g tc tx) :
    ∃ (y : Int32) (t' : Nat) (g' : Nat → Nat) (tc' tx' : Nat → Int32), ufX8_append (nI t) tc x = some (y, nI t', tc') ∧ ufX9_append (nI t) tx x = some (y, nI t', tx') ∧ um_X t' g' tc' tx' := by
  have h60 := hX.1
  unfold ufX8_append ufX9_append ufX9_isIn
  by_cases h1 : x < 32
  · exact ⟨-1012, t, g, tc, tx, by rw [if_pos h1], by rw [if_pos h1, um_b1, if_pos rfl], hX⟩
  · rw [if_neg h1, if_neg h1]
    by_cases h2 : x ≤ 126
    · rw [if_pos h2, if_neg (show ¬ (126 : Int32) < x from Int32.not_lt.mpr h2), um_b1, if_neg (show ¬ (1 : Int32) = 0 by decide)]
      by_cases h3 : t < 60
      · have hx0 : ¬ x < 0 := fun h => h1 (Int32.lt_trans h (by decide))
        obtain ⟨v, hv, rfl⟩ := nI_of hx0
        have hv1 : v ≤ 126 := by
          apply Nat.le_of_not_lt
          intro h
          exact (show ¬ nI v ≤ nI 126 from nI_ge h hv) h2
        have hv2 : 32 ≤ v := by
          apply Nat.le_of_not_lt
          intro h
          exact h1 (nI_lt (b := 32) h (by decide))
        refine ⟨nI (t + 1), t + 1, um_up g t v, upd tc t (nI v), upd tx t (nI v), ?_, ?_, by omega, fun k hk => ?_⟩
        · unfold ufX6_add
          rw [if_pos (show nI t < (60 : Int32) from nI_lt (b := 60) h3 (by decide)), um_putI h3 (by decide), um_b1, nI_1, if_neg (show ¬ (60 : Int32) < nI (t + 1) from nI_nlt (a := 60) (by omega) (by decide)), um_nm, um_b3]
        · rw [if_neg (show ¬ nI t = (60 : Int32) from fun z => absurd ((nI_eq (by omega) (by decide)).mp (show nI t = nI 60 from z)) (by omega)), um_gd h3 (by decide), nI_clamp (by omega), um_nm, nI_1]
        · by_cases e : k = t
          · subst e
            rw [um_upd_at, um_upd_at, um_up_eq rfl]
            exact ⟨rfl, rfl, hv2, hv1⟩
          · rw [um_upd_other e, um_upd_other e, um_up_ne e]
            exact hX.2 k (by omega)
      · have e : t = 60 := by omega
        subst e
        exact ⟨-1013, 60, g, tc, tx, if_neg (by decide), if_pos (by decide), hX⟩
    · exact ⟨-1012, t, g, tc, tx, by rw [if_neg h2], by rw [if_pos (Int32.not_le.mp h2), um_b1, if_pos rfl], hX⟩
theorem um_f_account {n t : Nat} (hI : um_I f c) (hT : um_D f la ph pr ps rd rh rr rs rg oa od oi om op ou) :
    ∃ y, ufX8_account (nI n) (nI (f 5)) (nI (f 4)) (nI (f 3)) (nI (f 7)) (nI (f 2)) (nI (f 6)) (nI (f 8)) (nI (f 1)) (nI (f 9)) (nI (f 0)) (um_nv ou) (nI t) x = some y ∧ ufX9_account (nI n) (nI t) (um_nv f) x = some y := by
  have hI0 := hI
  obtain ⟨hPL, hAN, hHD, hRP⟩ := hT
  obtain ⟨q0, q1, q2, q3, q4, q5, q6, q7, q8, q9, q10, q11, q12, q13, q14, q15⟩ := hI
  unfold ufX8_account ufX9_account
  rw [show ufX9_isIn x 0 8 = some (nI (um_b2n (um_in x 9))) from um_isInK (m := 8) (by decide) rfl, um_b1, um_rust8 hI0 hRP, um_rust9 q1]
  cases hx : um_in x 9
  · have hne := um_in_ne (by decide) hx
    rw [if_neg (show ¬ x = 0 from hne 0 (by decide)), if_neg (show ¬ x = 1 from hne 1 (by decide)), if_neg (show ¬ x = 2 from hne 2 (by decide)), if_neg (show ¬ x = 3 from hne 3 (by decide)), if_neg (show ¬ x = 4 from hne 4 (by decide)), if_neg (show ¬ x = 5 from hne 5 (by decide)), if_neg (show ¬ x = 6 from hne 6 (by decide)), if_neg (show ¬ x = 7 from hne 7 (by decide)), if_neg (show ¬ x = 8 from hne 8 (by decide)), if_pos (show nI (um_b2n false) = (0 : Int32) from rfl)]
    by_cases x9 : x = 9
    · rw [if_pos x9, if_pos x9]
      exact ⟨_, rfl, rfl⟩
    · rw [if_neg x9, if_neg x9]
      by_cases x10 : x = 10
      · rw [if_pos x10, if_pos x10]
        exact ⟨nI (f 9), rfl, um_gd (n := 9) (by decide) (by decide)⟩
      · rw [if_neg x10, if_neg x10]
        by_cases x11 : x = 11
        · rw [if_pos x11]
          exact ⟨_, rfl, rfl⟩
        · rw [if_neg x11]
          by_cases x12 : x = 12
          · rw [if_pos x12]
            exact ⟨_, rfl, rfl⟩
          · rw [if_neg x12]
            exact ⟨_, rfl, rfl⟩
  · obtain ⟨j, hj, rfl⟩ := um_in_of (by decide) hx
    rw [if_neg (show ¬ nI (um_b2n true) = (0 : Int32) by decide), um_gd (show j < 235 by omega) (by decide), nI_clamp (by omega), um_nv_at]
    refine ⟨nI (f j), ?_, rfl⟩
    rcases (show j = 0 ∨ j = 1 ∨ j = 2 ∨ j = 3 ∨ j = 4 ∨ j = 5 ∨ j = 6 ∨ j = 7 ∨ j = 8 by omega) with rfl | rfl | rfl | rfl | rfl | rfl | rfl | rfl | rfl <;> rfl
end UM48
