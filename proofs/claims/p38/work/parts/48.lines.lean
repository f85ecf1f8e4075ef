/-! ===== what is written: the class alone, its letters as a list ===== -/
theorem um_atI {N i : Nat} {f : Nat → Int32} (h : i < N) (hN : N < 2 ^ 31) : ufX8_at N f (nI i) = some (f i) := by
  unfold ufX8_at
  rw [if_neg (nI_pos (by omega)), if_neg (show ¬ Int32.ofNat N ≤ nI i from nI_ge h hN), um_gd h hN, nI_clamp (by omega)]
theorem um_putI {N i : Nat} {x : Int32} {f : Nat → Int32} (h : i < N) (hN : N < 2 ^ 31) : ufX8_put N f (nI i) x = some (upd f i x) := by
  unfold ufX8_put
  rw [if_neg (nI_pos (by omega)), if_neg (show ¬ Int32.ofNat N ≤ nI i from nI_ge h hN), um_gd h hN, nI_clamp (by omega), um_nm]
section UM48
variable {f ph pr ps rd rh rr rs rg oa od oi om op ou : Nat → Nat} {c la l : Nat} {lc : Nat → Int32} {x : Int32} {L : List Nat}
theorem um_upd_at {f : Nat → Int32} {i : Nat} {x : Int32} : upd f i x i = x := by
  unfold upd
  exact if_pos rfl
theorem um_upd_other {f : Nat → Int32} {i j : Nat} {x : Int32} (h : j ≠ i) : upd f i x j = f j := by
  unfold upd
  exact if_neg h
theorem um_in_out {x : Int32} {n : Nat} (h : um_in x n = false) : x < 0 ∨ nI n ≤ x := by
  unfold um_in at h
  by_cases h0 : x < 0
  · exact Or.inl h0
  · rw [decide_eq_true h0, Bool.true_and] at h
    exact Or.inr (Int32.not_lt.mp (of_decide_eq_false h))
def ut_L (l : Nat) (lc : Nat → Int32) (L : List Nat) : Prop := L.length = l ∧ l ≤ 128 ∧ ∀ k, k < l → lc k = nI (L.getD k 0)
theorem ut_L0 : ut_L 0 lc [] := ⟨rfl, by decide, fun k hk => absurd hk (Nat.not_lt_zero k)⟩
theorem ut_w (x : Nat) (hL : ut_L l lc L) (h : l < 128) : ∃ lc', ufX2_write (nI l) lc (nI x) = some (nI (l + 1), lc') ∧ ut_L (l + 1) lc' (L ++ [x]) := by
  obtain ⟨h1, h2, h3⟩ := hL
  refine ⟨upd lc l (nI x), ?_, by rw [List.length_append, h1]; rfl, by omega, fun k hk => ?_⟩
  · unfold ufX2_write
    rw [um_putI h (by decide), um_b1, nI_1, if_neg (show ¬ (128 : Int32) < nI (l + 1) from nI_nlt (a := 128) (by omega) (by decide)), um_nm]
  · by_cases e : k = l
    · subst e
      rw [um_upd_at, List.getD_eq_getElem?_getD, List.getElem?_append_right (by omega), h1, Nat.sub_self]
      rfl
    · rw [um_upd_other e, h3 k (by omega), List.getD_eq_getElem?_getD, List.getD_eq_getElem?_getD, List.getElem?_append_left (by omega)]
def ut_num (x : Nat) : List Nat := if x < 10 then [48 + x] else [48 + x / 10, 48 + x % 10]
theorem ut_num_len (x : Nat) : 1 ≤ (ut_num x).length ∧ (ut_num x).length ≤ 2 ∧ (x < 10 → (ut_num x).length = 1) := by
  unfold ut_num
  split
  · exact ⟨Nat.le_refl 1, Nat.le_succ 1, fun _ => rfl⟩
  · exact ⟨Nat.le_succ 1, Nat.le_refl 2, fun h => by omega⟩
theorem ut_dig : ∀ x, x < 100 → (48 : Int32) + (nI x - nI x / 10 * 10) = nI (48 + x % 10) ∧ (48 : Int32) + nI x / 10 = nI (48 + x / 10) := by decide +kernel
theorem ut_n (x : Nat) (hx : x < 100) (hL : ut_L l lc L) (h : l + 2 ≤ 128) : ∃ lc', ufX2_writeNumber (nI l) lc (nI x) = some (nI (l + (ut_num x).length), lc') ∧ ut_L (l + (ut_num x).length) lc' (L ++ ut_num x) := by
  obtain ⟨d1, d2⟩ := ut_dig x hx
  unfold ufX2_writeNumber ut_num
  by_cases h10 : x < 10
  · obtain ⟨lc', e1, e2⟩ := ut_w (48 + x) hL (by omega)
    refine ⟨lc', ?_, ?_⟩
    · rw [if_pos (show nI x < (10 : Int32) from nI_lt (b := 10) h10 (by decide)), if_pos h10]
      unfold ujX2_writeNumber_17
      rw [d1, show x % 10 = x by omega, e1, um_b2]
      rfl
    · rw [if_pos h10]
      exact e2
  · obtain ⟨lc', e1, e2⟩ := ut_w (48 + x / 10) hL (by omega)
    obtain ⟨lc2, g1, g2⟩ := ut_w (48 + x % 10) e2 (by omega)
    refine ⟨lc2, ?_, ?_⟩
    · rw [if_neg (show ¬ nI x < (10 : Int32) from nI_nlt (b := 10) (by omega) (by omega)), if_neg h10, d2, e1, um_b2]
      unfold ujX2_writeNumber_17
      rw [d1, g1, um_b2]
      rfl
    · rw [if_neg h10]
      rw [List.append_assoc] at g2
      exact g2
/-- a rope's line -/
def ut_pulls (f : Nat → Nat) (r : Nat) : Nat → Nat → List Nat
  | 0, _ => []
  | k + 1, i => (if f (83 + 3 * i) = r then 64 :: (ut_num (f (84 + 3 * i)) ++ 42 :: ut_num (f (85 + 3 * i))) else []) ++ ut_pulls f r k (i + 1)
def ut_tell (f : Nat → Nat) (r : Nat) : List Nat := ut_num r ++ 58 :: (ut_num (f (11 + 6 * r)) ++ ((if f (12 + 6 * r) = 0 then [35] else []) ++ (List.replicate (f (13 + 6 * r)) 126 ++ ut_pulls f r (f 1) 0)))
theorem ut_l63 {r : Nat} : ∀ (k i fu l : Nat) (lc : Nat → Int32) (L : List Nat), i + k = f (13 + 6 * r) → f (13 + 6 * r) ≤ 9 → k < fu → ut_L l lc L → l + k ≤ 128 →
    ∃ lc' : Nat → Int32, ulX8_tellRope_81 (nI (f (13 + 6 * r))) fu (nI l) lc (nI i) = some (nI (l + k), lc') ∧ ut_L (l + k) lc' (L ++ List.replicate k 126)
  | k, i, 0, _, _, _, _, _, h, _, _ => absurd h (Nat.not_lt_zero _)
  | 0, i, fu + 1, l, lc, L, h1, h9, _, hL, _ => by
    refine ⟨lc, ?_, by rw [List.replicate_zero, List.append_nil]; exact hL⟩
    rw [ulX8_tellRope_81, if_pos (nI_le (by omega) (by omega))]
    rfl
  | k + 1, i, fu + 1, l, lc, L, h1, h9, hk, hL, h128 => by
    obtain ⟨lc1, e1, e2⟩ := ut_w 126 hL (by omega)
    obtain ⟨lc', g1, g2⟩ := ut_l63 k (i + 1) fu (l + 1) lc1 (L ++ [126]) (by omega) h9 (by omega) e2 (by omega)
    have el : l + 1 + k = l + (k + 1) := by omega
    rw [el] at g1 g2
    refine ⟨lc', ?_, ?_⟩
    · rw [ulX8_tellRope_81, if_neg (nI_ge (by omega) (by omega)), show (126 : Int32) = nI 126 from rfl, e1, um_b2, nI_1]
      exact g1
    · rw [List.append_assoc] at g2
      exact g2
theorem ut_l91 {r : Nat} (hn : f 1 ≤ 16) (hr : r < 12) (hPL : um_PL f ph pr ps) (hb : ∀ k, k < f 1 → f (83 + 3 * k) < 12 ∧ f (84 + 3 * k) < 24 ∧ f (85 + 3 * k) < 10) : ∀ (k i fu l : Nat) (lc : Nat → Int32) (L : List Nat), i + k = f 1 → k < fu → ut_L l lc L → l + 6 * k ≤ 128 →
    ∃ (l' : Nat) (lc' : Nat → Int32), ulX8_tellPulls_2 (nI (f 1)) (um_nv ph) (um_nv pr) (um_nv ps) (nI r) fu (nI l) lc (nI i) = some (nI l', lc') ∧ ut_L l' lc' (L ++ ut_pulls f r k i)
  | k, i, 0, _, _, _, _, h, _, _ => absurd h (Nat.not_lt_zero _)
  | 0, i, fu + 1, l, lc, L, h1, _, hL, _ => by
    refine ⟨l, lc, ?_, by unfold ut_pulls; rw [List.append_nil]; exact hL⟩
    rw [ulX8_tellPulls_2, if_pos (nI_le (by omega) (by omega))]
  | k + 1, i, fu + 1, l, lc, L, h1, hk, hL, h128 => by
    obtain ⟨s1, s2, s3⟩ := hPL i (by omega)
    obtain ⟨b1, b2, b3⟩ := hb i (by omega)
    have hC : ulX8_tellPulls_2 (nI (f 1)) (um_nv ph) (um_nv pr) (um_nv ps) (nI r) (fu + 1) (nI l) lc (nI i) = if nI (f (83 + 3 * i)) = nI r then ub_b2 (ufX2_write (nI l) lc 64) fun ym_lineN_12 ym_line_13 => ub_b2 (ufX2_writeNumber ym_lineN_12 ym_line_13 (nI (f (84 + 3 * i)))) fun ym_lineN_15 ym_line_16 => ub_b2 (ufX2_write ym_lineN_15 ym_line_16 42) fun ym_lineN_17 ym_line_18 => ub_b2 (ufX2_writeNumber ym_lineN_17 ym_line_18 (nI (f (85 + 3 * i)))) fun ym_lineN_20 ym_line_21 => ulX8_tellPulls_2 (nI (f 1)) (um_nv ph) (um_nv pr) (um_nv ps) (nI r) fu ym_lineN_20 ym_line_21 (nI (i + 1)) else ulX8_tellPulls_2 (nI (f 1)) (um_nv ph) (um_nv pr) (um_nv ps) (nI r) fu (nI l) lc (nI (i + 1)) := by
      rw [ulX8_tellPulls_2, if_neg (nI_ge (show i < f 1 by omega) (by omega)), um_at (show i < 16 by omega) (by decide), um_at (show i < 16 by omega) (by decide), um_at (show i < 16 by omega) (by decide), um_b1, nI_1, s1, s2, s3]
      rfl
    rw [hC]
    unfold ut_pulls
    by_cases hq : f (83 + 3 * i) = r
    · rw [if_pos (congrArg nI hq), if_pos hq]
      obtain ⟨lc1, e1, e2⟩ := ut_w 64 hL (by omega)
      have n1 := ut_num_len (f (84 + 3 * i))
      have n2 := ut_num_len (f (85 + 3 * i))
      obtain ⟨lc2, g1, g2⟩ := ut_n (f (84 + 3 * i)) (by omega) e2 (by omega)
      obtain ⟨lc3, i1, i2⟩ := ut_w 42 g2 (by omega)
      obtain ⟨lc4, j1, j2⟩ := ut_n (f (85 + 3 * i)) (by omega) i2 (by omega)
      rw [show (64 : Int32) = nI 64 from rfl, e1, um_b2, g1, um_b2, show (42 : Int32) = nI 42 from rfl, i1, um_b2, j1, um_b2]
      obtain ⟨l', lc', k1, k2⟩ := ut_l91 hn hr hPL hb k (i + 1) fu _ lc4 _ (by omega) (by omega) j2 (by have := n2.2.2 b3; omega)
      refine ⟨l', lc', k1, ?_⟩
      simp only [List.append_assoc, List.cons_append, List.nil_append] at k2 ⊢
      exact k2
    · rw [if_neg (fun z => hq ((nI_eq (by omega) (by omega)).mp z)), if_neg hq, List.nil_append]
      exact ut_l91 hn hr hPL hb k (i + 1) fu l lc L (by omega) (by omega) hL (by omega)
theorem ut_f_tell (hLl : l ≤ 128) (hI : um_I f c) (hT : um_D f la ph pr ps rd rh rr rs rg oa od oi om op ou) {r : Nat} (hr : r < f 0) :
    ∃ (lc' : Nat → Int32), ufX8_tell (nI l) lc (nI (f 1)) (um_nv ph) (um_nv pr) (um_nv ps) (nI (f 0)) (um_nv oi) (um_nv op) (um_nv ou) (nI r) = some (nI (ut_tell f r).length, nI (ut_tell f r).length, lc') ∧ ut_L (ut_tell f r).length lc' (ut_tell f r) := by
  obtain ⟨hPL, hAN, hHD, hRP⟩ := hT
  obtain ⟨q0, q1, q2, q3, q4, q5, q6, q7, q8, q9, q10, q11, q12, q13, q14, q15⟩ := hI
  have hx : um_in (nI r) (f 0) = true := by
    rw [um_in_nI (by omega) (by omega)]
    exact decide_eq_true hr
  obtain ⟨s1, s2, s3, -⟩ := hRP r (by omega)
  obtain ⟨b1, b2, b3⟩ := q9 r (by omega)
  have c0 : ufX8_at 12 (um_nv op) (nI r) = some (nI (f (11 + 6 * r))) := by rw [um_at (by omega) (by decide), s1]
  have c1 : ufX8_at 12 (um_nv oi) (nI r) = some (nI (f (12 + 6 * r))) := by rw [um_at (by omega) (by decide), s2]
  have c2 : ufX8_at 12 (um_nv ou) (nI r) = some (nI (f (13 + 6 * r))) := by rw [um_at (by omega) (by decide), s3]
  have n1 := ut_num_len r
  have n2 := ut_num_len (f (11 + 6 * r))
  obtain ⟨lc1, e1, e2⟩ := ut_n r (by omega) (ut_L0 (lc := lc)) (by omega)
  obtain ⟨lc2, g1, g2⟩ := ut_w 58 e2 (by omega)
  obtain ⟨lc3, i1, i2⟩ := ut_n (f (11 + 6 * r)) (by omega) g2 (by omega)
  rw [Nat.zero_add] at e1 g1 i1 i2
  rw [List.nil_append] at i2
  have e1' : ufX2_writeNumber 0 lc (nI r) = some (nI (ut_num r).length, lc1) := e1
  have rest : ∀ (l3 : Nat) (lc4 : Nat → Int32) (L3 : List Nat), ut_L l3 lc4 L3 → l3 ≤ 20 → ∃ (l' : Nat) (lc' : Nat → Int32), (ub_b2 (ujX8_tellRope_64 (nI l3) lc4 (um_nv ou) (nI r)) fun ym_line_length_2 ym_line_codes_3 => ub_b2 (ufX8_tellPulls ym_line_length_2 ym_line_codes_3 (nI (f 1)) (um_nv ph) (um_nv pr) (um_nv ps) (nI r)) fun ym_line_length_4 ym_line_codes_5 => some (ym_line_length_4, ym_line_length_4, ym_line_codes_5)) = some (nI l', nI l', lc') ∧ ut_L l' lc' (L3 ++ (List.replicate (f (13 + 6 * r)) 126 ++ ut_pulls f r (f 1) 0)) := by
    intro l3 lc4 L3 h3 hl3
    obtain ⟨lc5, j1, j2⟩ := ut_l63 (f := f) (r := r) (f (13 + 6 * r)) 0 ub_F l3 lc4 L3 (Nat.zero_add _) b3 (Nat.lt_of_le_of_lt b3 (by decide)) h3 (by omega)
    obtain ⟨l6, lc6, k1, k2⟩ := ut_l91 (f := f) (r := r) q2 (by omega) hPL (fun k hk => by have := q14 k hk; omega) (f 1) 0 ub_F (l3 + f (13 + 6 * r)) lc5 _ (Nat.zero_add _) (Nat.lt_of_le_of_lt q2 (by decide)) j2 (by omega)
    refine ⟨l6, lc6, ?_, by rw [List.append_assoc] at k2; exact k2⟩
    unfold ujX8_tellRope_64 ufX8_tellPulls
    rw [c2, um_b1, show (0 : Int32) = nI 0 from rfl, j1, um_b2, k1, um_b2]
  have main : ∃ (l' : Nat) (lc' : Nat → Int32), ufX8_tell (nI l) lc (nI (f 1)) (um_nv ph) (um_nv pr) (um_nv ps) (nI (f 0)) (um_nv oi) (um_nv op) (um_nv ou) (nI r) = some (nI l', nI l', lc') ∧ ut_L l' lc' (ut_tell f r) := by
    unfold ufX8_tell
    rw [um_has5 (by omega), um_b1, hx, if_neg (show ¬ nI (um_b2n true) = (0 : Int32) by decide)]
    unfold ufX8_tellRope
    rw [e1', um_b2, show (58 : Int32) = nI 58 from rfl, g1, um_b2, c0, um_b1, i1, um_b2, c1, um_b1]
    unfold ut_tell
    by_cases ho : f (12 + 6 * r) = 0
    · obtain ⟨lc4, j1, j2⟩ := ut_w 35 i2 (by omega)
      rw [if_pos (show nI (f (12 + 6 * r)) = (0 : Int32) from congrArg nI ho), show (35 : Int32) = nI 35 from rfl, j1, um_b2, if_pos ho]
      obtain ⟨l', lc', k1, k2⟩ := rest _ lc4 _ j2 (by omega)
      refine ⟨l', lc', k1, ?_⟩
      simp only [List.append_assoc, List.cons_append, List.nil_append] at k2 ⊢
      exact k2
    · rw [if_neg (show ¬ nI (f (12 + 6 * r)) = (0 : Int32) from fun z => ho ((nI_eq (b := 0) (by omega) (by decide)).mp z)), if_neg ho]
      obtain ⟨l', lc', k1, k2⟩ := rest _ lc3 _ i2 (by omega)
      refine ⟨l', lc', k1, ?_⟩
      simp only [List.append_assoc, List.cons_append, List.nil_append] at k2 ⊢
      exact k2
  obtain ⟨l', lc', k1, k2⟩ := main
  have e := k2.1
  subst e
  exact ⟨lc', k1, k2⟩
theorem ut_f_tellNo (hI : um_I f c) (hx : um_in x (f 0) = false) : ufX8_tell (nI l) lc (nI (f 1)) (um_nv ph) (um_nv pr) (um_nv ps) (nI (f 0)) (um_nv oi) (um_nv op) (um_nv ou) x = some (-1011, nI l, lc) := by
  have q1 := hI.2.1
  unfold ufX8_tell
  rw [um_has5 (by omega), um_b1, hx]
  exact if_pos rfl
theorem ut_f_character (hL : ut_L l lc L) : ufX8_character (nI l) lc x = some (if um_in x l then nI (L.getD x.toNatClampNeg 0) else -1011) := by
  obtain ⟨h1, hl, h3⟩ := hL
  unfold ufX8_character
  cases hx : um_in x l
  · rw [if_neg (show ¬ (false = true) by decide)]
    rcases um_in_out hx with h | h
    · rw [if_pos h]
    · by_cases h0 : x < 0
      · rw [if_pos h0]
      · rw [if_neg h0, if_pos h]
  · obtain ⟨j, hj, rfl⟩ := um_in_of (by omega) hx
    rw [if_neg (nI_pos (by omega)), if_neg (nI_ge hj (by omega)), um_atI (by omega) (by decide), um_b1, if_pos rfl, nI_clamp (by omega), h3 j hj]
/-- the day's line -/
def ut_gv (f : Nat → Nat) (h : Nat) : Nat := (um_gp (um_gW (um_pa f) (f 0)) (um_gG (um_pa f) (f 0) (f (211 + h))) 4).1 - 1
def ut_dayS (f : Nat → Nat) (i : Nat) (L : List Nat) : List Nat := if f (211 + i) = 0 then L else L ++ ((if L.length = 0 then [] else [32]) ++ (ut_num i ++ 61 :: ut_num (ut_gv f i)))
def ut_day (f : Nat → Nat) : Nat → Nat → List Nat → List Nat
  | 0, _, L => L
  | k + 1, i, L => ut_day f k (i + 1) (ut_dayS f i L)
theorem ut_l7 (hI : um_I f c) (hHD : um_HD f rg) (hp : ∀ r, r < 12 → op r = f (11 + 6 * r)) (hg : ∀ i, i < 24 → f (211 + i) ≠ 0 → um_guess (um_pa f) (f 0) (f (211 + i)) = nI (ut_gv f i) ∧ ut_gv f i < 4) : ∀ (k i fu l : Nat) (lc : Nat → Int32) (L : List Nat), i + k = 24 → k < fu → ut_L l lc L → l + 5 * k ≤ 120 →
    ∃ (l' : Nat) (lc' : Nat → Int32), ulX8_tellDay_10 (um_nv rg) (nI (f 0)) (um_nv op) fu (nI l) lc (nI i) = some (nI l', nI l', lc') ∧ ut_L l' lc' (ut_day f k i L)
  | k, i, 0, _, _, _, _, h, _, _ => absurd h (Nat.not_lt_zero _)
  | 0, i, fu + 1, l, lc, L, h1, _, hL, _ => by
    refine ⟨l, lc, ?_, hL⟩
    rw [ulX8_tellDay_10, if_pos (show (24 : Int32) ≤ nI i from nI_le (a := 24) (by omega) (by omega))]
  | k + 1, i, fu + 1, l, lc, L, h1, hk, hL, h128 => by
    have hi : i < 24 := by omega
    obtain ⟨u1, -, -⟩ := um_guess8 hI hHD hp hi
    have hs := um_I_set hI hi
    have hC : ulX8_tellDay_10 (um_nv rg) (nI (f 0)) (um_nv op) (fu + 1) (nI l) lc (nI i) = if nI (f (211 + i)) = 0 then ulX8_tellDay_10 (um_nv rg) (nI (f 0)) (um_nv op) fu (nI l) lc (nI (i + 1)) else ub_b2 (ufX8_tellHour (nI l) lc (um_nv rg) (nI (f 0)) (um_nv op) (nI i)) fun ym_line_length_2 ym_line_codes_3 => ulX8_tellDay_10 (um_nv rg) (nI (f 0)) (um_nv op) fu ym_line_length_2 ym_line_codes_3 (nI (i + 1)) := by
      rw [ulX8_tellDay_10, if_neg (show ¬ (24 : Int32) ≤ nI i from nI_ge (b := 24) hi (by decide)), um_at hi (by decide), um_b1, hHD i hi, nI_1]
    rw [hC]
    unfold ut_day ut_dayS
    by_cases hz : f (211 + i) = 0
    · rw [if_pos (show nI (f (211 + i)) = (0 : Int32) from congrArg nI hz), if_pos hz]
      exact ut_l7 hI hHD hp hg k (i + 1) fu l lc L (by omega) (by omega) hL (by omega)
    · obtain ⟨v1, v2⟩ := hg i hi hz
      rw [if_neg (show ¬ nI (f (211 + i)) = (0 : Int32) from fun z => hz ((nI_eq (b := 0) (by omega) (by decide)).mp z)), if_neg hz]
      unfold ufX8_tellHour
      have rest : ∀ (l1 : Nat) (lc1 : Nat → Int32) (L1 : List Nat), ut_L l1 lc1 L1 → l1 ≤ l + 1 → ∃ (l' : Nat) (lc' : Nat → Int32), (ub_b2 (ujX8_tellHour_19 (nI l1) lc1 (um_nv rg) (nI (f 0)) (um_nv op) (nI i)) fun ym_line_length_2 ym_line_codes_3 => ulX8_tellDay_10 (um_nv rg) (nI (f 0)) (um_nv op) fu ym_line_length_2 ym_line_codes_3 (nI (i + 1))) = some (nI l', nI l', lc') ∧ ut_L l' lc' (ut_day f k (i + 1) (L1 ++ (ut_num i ++ 61 :: ut_num (ut_gv f i)))) := by
        intro l1 lc1 L1 hL1 hl1
        have n1 := ut_num_len i
        have n2 := (ut_num_len (ut_gv f i)).2.2 (by omega)
        obtain ⟨lc2, e1, e2⟩ := ut_n i (by omega) hL1 (by omega)
        obtain ⟨lc3, g1, g2⟩ := ut_w 61 e2 (by omega)
        obtain ⟨lc4, i1, i2⟩ := ut_n (ut_gv f i) (by omega) g2 (by omega)
        obtain ⟨l', lc', j1, j2⟩ := ut_l7 hI hHD hp hg k (i + 1) fu _ lc4 _ (by omega) (by omega) i2 (by omega)
        refine ⟨l', lc', ?_, ?_⟩
        · unfold ujX8_tellHour_19
          rw [e1, um_b2, show (61 : Int32) = nI 61 from rfl, g1, um_b2, u1, um_b1, v1, i1, um_b2, um_b2]
          exact j1
        · simp only [List.append_assoc, List.cons_append, List.nil_append] at j2 ⊢
          exact j2
      by_cases hl : l = 0
      · rw [if_pos (show nI l ≤ 0 from nI_le (b := 0) (by omega) (by decide)), if_pos (by rw [hL.1]; exact hl), List.nil_append]
        exact rest l lc L hL (by omega)
      · rw [if_neg (show ¬ nI l ≤ 0 from nI_nle (by omega) (by omega)), if_neg (by rw [hL.1]; exact hl)]
        obtain ⟨lc1, e1, e2⟩ := ut_w 32 hL (by omega)
        rw [show (32 : Int32) = nI 32 from rfl, e1, um_b2]
        obtain ⟨l', lc', j1, j2⟩ := rest _ lc1 _ e2 (by omega)
        refine ⟨l', lc', j1, ?_⟩
        simp only [List.append_assoc, List.cons_append, List.nil_append] at j2 ⊢
        exact j2
theorem ut_f_tellDay (hI : um_I f c) (hT : um_D f la ph pr ps rd rh rr rs rg oa od oi om op ou) (hg : ∀ i, i < 24 → f (211 + i) ≠ 0 → um_guess (um_pa f) (f 0) (f (211 + i)) = nI (ut_gv f i) ∧ ut_gv f i < 4) :
    ∃ (lc' : Nat → Int32), ufX8_tellDay (nI l) lc (um_nv rg) (nI (f 0)) (um_nv op) = some (nI (ut_day f 24 0 []).length, nI (ut_day f 24 0 []).length, lc') ∧ ut_L (ut_day f 24 0 []).length lc' (ut_day f 24 0 []) := by
  obtain ⟨hPL, hAN, hHD, hRP⟩ := hT
  obtain ⟨l', lc', e1, e2⟩ := ut_l7 hI hHD (fun r hr => (hRP r hr).1) hg 24 0 ub_F 0 lc [] rfl (by decide) ut_L0 (by decide)
  have e := e2.1
  subst e
  exact ⟨lc', e1, e2⟩
/-- the accounts -/
def ut_acc (f : Nat → Nat) (n : Nat) (x : Int32) : Int32 :=
  if um_in x 9 then nI (f x.toNatClampNeg) else if x = 9 then nI (um_sum (fun r => f (13 + 6 * r)) (f 0)) else if x = 10 then nI (f 9) else if x = 11 then 0 else if x = 12 then nI n else -1012
theorem ut_f_account {n : Nat} (hI : um_I f c) (hT : um_D f la ph pr ps rd rh rr rs rg oa od oi om op ou) :
    ufX8_account (nI n) (nI (f 5)) (nI (f 4)) (nI (f 3)) (nI (f 7)) (nI (f 2)) (nI (f 6)) (nI (f 8)) (nI (f 1)) (nI (f 9)) (nI (f 0)) (um_nv ou) (nI 0) x = some (ut_acc f n x) := by
  have hI0 := hI
  obtain ⟨hPL, hAN, hHD, hRP⟩ := hT
  unfold ufX8_account ut_acc
  rw [um_rust8 hI0 hRP]
  cases hx : um_in x 9
  · have hne := um_in_ne (by decide) hx
    rw [if_neg (show ¬ x = 0 from hne 0 (by decide)), if_neg (show ¬ x = 1 from hne 1 (by decide)), if_neg (show ¬ x = 2 from hne 2 (by decide)), if_neg (show ¬ x = 3 from hne 3 (by decide)), if_neg (show ¬ x = 4 from hne 4 (by decide)), if_neg (show ¬ x = 5 from hne 5 (by decide)), if_neg (show ¬ x = 6 from hne 6 (by decide)), if_neg (show ¬ x = 7 from hne 7 (by decide)), if_neg (show ¬ x = 8 from hne 8 (by decide)), if_neg (show ¬ (false = true) by decide)]
    by_cases x9 : x = 9
    · rw [if_pos x9, if_pos x9]
      rfl
    · rw [if_neg x9, if_neg x9]
      by_cases x10 : x = 10
      · rw [if_pos x10, if_pos x10]
      · rw [if_neg x10, if_neg x10]
        by_cases x11 : x = 11
        · rw [if_pos x11, if_pos x11]
          rfl
        · rw [if_neg x11, if_neg x11]
          by_cases x12 : x = 12
          · rw [if_pos x12, if_pos x12]
          · rw [if_neg x12, if_neg x12]
  · obtain ⟨j, hj, rfl⟩ := um_in_of (by decide) hx
    rw [if_pos rfl, nI_clamp (by omega)]
    rcases (show j = 0 ∨ j = 1 ∨ j = 2 ∨ j = 3 ∨ j = 4 ∨ j = 5 ∨ j = 6 ∨ j = 7 ∨ j = 8 by omega) with rfl | rfl | rfl | rfl | rfl | rfl | rfl | rfl | rfl <;> rfl
end UM48
