/-! ===== the guesses on both sides ===== -/
theorem um_setAll {n : Nat} (hn : n ≤ 12) : ufX5_setOfAll (nI n) = some (nI (2 ^ n - 1)) := by
  have h : 1 ≤ 2 ^ n := Nat.one_le_two_pow
  unfold ufX5_setOfAll
  simp -implicitDefEqProofs (disch := omega) only [um_l0, um_l1, um_l2, um_l3, um_l4, um_l5, um_l6, um_l7, um_l8, um_l9, um_l10, um_l11, um_l12, um_l16, um_l20, um_l23, um_l24, um_l31, um_l32, um_l35, um_l42, um_l43, um_l45, um_l48, um_l57, um_l58, um_l59, um_l60, um_l61, um_l63, um_l64, um_l68, um_l83, um_l99, um_l100, um_l101, um_l102, um_l103, um_l104, um_l105, um_l106, um_l107, um_l108, um_l109, um_l110, um_l111, um_l112, um_l113, um_l114, um_l115, um_l116, um_l117, um_l118, um_l126, um_l128, um_l130, um_l131, um_l132, um_l133, um_l134, um_l135, um_l180, um_l210, um_l211, um_l235, um_l1645, um_l1880, ↓um_nm, um_b1, um_b2, um_b3, um_b4, um_b5, um_b6, um_b7, um_b8, um_b9, um_b10, um_gd, um_bz0, um_bz1, um_m1, nI_add, pk_mul, um_sub_lt0, um_sub_gt0, um_sub_eq0, um_sub_le0, pk_sub, nI_ltI, nI_leI, nI_eq, nI_clamp, um_nv_at, um_nv_up, um_up_eq, um_up_ne, if_true, if_false, if_pos, if_neg, um_at, um_at0, um_put, um_add, um_bit]
theorem um_all_bit {n i : Nat} (h : i < n) : (2 ^ n - 1).testBit i = true := by
  rw [Nat.testBit_two_pow_sub_one]
  exact decide_eq_true h
theorem um_gW_le {P : Nat → Nat} {n q : Nat} : um_gW P n q ≤ n := um_cnt_le
theorem um_isGreaterShare {P : Nat → Nat} {n H a l : Nat} (hn : n ≤ 12) (ha : a < n) (hl : l < n) (hH : H < 2 ^ 12) (hP : ∀ r, r < n → P r < 4) : ufX5_isGreaterShare (nI n) (um_nv P) (nI a) (nI l) (nI H) = some (nI (um_b2n (um_bt (um_gW P n) (um_gG P n H) (P a) (P l)))) := by
  have hP' : ∀ r, r < n → P r < 2 ^ 31 := fun r hr => by have := hP r hr; omega
  have hpa := hP a ha
  have hpl := hP l hl
  have hp2 : 2 ^ n ≤ 2 ^ 12 := Nat.pow_le_pow_right (by decide) hn
  have eW : ∀ q, um_cnt (fun r => decide (P r = q) && (2 ^ n - 1).testBit r) n = um_gW P n q := fun q => um_cnt_congr (fun i hi => by rw [um_all_bit hi, Bool.and_true])
  have eG : ∀ q, um_cnt (fun r => decide (P r = q) && H.testBit r) n = um_gG P n H q := fun q => rfl
  have n1 : ∀ q, q < 4 → ufX5_neighbours (nI n) (um_nv P) (nI q) (nI H) = some (nI (um_gG P n H q)) := fun q hq => um_neighbours hn (by omega) (by omega) hP'
  have n2 : ∀ q, q < 4 → ufX5_neighbours (nI n) (um_nv P) (nI q) (nI (2 ^ n - 1)) = some (nI (um_gW P n q)) := fun q hq => by
    rw [um_neighbours hn (by omega) (by omega) hP', eW]
  have b1 : um_gG P n H (P a) ≤ 12 := Nat.le_trans um_cnt_le hn
  have b2 : um_gG P n H (P l) ≤ 12 := Nat.le_trans um_cnt_le hn
  have b3 : um_gW P n (P a) ≤ 12 := Nat.le_trans um_cnt_le hn
  have b4 : um_gW P n (P l) ≤ 12 := Nat.le_trans um_cnt_le hn
  have b5 := Nat.mul_le_mul b1 b4
  have b6 := Nat.mul_le_mul b2 b3
  unfold ufX5_isGreaterShare
  rw [um_at (by omega) (by decide), um_b1, um_at (by omega) (by decide), um_b1, n1 _ hpa, um_b1, n1 _ hpl, um_b1, um_setAll hn, um_b1, n2 _ hpl, um_b1, um_b1, n2 _ hpa, um_b1, pk_mul, pk_mul]
  unfold um_bt
  generalize um_gG P n H (P a) * um_gW P n (P l) = x at *
  generalize um_gG P n H (P l) * um_gW P n (P a) = y at *
  generalize um_gG P n H (P a) = ga at *
  generalize um_gG P n H (P l) = gl at *
  generalize P a = pa at *
  generalize P l = pl at *
  by_cases c1 : x = y
  · by_cases c2 : ga = gl
    · by_cases c3 : pa < pl
      · rw [decide_eq_true (by omega), um_b2n_t]
        simp -implicitDefEqProofs (disch := omega) only [um_l0, um_l1, um_l2, um_l3, um_l4, um_l5, um_l6, um_l7, um_l8, um_l9, um_l10, um_l11, um_l12, um_l16, um_l20, um_l23, um_l24, um_l31, um_l32, um_l35, um_l42, um_l43, um_l45, um_l48, um_l57, um_l58, um_l59, um_l60, um_l61, um_l63, um_l64, um_l68, um_l83, um_l99, um_l100, um_l101, um_l102, um_l103, um_l104, um_l105, um_l106, um_l107, um_l108, um_l109, um_l110, um_l111, um_l112, um_l113, um_l114, um_l115, um_l116, um_l117, um_l118, um_l126, um_l128, um_l130, um_l131, um_l132, um_l133, um_l134, um_l135, um_l180, um_l210, um_l211, um_l235, um_l1645, um_l1880, ↓um_nm, um_b1, um_b2, um_b3, um_b4, um_b5, um_b6, um_b7, um_b8, um_b9, um_b10, um_gd, um_bz0, um_bz1, um_m1, nI_add, pk_mul, um_sub_lt0, um_sub_gt0, um_sub_eq0, um_sub_le0, pk_sub, nI_ltI, nI_leI, nI_eq, nI_clamp, um_nv_at, um_nv_up, um_up_eq, um_up_ne, if_true, if_false, if_pos, if_neg, um_at, um_at0, um_put, um_add]
      · rw [decide_eq_false (by omega), um_b2n_f]
        simp -implicitDefEqProofs (disch := omega) only [um_l0, um_l1, um_l2, um_l3, um_l4, um_l5, um_l6, um_l7, um_l8, um_l9, um_l10, um_l11, um_l12, um_l16, um_l20, um_l23, um_l24, um_l31, um_l32, um_l35, um_l42, um_l43, um_l45, um_l48, um_l57, um_l58, um_l59, um_l60, um_l61, um_l63, um_l64, um_l68, um_l83, um_l99, um_l100, um_l101, um_l102, um_l103, um_l104, um_l105, um_l106, um_l107, um_l108, um_l109, um_l110, um_l111, um_l112, um_l113, um_l114, um_l115, um_l116, um_l117, um_l118, um_l126, um_l128, um_l130, um_l131, um_l132, um_l133, um_l134, um_l135, um_l180, um_l210, um_l211, um_l235, um_l1645, um_l1880, ↓um_nm, um_b1, um_b2, um_b3, um_b4, um_b5, um_b6, um_b7, um_b8, um_b9, um_b10, um_gd, um_bz0, um_bz1, um_m1, nI_add, pk_mul, um_sub_lt0, um_sub_gt0, um_sub_eq0, um_sub_le0, pk_sub, nI_ltI, nI_leI, nI_eq, nI_clamp, um_nv_at, um_nv_up, um_up_eq, um_up_ne, if_true, if_false, if_pos, if_neg, um_at, um_at0, um_put, um_add]
    · by_cases c3 : gl < ga
      · rw [decide_eq_true (by omega), um_b2n_t]
        simp -implicitDefEqProofs (disch := omega) only [um_l0, um_l1, um_l2, um_l3, um_l4, um_l5, um_l6, um_l7, um_l8, um_l9, um_l10, um_l11, um_l12, um_l16, um_l20, um_l23, um_l24, um_l31, um_l32, um_l35, um_l42, um_l43, um_l45, um_l48, um_l57, um_l58, um_l59, um_l60, um_l61, um_l63, um_l64, um_l68, um_l83, um_l99, um_l100, um_l101, um_l102, um_l103, um_l104, um_l105, um_l106, um_l107, um_l108, um_l109, um_l110, um_l111, um_l112, um_l113, um_l114, um_l115, um_l116, um_l117, um_l118, um_l126, um_l128, um_l130, um_l131, um_l132, um_l133, um_l134, um_l135, um_l180, um_l210, um_l211, um_l235, um_l1645, um_l1880, ↓um_nm, um_b1, um_b2, um_b3, um_b4, um_b5, um_b6, um_b7, um_b8, um_b9, um_b10, um_gd, um_bz0, um_bz1, um_m1, nI_add, pk_mul, um_sub_lt0, um_sub_gt0, um_sub_eq0, um_sub_le0, pk_sub, nI_ltI, nI_leI, nI_eq, nI_clamp, um_nv_at, um_nv_up, um_up_eq, um_up_ne, if_true, if_false, if_pos, if_neg, um_at, um_at0, um_put, um_add]
      · rw [decide_eq_false (by omega), um_b2n_f]
        simp -implicitDefEqProofs (disch := omega) only [um_l0, um_l1, um_l2, um_l3, um_l4, um_l5, um_l6, um_l7, um_l8, um_l9, um_l10, um_l11, um_l12, um_l16, um_l20, um_l23, um_l24, um_l31, um_l32, um_l35, um_l42, um_l43, um_l45, um_l48, um_l57, um_l58, um_l59, um_l60, um_l61, um_l63, um_l64, um_l68, um_l83, um_l99, um_l100, um_l101, um_l102, um_l103, um_l104, um_l105, um_l106, um_l107, um_l108, um_l109, um_l110, um_l111, um_l112, um_l113, um_l114, um_l115, um_l116, um_l117, um_l118, um_l126, um_l128, um_l130, um_l131, um_l132, um_l133, um_l134, um_l135, um_l180, um_l210, um_l211, um_l235, um_l1645, um_l1880, ↓um_nm, um_b1, um_b2, um_b3, um_b4, um_b5, um_b6, um_b7, um_b8, um_b9, um_b10, um_gd, um_bz0, um_bz1, um_m1, nI_add, pk_mul, um_sub_lt0, um_sub_gt0, um_sub_eq0, um_sub_le0, pk_sub, nI_ltI, nI_leI, nI_eq, nI_clamp, um_nv_at, um_nv_up, um_up_eq, um_up_ne, if_true, if_false, if_pos, if_neg, um_at, um_at0, um_put, um_add]
  · by_cases c3 : y < x
    · rw [decide_eq_true (by omega), um_b2n_t]
      simp -implicitDefEqProofs (disch := omega) only [um_l0, um_l1, um_l2, um_l3, um_l4, um_l5, um_l6, um_l7, um_l8, um_l9, um_l10, um_l11, um_l12, um_l16, um_l20, um_l23, um_l24, um_l31, um_l32, um_l35, um_l42, um_l43, um_l45, um_l48, um_l57, um_l58, um_l59, um_l60, um_l61, um_l63, um_l64, um_l68, um_l83, um_l99, um_l100, um_l101, um_l102, um_l103, um_l104, um_l105, um_l106, um_l107, um_l108, um_l109, um_l110, um_l111, um_l112, um_l113, um_l114, um_l115, um_l116, um_l117, um_l118, um_l126, um_l128, um_l130, um_l131, um_l132, um_l133, um_l134, um_l135, um_l180, um_l210, um_l211, um_l235, um_l1645, um_l1880, ↓um_nm, um_b1, um_b2, um_b3, um_b4, um_b5, um_b6, um_b7, um_b8, um_b9, um_b10, um_gd, um_bz0, um_bz1, um_m1, nI_add, pk_mul, um_sub_lt0, um_sub_gt0, um_sub_eq0, um_sub_le0, pk_sub, nI_ltI, nI_leI, nI_eq, nI_clamp, um_nv_at, um_nv_up, um_up_eq, um_up_ne, if_true, if_false, if_pos, if_neg, um_at, um_at0, um_put, um_add]
    · rw [decide_eq_false (by omega), um_b2n_f]
      simp -implicitDefEqProofs (disch := omega) only [um_l0, um_l1, um_l2, um_l3, um_l4, um_l5, um_l6, um_l7, um_l8, um_l9, um_l10, um_l11, um_l12, um_l16, um_l20, um_l23, um_l24, um_l31, um_l32, um_l35, um_l42, um_l43, um_l45, um_l48, um_l57, um_l58, um_l59, um_l60, um_l61, um_l63, um_l64, um_l68, um_l83, um_l99, um_l100, um_l101, um_l102, um_l103, um_l104, um_l105, um_l106, um_l107, um_l108, um_l109, um_l110, um_l111, um_l112, um_l113, um_l114, um_l115, um_l116, um_l117, um_l118, um_l126, um_l128, um_l130, um_l131, um_l132, um_l133, um_l134, um_l135, um_l180, um_l210, um_l211, um_l235, um_l1645, um_l1880, ↓um_nm, um_b1, um_b2, um_b3, um_b4, um_b5, um_b6, um_b7, um_b8, um_b9, um_b10, um_gd, um_bz0, um_bz1, um_m1, nI_add, pk_mul, um_sub_lt0, um_sub_gt0, um_sub_eq0, um_sub_le0, pk_sub, nI_ltI, nI_leI, nI_eq, nI_clamp, um_nv_at, um_nv_up, um_up_eq, um_up_ne, if_true, if_false, if_pos, if_neg, um_at, um_at0, um_put, um_add]
def um_gL (b : Nat) : Int32 := if b = 0 then (-1011) else nI (b - 1)
theorem um_nI_neg {n : Nat} (h : n < 2 ^ 31) : nI n ≠ (-1011 : Int32) := by
  intro e
  have h2 := congrArg Int32.toInt e
  rw [um_toI h] at h2
  have : (-1011 : Int32).toInt = -1011 := by decide
  omega
theorem um_gr_le {W G P : Nat → Nat} {H : Nat} : ∀ i, um_gr W G P H i ≤ i
  | 0 => Nat.le_refl _
  | i + 1 => by
    have := um_gr_le (W := W) (G := G) (P := P) (H := H) i
    rw [um_gr]
    split
    · split
      · exact Nat.le_refl _
      · split <;> omega
    · omega
theorem um_guessByRopes {P : Nat → Nat} {n H : Nat} (hn : n ≤ 12) (hH : H < 2 ^ 12) (hP : ∀ r, r < n → P r < 4) : ufX5_guessByRopes (nI n) (um_nv P) (nI H) = some (um_guess P n H) := by
  rw [← um_guess_same hP]
  unfold ufX5_guessByRopes
  have e := um_loop (fun k (s : Int32 × Int32) => ulX5_guessByRopes_6 (nI n) (um_nv P) (nI H) k s.1 s.2) (fun i => (um_gL (um_gr (um_gW P n) (um_gG P n H) P H i), nI i)) (K := some (if um_gr (um_gW P n) (um_gG P n H) P H n = 0 then (-1015 : Int32) else nI (P (um_gr (um_gW P n) (um_gG P n H) P H n - 1)))) 0 n (by omega) (by omega) ?_ ?_
  · exact e
  · intro i k _ hi
    show ulX5_guessByRopes_6 (nI n) (um_nv P) (nI H) (k + 1) _ _ = ulX5_guessByRopes_6 (nI n) (um_nv P) (nI H) k _ _
    have hle := um_gr_le (W := um_gW P n) (G := um_gG P n H) (P := P) (H := H) i
    have c1 : ¬ nI n ≤ nI i := nI_ge hi (by omega)
    dsimp only
    rw [ulX5_guessByRopes_6, if_neg c1, um_isIn (by omega) (by omega), um_b1, um_gr, nI_1]
    generalize um_gr (um_gW P n) (um_gG P n H) P H i = g at *
    have hs : um_gL (i + 1) = nI i := by
      unfold um_gL
      rw [if_neg (show ¬ i + 1 = 0 by omega), Nat.add_sub_cancel]
    cases hb : H.testBit i
    · rw [if_pos (show nI (um_b2n false) = (0 : Int32) from rfl), if_neg (show ¬ (false = true) by decide)]
    · rw [if_neg (show ¬ nI (um_b2n true) = (0 : Int32) by decide), if_pos (show true = true from rfl)]
      by_cases hg : g = 0
      · rw [if_pos (show um_gL g = (-1011 : Int32) by rw [hg]; rfl), if_pos hg, hs]
      · have hgl : um_gL g = nI (g - 1) := if_neg hg
        rw [if_neg hg, hgl, if_neg (um_nI_neg (by omega)), um_isGreaterShare hn hi (by omega) hH hP, um_b1]
        cases hbt : um_bt (um_gW P n) (um_gG P n H) (P i) (P (g - 1))
        · rw [if_pos (show nI (um_b2n false) = (0 : Int32) from rfl), if_neg (show ¬ (false = true) by decide), hgl]
        · rw [if_neg (show ¬ nI (um_b2n true) = (0 : Int32) by decide), if_pos (show true = true from rfl), hs]
  · intro k
    show ulX5_guessByRopes_6 (nI n) (um_nv P) (nI H) (k + 1) _ _ = _
    have hle := um_gr_le (W := um_gW P n) (G := um_gG P n H) (P := P) (H := H) n
    dsimp only
    rw [ulX5_guessByRopes_6, if_pos (show nI n ≤ nI n from Int32.le_refl _)]
    generalize um_gr (um_gW P n) (um_gG P n H) P H n = g at *
    by_cases hg : g = 0
    · rw [if_pos hg, if_pos (show um_gL g = (-1011 : Int32) by rw [hg]; rfl)]
    · have hgl : um_gL g = nI (g - 1) := if_neg hg
      rw [if_neg hg, hgl, if_neg (um_nI_neg (by omega)), um_at (by omega) (by decide), um_b1]
theorem um_gI0 : (-1015 : Int32) = um_gI 0 := rfl
/-- the rounds of the guess parish by parish, on either side -/
theorem um_gp_0 {P : Nat → Nat} {n : Nat} : um_guess P n 0 = -1015 := by
  unfold um_guess
  rcases um_gp_inv (W := um_gW P n) (G := um_gG P n 0) (fun q => um_gG_le) 4 with ⟨e1, h1⟩ | ⟨p, hp, e1, h1⟩
  · rw [e1]; rfl
  · have := h1.1.2
    obtain ⟨j, _, h⟩ := um_cnt_pos.mp this
    simp at h
theorem um_guessByParishes {P : Nat → Nat} {n H : Nat} (hn : n ≤ 12) (hH : H < 2 ^ 12) (hP : ∀ r, r < n → P r < 4) : ufX5_guessByParishes (nI n) (um_nv P) (nI H) = some (um_guess P n H) := by
  have hP' : ∀ r, r < n → P r < 2 ^ 31 := fun r hr => by have := hP r hr; omega
  unfold ufX5_guessByParishes
  by_cases h0 : H = 0
  · subst h0
    rw [um_gp_0]
    rw [show ub_F = 4095 + 1 from rfl, ulX5_guessByParishes_12, if_neg (by decide), if_pos (show nI 0 = (0 : Int32) from rfl)]
  · have e := um_loop (fun k (s : Int32 × Int32 × Int32 × Int32) => ulX5_guessByParishes_12 (nI n) (um_nv P) (nI H) k s.1 s.2.1 s.2.2.1 s.2.2.2) (fun i => (um_gI (um_gp (um_gW P n) (um_gG P n H) i).1, nI (um_gp (um_gW P n) (um_gG P n H) i).2.1, nI (um_gp (um_gW P n) (um_gG P n H) i).2.2, nI i)) (K := some (um_guess P n H)) 0 4 (by omega) (by omega) ?_ ?_
    · exact e
    · intro i k _ hi
      show ulX5_guessByParishes_12 (nI n) (um_nv P) (nI H) (k + 1) _ _ _ _ = ulX5_guessByParishes_12 (nI n) (um_nv P) (nI H) k _ _ _ _
      have hz : ¬ nI H = 0 := nI_ne0 (by omega) (by omega)
      have eG : um_cnt (fun r => decide (P r = i) && H.testBit r) n = um_gG P n H i := rfl
      have eW : um_cnt (fun r => decide (P r = i)) n = um_gW P n i := rfl
      have hb := um_gp_le (W := um_gW P n) (G := um_gG P n H) (c := 12) (by decide) (fun q => Nat.le_trans um_cnt_le hn) (fun q => Nat.le_trans um_cnt_le hn) i
      have b1 : um_gG P n H i ≤ 12 := Nat.le_trans um_cnt_le hn
      have b3 : um_gW P n i ≤ 12 := Nat.le_trans um_cnt_le hn
      have b5 := Nat.mul_le_mul b1 hb.2.1
      have b6 := Nat.mul_le_mul hb.1 b3
      dsimp only
      rw [ulX5_guessByParishes_12, if_neg (show ¬ (4 : Int32) ≤ nI i from nI_ge hi (by decide)), if_neg hz, um_setOf hn (by omega) hP', um_b1, um_popSet hn, um_b1, um_and, um_set_and, um_popSet hn, um_b1, eG, eW, um_gp, pk_mul, pk_mul, nI_1]
      generalize um_gp (um_gW P n) (um_gG P n H) i = s at *
      generalize um_gG P n H i = g at *
      generalize um_gW P n i = w at *
      obtain ⟨sb, sp, sw⟩ := s
      simp only at b5 b6 hb ⊢
      generalize hx : g * sw = x at *
      generalize hy : sp * w = y at *
      have k1 : ((0 : Int32) < nI x - nI y) ↔ y < x := um_sub_gt0 (by omega) (by omega)
      have k2 : (nI x - nI y = (0 : Int32)) ↔ x = y := um_sub_eq0 (by omega) (by omega)
      have k3 : (nI g ≤ nI sp) ↔ g ≤ sp := nI_leI (by omega) (by omega)
      have hI : nI i = um_gI (i + 1) := rfl
      by_cases c1 : y < x
      · rw [if_pos (k1.mpr c1), if_pos (Or.inl c1)]
        show ulX5_guessByParishes_12 (nI n) (um_nv P) (nI H) k (nI i) (nI g) (nI w) (nI i + 1) = ulX5_guessByParishes_12 (nI n) (um_nv P) (nI H) k (um_gI (i + 1)) (nI g) (nI w) (nI (i + 1))
        rw [nI_1, ← hI]
      · rw [if_neg (fun z => c1 (k1.mp z))]
        by_cases c2 : x = y
        · rw [if_pos (k2.mpr c2)]
          by_cases c3 : g ≤ sp
          · rw [if_pos (k3.mpr c3), if_neg (by omega)]
          · rw [if_neg (fun z => c3 (k3.mp z)), if_pos (Or.inr ⟨c2, by omega⟩)]
            show ulX5_guessByParishes_12 (nI n) (um_nv P) (nI H) k (nI i) (nI g) (nI w) (nI i + 1) = ulX5_guessByParishes_12 (nI n) (um_nv P) (nI H) k (um_gI (i + 1)) (nI g) (nI w) (nI (i + 1))
            rw [nI_1, ← hI]
        · rw [if_neg (fun z => c2 (k2.mp z)), if_neg (by omega)]
    · intro k
      show ulX5_guessByParishes_12 (nI n) (um_nv P) (nI H) (k + 1) _ _ _ _ = _
      dsimp only
      rw [ulX5_guessByParishes_12, if_pos (show (4 : Int32) ≤ nI 4 by decide)]
      rfl
/-! ===== the reference ===== -/
def um_pa (f : Nat → Nat) (r : Nat) : Nat := f (11 + 6 * r)
theorem um_m1bit : ∀ i, i < 32 → ((-1 : Int32) >>> (nI i &&& 31)) &&& 1 = 1 := by decide +kernel
theorem um_ropesOf {f : Nat → Nat} {p H : Nat} (hn : f 0 ≤ 12) (hp : p < 4) (hH : H < 2 ^ 12) (hP : ∀ r, r < f 0 → f (11 + 6 * r) < 4) : ufX9_ropesOf (um_nv f) (nI p) (nI H) = some (nI (um_gG (um_pa f) (f 0) H p)) := by
  unfold ufX9_ropesOf um_gG um_pa
  refine um_loop (fun k (s : Int32 × Int32) => ulX9_ropesOf_5 (um_nv f) (nI p) (nI H) k s.1 s.2) (fun i => (nI (um_cnt (fun r => decide (f (11 + 6 * r) = p) && H.testBit r) i), nI i)) 0 (f 0) (by omega) (by omega) ?_ ?_
  · intro i k _ hi
    show ulX9_ropesOf_5 (um_nv f) (nI p) (nI H) (k + 1) _ _ = ulX9_ropesOf_5 (um_nv f) (nI p) (nI H) k _ _
    have hb := hP i hi
    rw [ulX9_ropesOf_5, um_cnt_s]
    by_cases h : f (11 + 6 * i) = p
    · cases hh : H.testBit i
      · simp -implicitDefEqProofs (disch := omega) only [um_l0, um_l1, um_l2, um_l3, um_l4, um_l5, um_l6, um_l7, um_l8, um_l9, um_l10, um_l11, um_l12, um_l16, um_l20, um_l23, um_l24, um_l31, um_l32, um_l35, um_l42, um_l43, um_l45, um_l48, um_l57, um_l58, um_l59, um_l60, um_l61, um_l63, um_l64, um_l68, um_l83, um_l99, um_l100, um_l101, um_l102, um_l103, um_l104, um_l105, um_l106, um_l107, um_l108, um_l109, um_l110, um_l111, um_l112, um_l113, um_l114, um_l115, um_l116, um_l117, um_l118, um_l126, um_l128, um_l130, um_l131, um_l132, um_l133, um_l134, um_l135, um_l180, um_l210, um_l211, um_l235, um_l1645, um_l1880, ↓um_nm, um_b1, um_b2, um_b3, um_b4, um_b5, um_b6, um_b7, um_b8, um_b9, um_b10, um_gd, um_bz0, um_bz1, um_m1, nI_add, pk_mul, um_sub_lt0, um_sub_gt0, um_sub_eq0, um_sub_le0, pk_sub, nI_ltI, nI_leI, nI_eq, nI_clamp, um_nv_at, um_nv_up, um_up_eq, um_up_ne, if_true, if_false, if_pos, if_neg, um_at, um_at0, um_put, um_add, um_x_at, Nat.add_zero, h, um_bit1, hh, um_b2n_f, Bool.and_false]
      · simp -implicitDefEqProofs (disch := omega) only [um_l0, um_l1, um_l2, um_l3, um_l4, um_l5, um_l6, um_l7, um_l8, um_l9, um_l10, um_l11, um_l12, um_l16, um_l20, um_l23, um_l24, um_l31, um_l32, um_l35, um_l42, um_l43, um_l45, um_l48, um_l57, um_l58, um_l59, um_l60, um_l61, um_l63, um_l64, um_l68, um_l83, um_l99, um_l100, um_l101, um_l102, um_l103, um_l104, um_l105, um_l106, um_l107, um_l108, um_l109, um_l110, um_l111, um_l112, um_l113, um_l114, um_l115, um_l116, um_l117, um_l118, um_l126, um_l128, um_l130, um_l131, um_l132, um_l133, um_l134, um_l135, um_l180, um_l210, um_l211, um_l235, um_l1645, um_l1880, ↓um_nm, um_b1, um_b2, um_b3, um_b4, um_b5, um_b6, um_b7, um_b8, um_b9, um_b10, um_gd, um_bz0, um_bz1, um_m1, nI_add, pk_mul, um_sub_lt0, um_sub_gt0, um_sub_eq0, um_sub_le0, pk_sub, nI_ltI, nI_leI, nI_eq, nI_clamp, um_nv_at, um_nv_up, um_up_eq, um_up_ne, if_true, if_false, if_pos, if_neg, um_at, um_at0, um_put, um_add, um_x_at, Nat.add_zero, h, um_bit1, hh, um_b2n_t, Bool.and_true, decide_true]
    · simp -implicitDefEqProofs (disch := omega) only [um_l0, um_l1, um_l2, um_l3, um_l4, um_l5, um_l6, um_l7, um_l8, um_l9, um_l10, um_l11, um_l12, um_l16, um_l20, um_l23, um_l24, um_l31, um_l32, um_l35, um_l42, um_l43, um_l45, um_l48, um_l57, um_l58, um_l59, um_l60, um_l61, um_l63, um_l64, um_l68, um_l83, um_l99, um_l100, um_l101, um_l102, um_l103, um_l104, um_l105, um_l106, um_l107, um_l108, um_l109, um_l110, um_l111, um_l112, um_l113, um_l114, um_l115, um_l116, um_l117, um_l118, um_l126, um_l128, um_l130, um_l131, um_l132, um_l133, um_l134, um_l135, um_l180, um_l210, um_l211, um_l235, um_l1645, um_l1880, ↓um_nm, um_b1, um_b2, um_b3, um_b4, um_b5, um_b6, um_b7, um_b8, um_b9, um_b10, um_gd, um_bz0, um_bz1, um_m1, nI_add, pk_mul, um_sub_lt0, um_sub_gt0, um_sub_eq0, um_sub_le0, pk_sub, nI_ltI, nI_leI, nI_eq, nI_clamp, um_nv_at, um_nv_up, um_up_eq, um_up_ne, if_true, if_false, if_pos, if_neg, um_at, um_at0, um_put, um_add, um_x_at, Nat.add_zero, h, decide_false, Bool.false_and, um_b2n_f]
  · intro k
    show ulX9_ropesOf_5 (um_nv f) (nI p) (nI H) (k + 1) _ _ = _
    rw [ulX9_ropesOf_5]
    simp -implicitDefEqProofs (disch := omega) only [um_l0, um_l1, um_l2, um_l3, um_l4, um_l5, um_l6, um_l7, um_l8, um_l9, um_l10, um_l11, um_l12, um_l16, um_l20, um_l23, um_l24, um_l31, um_l32, um_l35, um_l42, um_l43, um_l45, um_l48, um_l57, um_l58, um_l59, um_l60, um_l61, um_l63, um_l64, um_l68, um_l83, um_l99, um_l100, um_l101, um_l102, um_l103, um_l104, um_l105, um_l106, um_l107, um_l108, um_l109, um_l110, um_l111, um_l112, um_l113, um_l114, um_l115, um_l116, um_l117, um_l118, um_l126, um_l128, um_l130, um_l131, um_l132, um_l133, um_l134, um_l135, um_l180, um_l210, um_l211, um_l235, um_l1645, um_l1880, ↓um_nm, um_b1, um_b2, um_b3, um_b4, um_b5, um_b6, um_b7, um_b8, um_b9, um_b10, um_gd, um_bz0, um_bz1, um_m1, nI_add, pk_mul, um_sub_lt0, um_sub_gt0, um_sub_eq0, um_sub_le0, pk_sub, nI_ltI, nI_leI, nI_eq, nI_clamp, um_nv_at, um_nv_up, um_up_eq, um_up_ne, if_true, if_false, if_pos, if_neg, um_at, um_at0, um_put, um_add]
theorem um_ropesAll {f : Nat → Nat} {p : Nat} (hn : f 0 ≤ 12) (hp : p < 4) (hP : ∀ r, r < f 0 → f (11 + 6 * r) < 4) : ufX9_ropesOf (um_nv f) (nI p) (-1) = some (nI (um_gW (um_pa f) (f 0) p)) := by
  unfold ufX9_ropesOf um_gW um_pa
  refine um_loop (fun k (s : Int32 × Int32) => ulX9_ropesOf_5 (um_nv f) (nI p) (-1) k s.1 s.2) (fun i => (nI (um_cnt (fun r => decide (f (11 + 6 * r) = p)) i), nI i)) 0 (f 0) (by omega) (by omega) ?_ ?_
  · intro i k _ hi
    show ulX9_ropesOf_5 (um_nv f) (nI p) (-1) (k + 1) _ _ = ulX9_ropesOf_5 (um_nv f) (nI p) (-1) k _ _
    have hb := hP i hi
    rw [ulX9_ropesOf_5, um_cnt_s, if_pos (um_m1bit i (by omega))]
    by_cases h : f (11 + 6 * i) = p
    · simp -implicitDefEqProofs (disch := omega) only [um_l0, um_l1, um_l2, um_l3, um_l4, um_l5, um_l6, um_l7, um_l8, um_l9, um_l10, um_l11, um_l12, um_l16, um_l20, um_l23, um_l24, um_l31, um_l32, um_l35, um_l42, um_l43, um_l45, um_l48, um_l57, um_l58, um_l59, um_l60, um_l61, um_l63, um_l64, um_l68, um_l83, um_l99, um_l100, um_l101, um_l102, um_l103, um_l104, um_l105, um_l106, um_l107, um_l108, um_l109, um_l110, um_l111, um_l112, um_l113, um_l114, um_l115, um_l116, um_l117, um_l118, um_l126, um_l128, um_l130, um_l131, um_l132, um_l133, um_l134, um_l135, um_l180, um_l210, um_l211, um_l235, um_l1645, um_l1880, ↓um_nm, um_b1, um_b2, um_b3, um_b4, um_b5, um_b6, um_b7, um_b8, um_b9, um_b10, um_gd, um_bz0, um_bz1, um_m1, nI_add, pk_mul, um_sub_lt0, um_sub_gt0, um_sub_eq0, um_sub_le0, pk_sub, nI_ltI, nI_leI, nI_eq, nI_clamp, um_nv_at, um_nv_up, um_up_eq, um_up_ne, if_true, if_false, if_pos, if_neg, um_at, um_at0, um_put, um_add, um_x_at, Nat.add_zero, h, um_b2n_t, decide_true]
    · simp -implicitDefEqProofs (disch := omega) only [um_l0, um_l1, um_l2, um_l3, um_l4, um_l5, um_l6, um_l7, um_l8, um_l9, um_l10, um_l11, um_l12, um_l16, um_l20, um_l23, um_l24, um_l31, um_l32, um_l35, um_l42, um_l43, um_l45, um_l48, um_l57, um_l58, um_l59, um_l60, um_l61, um_l63, um_l64, um_l68, um_l83, um_l99, um_l100, um_l101, um_l102, um_l103, um_l104, um_l105, um_l106, um_l107, um_l108, um_l109, um_l110, um_l111, um_l112, um_l113, um_l114, um_l115, um_l116, um_l117, um_l118, um_l126, um_l128, um_l130, um_l131, um_l132, um_l133, um_l134, um_l135, um_l180, um_l210, um_l211, um_l235, um_l1645, um_l1880, ↓um_nm, um_b1, um_b2, um_b3, um_b4, um_b5, um_b6, um_b7, um_b8, um_b9, um_b10, um_gd, um_bz0, um_bz1, um_m1, nI_add, pk_mul, um_sub_lt0, um_sub_gt0, um_sub_eq0, um_sub_le0, pk_sub, nI_ltI, nI_leI, nI_eq, nI_clamp, um_nv_at, um_nv_up, um_up_eq, um_up_ne, if_true, if_false, if_pos, if_neg, um_at, um_at0, um_put, um_add, um_x_at, Nat.add_zero, h, decide_false, um_b2n_f]
  · intro k
    show ulX9_ropesOf_5 (um_nv f) (nI p) (-1) (k + 1) _ _ = _
    rw [ulX9_ropesOf_5]
    simp -implicitDefEqProofs (disch := omega) only [um_l0, um_l1, um_l2, um_l3, um_l4, um_l5, um_l6, um_l7, um_l8, um_l9, um_l10, um_l11, um_l12, um_l16, um_l20, um_l23, um_l24, um_l31, um_l32, um_l35, um_l42, um_l43, um_l45, um_l48, um_l57, um_l58, um_l59, um_l60, um_l61, um_l63, um_l64, um_l68, um_l83, um_l99, um_l100, um_l101, um_l102, um_l103, um_l104, um_l105, um_l106, um_l107, um_l108, um_l109, um_l110, um_l111, um_l112, um_l113, um_l114, um_l115, um_l116, um_l117, um_l118, um_l126, um_l128, um_l130, um_l131, um_l132, um_l133, um_l134, um_l135, um_l180, um_l210, um_l211, um_l235, um_l1645, um_l1880, ↓um_nm, um_b1, um_b2, um_b3, um_b4, um_b5, um_b6, um_b7, um_b8, um_b9, um_b10, um_gd, um_bz0, um_bz1, um_m1, nI_add, pk_mul, um_sub_lt0, um_sub_gt0, um_sub_eq0, um_sub_le0, pk_sub, nI_ltI, nI_leI, nI_eq, nI_clamp, um_nv_at, um_nv_up, um_up_eq, um_up_ne, if_true, if_false, if_pos, if_neg, um_at, um_at0, um_put, um_add]
def um_gJ (b : Nat) : Int32 := if b = 0 then (-1) else nI (b - 1)
theorem um_guessed112 {b : Nat} (hb : b < 2 ^ 30) : ujX9_guessed_112 (um_gJ b) = some (um_gI b) := by
  unfold ujX9_guessed_112 um_gJ um_gI
  by_cases h : b = 0
  · rw [if_pos h, if_pos h, if_neg (by decide)]
  · rw [if_neg h, if_neg h, if_pos (nI_pos' (by omega))]
theorem um_guessed {f : Nat → Nat} {h : Nat} (hn : f 0 ≤ 12) (hh : h < 24) (hH : f (211 + h) < 2 ^ 12) (hP : ∀ r, r < f 0 → f (11 + 6 * r) < 4) : ufX9_guessed (um_nv f) (nI h) = some (um_guess (um_pa f) (f 0) (f (211 + h))) := by
  unfold ufX9_guessed
  rw [show (211 : Int32) = nI 211 from rfl, nI_add, um_gd (by omega) (by decide), nI_clamp (by omega), um_nv_at]
  generalize f (211 + h) = H at *
  by_cases h0 : H = 0
  · subst h0
    rw [um_gp_0]
    rw [show ub_F = 4095 + 1 from rfl, ulX9_guessed_22, if_neg (by decide), if_pos (show nI 0 = (0 : Int32) from rfl)]
    exact um_guessed112 (b := 0) (by decide)
  · have e := um_loop (fun k (s : Int32 × Int32 × Int32 × Int32) => ulX9_guessed_22 (um_nv f) (nI H) k s.1 s.2.1 s.2.2.1 s.2.2.2) (fun i => (um_gJ (um_gp (um_gW (um_pa f) (f 0)) (um_gG (um_pa f) (f 0) H) i).1, nI (um_gp (um_gW (um_pa f) (f 0)) (um_gG (um_pa f) (f 0) H) i).2.1, nI (um_gp (um_gW (um_pa f) (f 0)) (um_gG (um_pa f) (f 0) H) i).2.2, nI i)) (K := some (um_guess (um_pa f) (f 0) H)) 0 4 (by omega) (by omega) ?_ ?_
    · exact e
    · intro i k _ hi
      show ulX9_guessed_22 (um_nv f) (nI H) (k + 1) _ _ _ _ = ulX9_guessed_22 (um_nv f) (nI H) k _ _ _ _
      have hz : ¬ nI H = 0 := nI_ne0 (by omega) (by omega)
      have hb := um_gp_le (W := um_gW (um_pa f) (f 0)) (G := um_gG (um_pa f) (f 0) H) (c := 12) (by decide) (fun q => Nat.le_trans um_cnt_le hn) (fun q => Nat.le_trans um_cnt_le hn) i
      have hGW := um_gG_le (P := um_pa f) (n := f 0) (H := H) (q := i)
      have b1 : um_gG (um_pa f) (f 0) H i ≤ 12 := Nat.le_trans um_cnt_le hn
      have b3 : um_gW (um_pa f) (f 0) i ≤ 12 := Nat.le_trans um_cnt_le hn
      have b5 := Nat.mul_le_mul b1 hb.2.1
      have b6 := Nat.mul_le_mul hb.1 b3
      dsimp only
      rw [ulX9_guessed_22, if_neg (show ¬ (4 : Int32) ≤ nI i from nI_ge hi (by decide)), if_neg hz, um_ropesOf hn hi hH hP, um_b1, um_ropesAll hn hi hP, um_b1, um_gp, pk_mul, pk_mul, nI_1]
      generalize um_gp (um_gW (um_pa f) (f 0)) (um_gG (um_pa f) (f 0) H) i = s at *
      generalize um_gG (um_pa f) (f 0) H i = g at *
      generalize um_gW (um_pa f) (f 0) i = w at *
      obtain ⟨sb, sp, sw⟩ := s
      simp only at b5 b6 hb ⊢
      have hsb := hb.2.2.1
      have hs0 : sb = 0 → sp = 0 ∧ sw = 1 := fun z => by
        have := hb.2.2.2 z
        simp only [Prod.mk.injEq] at this
        exact this.2
      by_cases c0 : g = 0
      · rw [if_pos (by rw [c0]; rfl), if_neg (by rw [c0]; simp)]
      · rw [if_neg (nI_ne0 (by omega) (by omega))]
        have hI : nI i = um_gJ (i + 1) := rfl
        by_cases c1 : sb = 0
        · obtain ⟨z1, z2⟩ := hs0 c1
          subst z1 z2 c1
          rw [if_pos (by decide), if_pos (Or.inl (by simp; omega))]
          show ulX9_guessed_22 (um_nv f) (nI H) k (nI i) (nI g) (nI w) (nI i + 1) = ulX9_guessed_22 (um_nv f) (nI H) k (um_gJ (i + 1)) (nI g) (nI w) (nI (i + 1))
          rw [nI_1, ← hI]
        · have hneg : ¬ um_gJ sb < 0 := by
            unfold um_gJ
            rw [if_neg c1]
            exact nI_pos (by omega)
          rw [if_neg hneg]
          generalize hx : g * sw = x at *
          generalize hy : sp * w = y at *
          have k1 : (nI x - nI y < (0 : Int32)) ↔ x < y := um_sub_lt0 (by omega) (by omega)
          have k2 : (nI x - nI y = (0 : Int32)) ↔ x = y := um_sub_eq0 (by omega) (by omega)
          have k3 : (nI sp < nI g) ↔ sp < g := nI_ltI (by omega) (by omega)
          by_cases c2 : x < y
          · rw [if_pos (k1.mpr c2), if_neg (by omega)]
          · rw [if_neg (fun z => c2 (k1.mp z))]
            by_cases c3 : x = y
            · rw [if_pos (k2.mpr c3)]
              by_cases c4 : sp < g
              · rw [if_pos (k3.mpr c4), if_pos (Or.inr ⟨c3, c4⟩)]
                show ulX9_guessed_22 (um_nv f) (nI H) k (nI i) (nI g) (nI w) (nI i + 1) = ulX9_guessed_22 (um_nv f) (nI H) k (um_gJ (i + 1)) (nI g) (nI w) (nI (i + 1))
                rw [nI_1, ← hI]
              · rw [if_neg (fun z => c4 (k3.mp z)), if_neg (by omega)]
            · rw [if_neg (fun z => c3 (k2.mp z)), if_pos (Or.inl (by omega))]
              show ulX9_guessed_22 (um_nv f) (nI H) k (nI i) (nI g) (nI w) (nI i + 1) = ulX9_guessed_22 (um_nv f) (nI H) k (um_gJ (i + 1)) (nI g) (nI w) (nI (i + 1))
              rw [nI_1, ← hI]
    · intro k
      show ulX9_guessed_22 (um_nv f) (nI H) (k + 1) _ _ _ _ = _
      have hb := um_gp_le (W := um_gW (um_pa f) (f 0)) (G := um_gG (um_pa f) (f 0) H) (c := 12) (by decide) (fun q => Nat.le_trans um_cnt_le hn) (fun q => Nat.le_trans um_cnt_le hn) 4
      dsimp only
      rw [ulX9_guessed_22, if_pos (show (4 : Int32) ≤ nI 4 by decide)]
      exact um_guessed112 (by omega)
theorem um_gp_congr {W G W' G' : Nat → Nat} : ∀ i, (∀ q, q < i → W q = W' q ∧ G q = G' q) → um_gp W G i = um_gp W' G' i
  | 0, _ => rfl
  | i + 1, h => by rw [um_gp, um_gp, um_gp_congr i (fun q hq => h q (by omega)), (h i (by omega)).1, (h i (by omega)).2]
theorem um_guess_congr {P Q : Nat → Nat} {n H : Nat} (h : ∀ r, r < n → P r = Q r) : um_guess P n H = um_guess Q n H := by
  unfold um_guess
  rw [um_gp_congr (W := um_gW P n) (G := um_gG P n H) (W' := um_gW Q n) (G' := um_gG Q n H) 4 (fun q _ => ⟨um_cnt_congr (fun i hi => by rw [h i hi]), um_cnt_congr (fun i hi => by rw [h i hi])⟩)]
