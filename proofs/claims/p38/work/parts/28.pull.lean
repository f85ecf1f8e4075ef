/-! ===== a pull that comes: its place ===== -/
def um_bef (f : Nat → Nat) (i r h s : Nat) : Bool := if h = f (84 + 3 * i) then (if s = f (85 + 3 * i) then decide (r < f (83 + 3 * i)) else decide (f (85 + 3 * i) < s)) else decide (h < f (84 + 3 * i))
def um_pos (f : Nat → Nat) (r h s : Nat) : Nat → Nat
  | 0 => 0
  | i + 1 => if um_bef f i r h s then um_pos f r h s i else i + 1
theorem um_pos_le {f : Nat → Nat} {r h s : Nat} : ∀ i, um_pos f r h s i ≤ i
  | 0 => Nat.le_refl _
  | i + 1 => by
    rw [um_pos]
    split
    · exact Nat.le_succ_of_le (um_pos_le i)
    · exact Nat.le_refl _
def um_sh (f : Nat → Nat) (p n : Nat) : Nat → Nat := um_mix (86 + 3 * p) (86 + 3 * n) (fun q => f (q - 3)) f
def um_insF (f : Nat → Nat) (p r h s : Nat) : Nat → Nat :=
  um_up (um_up (um_up (um_up (um_up (um_sh f p (f 1)) (83 + 3 * p) r) (84 + 3 * p) h) (85 + 3 * p) s) 1 (f 1 + 1)) 4 (f 4 + 1)
theorem um_isAhead9 {f : Nat → Nat} {i r h s : Nat} (hi : i < 16) (hr : r < 12) (hh : h < 24) (hs : s < 10) (h1 : f (83 + 3 * i) < 12) (h2 : f (84 + 3 * i) < 24) (h3 : f (85 + 3 * i) < 10) : ufX9_isAhead (um_nv f) (nI i) (nI r) (nI h) (nI s) = some (nI (um_b2n (!um_bef f i r h s))) := by
  have e0 : 83 + 3 * i + 0 = 83 + 3 * i := by omega
  have e1 : 83 + 3 * i + 1 = 84 + 3 * i := by omega
  have e2 : 83 + 3 * i + 2 = 85 + 3 * i := by omega
  unfold ufX9_isAhead um_bef
  by_cases c1 : h = f (84 + 3 * i)
  · by_cases c2 : s = f (85 + 3 * i)
    · rw [if_pos c1, if_pos c2]
      by_cases c3 : r < f (83 + 3 * i)
      · rw [decide_eq_true c3]
        simp -implicitDefEqProofs (disch := omega) only [um_l0, um_l1, um_l2, um_l3, um_l4, um_l5, um_l6, um_l7, um_l8, um_l9, um_l10, um_l11, um_l12, um_l16, um_l20, um_l23, um_l24, um_l31, um_l32, um_l35, um_l42, um_l43, um_l45, um_l48, um_l57, um_l58, um_l59, um_l60, um_l61, um_l63, um_l64, um_l68, um_l83, um_l99, um_l100, um_l101, um_l102, um_l103, um_l104, um_l105, um_l106, um_l107, um_l108, um_l109, um_l110, um_l111, um_l112, um_l113, um_l114, um_l115, um_l116, um_l117, um_l118, um_l126, um_l128, um_l130, um_l131, um_l132, um_l133, um_l134, um_l135, um_l180, um_l210, um_l211, um_l235, um_l1645, um_l1880, ↓um_nm, um_b1, um_b2, um_b3, um_b4, um_b5, um_b6, um_b7, um_b8, um_b9, um_b10, um_gd, um_bz0, um_bz1, um_m1, nI_add, pk_mul, um_sub_lt0, um_sub_gt0, um_sub_eq0, um_sub_le0, pk_sub, nI_ltI, nI_leI, nI_eq, nI_clamp, um_nv_at, um_nv_up, um_up_eq, um_up_ne, if_true, if_false, if_pos, if_neg, um_at, um_at0, um_put, um_add, um_pulled, e0, e1, e2, ujX9_isAhead_29, ujX9_isAhead_49]
        rfl
      · rw [decide_eq_false c3]
        simp -implicitDefEqProofs (disch := omega) only [um_l0, um_l1, um_l2, um_l3, um_l4, um_l5, um_l6, um_l7, um_l8, um_l9, um_l10, um_l11, um_l12, um_l16, um_l20, um_l23, um_l24, um_l31, um_l32, um_l35, um_l42, um_l43, um_l45, um_l48, um_l57, um_l58, um_l59, um_l60, um_l61, um_l63, um_l64, um_l68, um_l83, um_l99, um_l100, um_l101, um_l102, um_l103, um_l104, um_l105, um_l106, um_l107, um_l108, um_l109, um_l110, um_l111, um_l112, um_l113, um_l114, um_l115, um_l116, um_l117, um_l118, um_l126, um_l128, um_l130, um_l131, um_l132, um_l133, um_l134, um_l135, um_l180, um_l210, um_l211, um_l235, um_l1645, um_l1880, ↓um_nm, um_b1, um_b2, um_b3, um_b4, um_b5, um_b6, um_b7, um_b8, um_b9, um_b10, um_gd, um_bz0, um_bz1, um_m1, nI_add, pk_mul, um_sub_lt0, um_sub_gt0, um_sub_eq0, um_sub_le0, pk_sub, nI_ltI, nI_leI, nI_eq, nI_clamp, um_nv_at, um_nv_up, um_up_eq, um_up_ne, if_true, if_false, if_pos, if_neg, um_at, um_at0, um_put, um_add, um_pulled, e0, e1, e2, ujX9_isAhead_29, ujX9_isAhead_49]
        rfl
    · rw [if_pos c1, if_neg c2]
      by_cases c3 : f (85 + 3 * i) < s
      · rw [decide_eq_true c3]
        simp -implicitDefEqProofs (disch := omega) only [um_l0, um_l1, um_l2, um_l3, um_l4, um_l5, um_l6, um_l7, um_l8, um_l9, um_l10, um_l11, um_l12, um_l16, um_l20, um_l23, um_l24, um_l31, um_l32, um_l35, um_l42, um_l43, um_l45, um_l48, um_l57, um_l58, um_l59, um_l60, um_l61, um_l63, um_l64, um_l68, um_l83, um_l99, um_l100, um_l101, um_l102, um_l103, um_l104, um_l105, um_l106, um_l107, um_l108, um_l109, um_l110, um_l111, um_l112, um_l113, um_l114, um_l115, um_l116, um_l117, um_l118, um_l126, um_l128, um_l130, um_l131, um_l132, um_l133, um_l134, um_l135, um_l180, um_l210, um_l211, um_l235, um_l1645, um_l1880, ↓um_nm, um_b1, um_b2, um_b3, um_b4, um_b5, um_b6, um_b7, um_b8, um_b9, um_b10, um_gd, um_bz0, um_bz1, um_m1, nI_add, pk_mul, um_sub_lt0, um_sub_gt0, um_sub_eq0, um_sub_le0, pk_sub, nI_ltI, nI_leI, nI_eq, nI_clamp, um_nv_at, um_nv_up, um_up_eq, um_up_ne, if_true, if_false, if_pos, if_neg, um_at, um_at0, um_put, um_add, um_pulled, e0, e1, e2, ujX9_isAhead_29, ujX9_isAhead_49]
        rfl
      · rw [decide_eq_false c3]
        simp -implicitDefEqProofs (disch := omega) only [um_l0, um_l1, um_l2, um_l3, um_l4, um_l5, um_l6, um_l7, um_l8, um_l9, um_l10, um_l11, um_l12, um_l16, um_l20, um_l23, um_l24, um_l31, um_l32, um_l35, um_l42, um_l43, um_l45, um_l48, um_l57, um_l58, um_l59, um_l60, um_l61, um_l63, um_l64, um_l68, um_l83, um_l99, um_l100, um_l101, um_l102, um_l103, um_l104, um_l105, um_l106, um_l107, um_l108, um_l109, um_l110, um_l111, um_l112, um_l113, um_l114, um_l115, um_l116, um_l117, um_l118, um_l126, um_l128, um_l130, um_l131, um_l132, um_l133, um_l134, um_l135, um_l180, um_l210, um_l211, um_l235, um_l1645, um_l1880, ↓um_nm, um_b1, um_b2, um_b3, um_b4, um_b5, um_b6, um_b7, um_b8, um_b9, um_b10, um_gd, um_bz0, um_bz1, um_m1, nI_add, pk_mul, um_sub_lt0, um_sub_gt0, um_sub_eq0, um_sub_le0, pk_sub, nI_ltI, nI_leI, nI_eq, nI_clamp, um_nv_at, um_nv_up, um_up_eq, um_up_ne, if_true, if_false, if_pos, if_neg, um_at, um_at0, um_put, um_add, um_pulled, e0, e1, e2, ujX9_isAhead_29, ujX9_isAhead_49]
        rfl
  · rw [if_neg c1]
    by_cases c3 : h < f (84 + 3 * i)
    · rw [decide_eq_true c3]
      simp -implicitDefEqProofs (disch := omega) only [um_l0, um_l1, um_l2, um_l3, um_l4, um_l5, um_l6, um_l7, um_l8, um_l9, um_l10, um_l11, um_l12, um_l16, um_l20, um_l23, um_l24, um_l31, um_l32, um_l35, um_l42, um_l43, um_l45, um_l48, um_l57, um_l58, um_l59, um_l60, um_l61, um_l63, um_l64, um_l68, um_l83, um_l99, um_l100, um_l101, um_l102, um_l103, um_l104, um_l105, um_l106, um_l107, um_l108, um_l109, um_l110, um_l111, um_l112, um_l113, um_l114, um_l115, um_l116, um_l117, um_l118, um_l126, um_l128, um_l130, um_l131, um_l132, um_l133, um_l134, um_l135, um_l180, um_l210, um_l211, um_l235, um_l1645, um_l1880, ↓um_nm, um_b1, um_b2, um_b3, um_b4, um_b5, um_b6, um_b7, um_b8, um_b9, um_b10, um_gd, um_bz0, um_bz1, um_m1, nI_add, pk_mul, um_sub_lt0, um_sub_gt0, um_sub_eq0, um_sub_le0, pk_sub, nI_ltI, nI_leI, nI_eq, nI_clamp, um_nv_at, um_nv_up, um_up_eq, um_up_ne, if_true, if_false, if_pos, if_neg, um_at, um_at0, um_put, um_add, um_pulled, e0, e1, e2, ujX9_isAhead_29, ujX9_isAhead_49]
      rfl
    · rw [decide_eq_false c3]
      simp -implicitDefEqProofs (disch := omega) only [um_l0, um_l1, um_l2, um_l3, um_l4, um_l5, um_l6, um_l7, um_l8, um_l9, um_l10, um_l11, um_l12, um_l16, um_l20, um_l23, um_l24, um_l31, um_l32, um_l35, um_l42, um_l43, um_l45, um_l48, um_l57, um_l58, um_l59, um_l60, um_l61, um_l63, um_l64, um_l68, um_l83, um_l99, um_l100, um_l101, um_l102, um_l103, um_l104, um_l105, um_l106, um_l107, um_l108, um_l109, um_l110, um_l111, um_l112, um_l113, um_l114, um_l115, um_l116, um_l117, um_l118, um_l126, um_l128, um_l130, um_l131, um_l132, um_l133, um_l134, um_l135, um_l180, um_l210, um_l211, um_l235, um_l1645, um_l1880, ↓um_nm, um_b1, um_b2, um_b3, um_b4, um_b5, um_b6, um_b7, um_b8, um_b9, um_b10, um_gd, um_bz0, um_bz1, um_m1, nI_add, pk_mul, um_sub_lt0, um_sub_gt0, um_sub_eq0, um_sub_le0, pk_sub, nI_ltI, nI_leI, nI_eq, nI_clamp, um_nv_at, um_nv_up, um_up_eq, um_up_ne, if_true, if_false, if_pos, if_neg, um_at, um_at0, um_put, um_add, um_pulled, e0, e1, e2, ujX9_isAhead_29, ujX9_isAhead_49]
      rfl
theorem um_waits111 {nx : (Nat → Int32) → Int32 → Option (Int32 × Int32 × Int32 × Int32 × (Nat → Int32))} {d a w l1 l2 l3 : Int32} {g : Nat → Nat} {i : Nat} (h1 : 1 ≤ i) (hi : i < 16) : ulX9_waits_111 nx d a w l1 l2 l3 (nI i) ub_F (um_nv g) (nI 0) = nx (um_nv (um_mix (83 + 3 * i) (86 + 3 * i) (fun q => g (q - 3)) g)) (nI (i - 1)) := by
  have e := um_loop (fun k (s : (Nat → Int32) × Int32) => ulX9_waits_111 nx d a w l1 l2 l3 (nI i) k s.1 s.2) (fun j => (um_nv (um_mix (83 + 3 * i) (83 + 3 * i + j) (fun q => g (q - 3)) g), nI j)) (K := nx (um_nv (um_mix (83 + 3 * i) (86 + 3 * i) (fun q => g (q - 3)) g)) (nI (i - 1))) 0 3 (by decide) (by decide) ?_ ?_
  · simp only [Nat.add_zero, um_mix_0] at e
    exact e
  · intro j k _ hj
    show ulX9_waits_111 nx d a w l1 l2 l3 (nI i) (k + 1) _ _ = ulX9_waits_111 nx d a w l1 l2 l3 (nI i) k _ _
    have i1 : 83 + 3 * i - 3 + j = 83 + 3 * i + j - 3 := by omega
    rw [ulX9_waits_111, show 83 + 3 * i + (j + 1) = (83 + 3 * i + j) + 1 from rfl, ← um_mix_s (a := 83 + 3 * i) (i := 83 + 3 * i + j) (g := fun q => g (q - 3)) (by omega) (show g (83 + 3 * i + j - 3) = (fun q => g (q - 3)) (83 + 3 * i + j) from rfl)]
    simp -implicitDefEqProofs (disch := omega) only [um_l0, um_l1, um_l2, um_l3, um_l4, um_l5, um_l6, um_l7, um_l8, um_l9, um_l10, um_l11, um_l12, um_l16, um_l20, um_l23, um_l24, um_l31, um_l32, um_l35, um_l42, um_l43, um_l45, um_l48, um_l57, um_l58, um_l59, um_l60, um_l61, um_l63, um_l64, um_l68, um_l83, um_l99, um_l100, um_l101, um_l102, um_l103, um_l104, um_l105, um_l106, um_l107, um_l108, um_l109, um_l110, um_l111, um_l112, um_l113, um_l114, um_l115, um_l116, um_l117, um_l118, um_l126, um_l128, um_l130, um_l131, um_l132, um_l133, um_l134, um_l135, um_l180, um_l210, um_l211, um_l235, um_l1645, um_l1880, ↓um_nm, um_b1, um_b2, um_b3, um_b4, um_b5, um_b6, um_b7, um_b8, um_b9, um_b10, um_gd, um_bz0, um_bz1, um_m1, nI_add, pk_mul, um_sub_lt0, um_sub_gt0, um_sub_eq0, um_sub_le0, pk_sub, nI_ltI, nI_leI, nI_eq, nI_clamp, um_nv_at, um_nv_up, um_up_eq, um_up_ne, if_true, if_false, if_pos, if_neg, um_at, um_at0, um_put, um_add, i1, um_mix_out]
  · intro k
    show ulX9_waits_111 nx d a w l1 l2 l3 (nI i) (k + 1) _ _ = _
    have e3 : 83 + 3 * i + 3 = 86 + 3 * i := by omega
    rw [ulX9_waits_111, e3]
    simp -implicitDefEqProofs (disch := omega) only [um_l0, um_l1, um_l2, um_l3, um_l4, um_l5, um_l6, um_l7, um_l8, um_l9, um_l10, um_l11, um_l12, um_l16, um_l20, um_l23, um_l24, um_l31, um_l32, um_l35, um_l42, um_l43, um_l45, um_l48, um_l57, um_l58, um_l59, um_l60, um_l61, um_l63, um_l64, um_l68, um_l83, um_l99, um_l100, um_l101, um_l102, um_l103, um_l104, um_l105, um_l106, um_l107, um_l108, um_l109, um_l110, um_l111, um_l112, um_l113, um_l114, um_l115, um_l116, um_l117, um_l118, um_l126, um_l128, um_l130, um_l131, um_l132, um_l133, um_l134, um_l135, um_l180, um_l210, um_l211, um_l235, um_l1645, um_l1880, ↓um_nm, um_b1, um_b2, um_b3, um_b4, um_b5, um_b6, um_b7, um_b8, um_b9, um_b10, um_gd, um_bz0, um_bz1, um_m1, nI_add, pk_mul, um_sub_lt0, um_sub_gt0, um_sub_eq0, um_sub_le0, pk_sub, nI_ltI, nI_leI, nI_eq, nI_clamp, um_nv_at, um_nv_up, um_up_eq, um_up_ne, if_true, if_false, if_pos, if_neg, um_at, um_at0, um_put, um_add]
theorem um_sh_s {f : Nat → Nat} {i n : Nat} (hi : 1 ≤ i) (h : i ≤ n) : um_mix (83 + 3 * i) (86 + 3 * i) (fun q => um_sh f i n (q - 3)) (um_sh f i n) = um_sh f (i - 1) n := by
  funext q
  unfold um_sh
  by_cases c1 : 83 + 3 * i ≤ q ∧ q < 86 + 3 * i
  · rw [um_mix_in c1, um_mix_out (by omega), um_mix_in (by omega)]
  · rw [um_mix_out (by omega)]
    by_cases c2 : 86 + 3 * i ≤ q ∧ q < 86 + 3 * n
    · rw [um_mix_in c2, um_mix_in (by omega)]
    · rw [um_mix_out (by omega), um_mix_out (by omega)]
theorem um_sh_0 {f : Nat → Nat} {n : Nat} : um_sh f n n = f := um_mix_0
theorem um_waits161 {d a w : Int32} {f : Nat → Nat} {p r h s : Nat} (hp : p < 16) (h1 : f 1 ≤ 16) : ujX9_waits_161 d a w (um_nv (um_sh f p (f 1))) (nI r) (nI h) (nI s) (nI p) = some (nI p, d, a, w, um_nv (um_insF f p r h s)) := by
  have e1 : 83 + 3 * p + 1 = 84 + 3 * p := by omega
  have e2 : 83 + 3 * p + 2 = 85 + 3 * p := by omega
  have g1 : um_sh f p (f 1) 1 = f 1 := um_mix_out (by omega)
  have g4 : um_sh f p (f 1) 4 = f 4 := um_mix_out (by omega)
  unfold ujX9_waits_161
  simp -implicitDefEqProofs (disch := omega) only [um_l0, um_l1, um_l2, um_l3, um_l4, um_l5, um_l6, um_l7, um_l8, um_l9, um_l10, um_l11, um_l12, um_l16, um_l20, um_l23, um_l24, um_l31, um_l32, um_l35, um_l42, um_l43, um_l45, um_l48, um_l57, um_l58, um_l59, um_l60, um_l61, um_l63, um_l64, um_l68, um_l83, um_l99, um_l100, um_l101, um_l102, um_l103, um_l104, um_l105, um_l106, um_l107, um_l108, um_l109, um_l110, um_l111, um_l112, um_l113, um_l114, um_l115, um_l116, um_l117, um_l118, um_l126, um_l128, um_l130, um_l131, um_l132, um_l133, um_l134, um_l135, um_l180, um_l210, um_l211, um_l235, um_l1645, um_l1880, ↓um_nm, um_b1, um_b2, um_b3, um_b4, um_b5, um_b6, um_b7, um_b8, um_b9, um_b10, um_gd, um_bz0, um_bz1, um_m1, nI_add, pk_mul, um_sub_lt0, um_sub_gt0, um_sub_eq0, um_sub_le0, pk_sub, nI_ltI, nI_leI, nI_eq, nI_clamp, um_nv_at, um_nv_up, um_up_eq, um_up_ne, if_true, if_false, if_pos, if_neg, um_at, um_at0, um_put, um_add, e1, e2, g1, g4]
  rfl
theorem um_waits89 {d a w : Int32} {f : Nat → Nat} {r h s : Nat} (h1 : f 1 < 16) (hr : r < 12) (hh : h < 24) (hs : s < 10) (hb : ∀ k, k < f 1 → f (83 + 3 * k) < 12 ∧ f (84 + 3 * k) < 24 ∧ f (85 + 3 * k) < 10) : ∀ i k, i ≤ f 1 → i < k → ulX9_waits_89 d a w (nI r) (nI h) (nI s) k (um_nv (um_sh f i (f 1))) (nI i) = some (nI (um_pos f r h s i), d, a, w, um_nv (um_insF f (um_pos f r h s i) r h s))
  | 0, 0, _, hk => absurd hk (Nat.lt_irrefl _)
  | 0, k + 1, _, _ => by
    rw [ulX9_waits_89]
    simp -implicitDefEqProofs (disch := omega) only [um_l0, um_l1, um_l2, um_l3, um_l4, um_l5, um_l6, um_l7, um_l8, um_l9, um_l10, um_l11, um_l12, um_l16, um_l20, um_l23, um_l24, um_l31, um_l32, um_l35, um_l42, um_l43, um_l45, um_l48, um_l57, um_l58, um_l59, um_l60, um_l61, um_l63, um_l64, um_l68, um_l83, um_l99, um_l100, um_l101, um_l102, um_l103, um_l104, um_l105, um_l106, um_l107, um_l108, um_l109, um_l110, um_l111, um_l112, um_l113, um_l114, um_l115, um_l116, um_l117, um_l118, um_l126, um_l128, um_l130, um_l131, um_l132, um_l133, um_l134, um_l135, um_l180, um_l210, um_l211, um_l235, um_l1645, um_l1880, ↓um_nm, um_b1, um_b2, um_b3, um_b4, um_b5, um_b6, um_b7, um_b8, um_b9, um_b10, um_gd, um_bz0, um_bz1, um_m1, nI_add, pk_mul, um_sub_lt0, um_sub_gt0, um_sub_eq0, um_sub_le0, pk_sub, nI_ltI, nI_leI, nI_eq, nI_clamp, um_nv_at, um_nv_up, um_up_eq, um_up_ne, if_true, if_false, if_pos, if_neg, um_at, um_at0, um_put, um_add]
    exact um_waits161 (by omega) (by omega)
  | i + 1, 0, _, hk => absurd hk (Nat.not_lt_zero _)
  | i + 1, k + 1, hi, hk => by
    have g1 : um_sh f (i + 1) (f 1) (83 + 3 * i) = f (83 + 3 * i) := um_mix_out (by omega)
    have g2 : um_sh f (i + 1) (f 1) (84 + 3 * i) = f (84 + 3 * i) := um_mix_out (by omega)
    have g3 : um_sh f (i + 1) (f 1) (85 + 3 * i) = f (85 + 3 * i) := um_mix_out (by omega)
    have hbi := hb i (by omega)
    have eb : um_bef (um_sh f (i + 1) (f 1)) i r h s = um_bef f i r h s := by
      unfold um_bef
      rw [g1, g2, g3]
    have ea := um_isAhead9 (f := um_sh f (i + 1) (f 1)) (i := i) (by omega) hr hh hs (by rw [g1]; exact hbi.1) (by rw [g2]; exact hbi.2.1) (by rw [g3]; exact hbi.2.2)
    rw [eb] at ea
    rw [ulX9_waits_89, um_pos]
    cases hbb : um_bef f i r h s
    · rw [hbb] at ea
      simp -implicitDefEqProofs (disch := omega) only [um_l0, um_l1, um_l2, um_l3, um_l4, um_l5, um_l6, um_l7, um_l8, um_l9, um_l10, um_l11, um_l12, um_l16, um_l20, um_l23, um_l24, um_l31, um_l32, um_l35, um_l42, um_l43, um_l45, um_l48, um_l57, um_l58, um_l59, um_l60, um_l61, um_l63, um_l64, um_l68, um_l83, um_l99, um_l100, um_l101, um_l102, um_l103, um_l104, um_l105, um_l106, um_l107, um_l108, um_l109, um_l110, um_l111, um_l112, um_l113, um_l114, um_l115, um_l116, um_l117, um_l118, um_l126, um_l128, um_l130, um_l131, um_l132, um_l133, um_l134, um_l135, um_l180, um_l210, um_l211, um_l235, um_l1645, um_l1880, ↓um_nm, um_b1, um_b2, um_b3, um_b4, um_b5, um_b6, um_b7, um_b8, um_b9, um_b10, um_gd, um_bz0, um_bz1, um_m1, nI_add, pk_mul, um_sub_lt0, um_sub_gt0, um_sub_eq0, um_sub_le0, pk_sub, nI_ltI, nI_leI, nI_eq, nI_clamp, um_nv_at, um_nv_up, um_up_eq, um_up_ne, if_true, if_false, if_pos, if_neg, um_at, um_at0, um_put, um_add, Nat.add_sub_cancel, ea, Bool.not_false, um_b2n_t, Bool.false_eq_true, if_false]
      exact um_waits161 (by omega) (by omega)
    · rw [hbb] at ea
      simp -implicitDefEqProofs (disch := omega) only [um_l0, um_l1, um_l2, um_l3, um_l4, um_l5, um_l6, um_l7, um_l8, um_l9, um_l10, um_l11, um_l12, um_l16, um_l20, um_l23, um_l24, um_l31, um_l32, um_l35, um_l42, um_l43, um_l45, um_l48, um_l57, um_l58, um_l59, um_l60, um_l61, um_l63, um_l64, um_l68, um_l83, um_l99, um_l100, um_l101, um_l102, um_l103, um_l104, um_l105, um_l106, um_l107, um_l108, um_l109, um_l110, um_l111, um_l112, um_l113, um_l114, um_l115, um_l116, um_l117, um_l118, um_l126, um_l128, um_l130, um_l131, um_l132, um_l133, um_l134, um_l135, um_l180, um_l210, um_l211, um_l235, um_l1645, um_l1880, ↓um_nm, um_b1, um_b2, um_b3, um_b4, um_b5, um_b6, um_b7, um_b8, um_b9, um_b10, um_gd, um_bz0, um_bz1, um_m1, nI_add, pk_mul, um_sub_lt0, um_sub_gt0, um_sub_eq0, um_sub_le0, pk_sub, nI_ltI, nI_leI, nI_eq, nI_clamp, um_nv_at, um_nv_up, um_up_eq, um_up_ne, if_true, if_false, if_pos, if_neg, um_at, um_at0, um_put, um_add, Nat.add_sub_cancel, ea, Bool.not_true, um_b2n_f, if_true, um_waits111, um_sh_s]
      exact um_waits89 h1 hr hh hs hb i k (by omega) (by omega)
/-- the class puts it at the same place -/
theorem um_isAheadOf {f ph pr ps : Nat → Nat} {i r h s : Nat} (hi : i < 16) (hr : r < 12) (hh : h < 24) (hs : s < 10) (g1 : pr i = f (83 + 3 * i)) (g2 : ph i = f (84 + 3 * i)) (g3 : ps i = f (85 + 3 * i)) (h1 : f (83 + 3 * i) < 12) (h2 : f (84 + 3 * i) < 24) (h3 : f (85 + 3 * i) < 10) : ufX4_isAheadOf (um_nv ph) (um_nv pr) (um_nv ps) (nI i) (nI r) (nI h) (nI s) = some (nI (um_b2n (um_bef f i r h s))) := by
  unfold ufX4_isAheadOf um_bef
  by_cases c1 : h = f (84 + 3 * i)
  · by_cases c2 : s = f (85 + 3 * i)
    · rw [if_pos c1, if_pos c2]
      by_cases c3 : r < f (83 + 3 * i)
      · rw [decide_eq_true c3]
        simp -implicitDefEqProofs (disch := omega) only [um_l0, um_l1, um_l2, um_l3, um_l4, um_l5, um_l6, um_l7, um_l8, um_l9, um_l10, um_l11, um_l12, um_l16, um_l20, um_l23, um_l24, um_l31, um_l32, um_l35, um_l42, um_l43, um_l45, um_l48, um_l57, um_l58, um_l59, um_l60, um_l61, um_l63, um_l64, um_l68, um_l83, um_l99, um_l100, um_l101, um_l102, um_l103, um_l104, um_l105, um_l106, um_l107, um_l108, um_l109, um_l110, um_l111, um_l112, um_l113, um_l114, um_l115, um_l116, um_l117, um_l118, um_l126, um_l128, um_l130, um_l131, um_l132, um_l133, um_l134, um_l135, um_l180, um_l210, um_l211, um_l235, um_l1645, um_l1880, ↓um_nm, um_b1, um_b2, um_b3, um_b4, um_b5, um_b6, um_b7, um_b8, um_b9, um_b10, um_gd, um_bz0, um_bz1, um_m1, nI_add, pk_mul, um_sub_lt0, um_sub_gt0, um_sub_eq0, um_sub_le0, pk_sub, nI_ltI, nI_leI, nI_eq, nI_clamp, um_nv_at, um_nv_up, um_up_eq, um_up_ne, if_true, if_false, if_pos, if_neg, um_at, um_at0, um_put, um_add, g1, g2, g3]
        rfl
      · rw [decide_eq_false c3]
        simp -implicitDefEqProofs (disch := omega) only [um_l0, um_l1, um_l2, um_l3, um_l4, um_l5, um_l6, um_l7, um_l8, um_l9, um_l10, um_l11, um_l12, um_l16, um_l20, um_l23, um_l24, um_l31, um_l32, um_l35, um_l42, um_l43, um_l45, um_l48, um_l57, um_l58, um_l59, um_l60, um_l61, um_l63, um_l64, um_l68, um_l83, um_l99, um_l100, um_l101, um_l102, um_l103, um_l104, um_l105, um_l106, um_l107, um_l108, um_l109, um_l110, um_l111, um_l112, um_l113, um_l114, um_l115, um_l116, um_l117, um_l118, um_l126, um_l128, um_l130, um_l131, um_l132, um_l133, um_l134, um_l135, um_l180, um_l210, um_l211, um_l235, um_l1645, um_l1880, ↓um_nm, um_b1, um_b2, um_b3, um_b4, um_b5, um_b6, um_b7, um_b8, um_b9, um_b10, um_gd, um_bz0, um_bz1, um_m1, nI_add, pk_mul, um_sub_lt0, um_sub_gt0, um_sub_eq0, um_sub_le0, pk_sub, nI_ltI, nI_leI, nI_eq, nI_clamp, um_nv_at, um_nv_up, um_up_eq, um_up_ne, if_true, if_false, if_pos, if_neg, um_at, um_at0, um_put, um_add, g1, g2, g3]
        rfl
    · rw [if_pos c1, if_neg c2]
      by_cases c3 : f (85 + 3 * i) < s
      · rw [decide_eq_true c3]
        simp -implicitDefEqProofs (disch := omega) only [um_l0, um_l1, um_l2, um_l3, um_l4, um_l5, um_l6, um_l7, um_l8, um_l9, um_l10, um_l11, um_l12, um_l16, um_l20, um_l23, um_l24, um_l31, um_l32, um_l35, um_l42, um_l43, um_l45, um_l48, um_l57, um_l58, um_l59, um_l60, um_l61, um_l63, um_l64, um_l68, um_l83, um_l99, um_l100, um_l101, um_l102, um_l103, um_l104, um_l105, um_l106, um_l107, um_l108, um_l109, um_l110, um_l111, um_l112, um_l113, um_l114, um_l115, um_l116, um_l117, um_l118, um_l126, um_l128, um_l130, um_l131, um_l132, um_l133, um_l134, um_l135, um_l180, um_l210, um_l211, um_l235, um_l1645, um_l1880, ↓um_nm, um_b1, um_b2, um_b3, um_b4, um_b5, um_b6, um_b7, um_b8, um_b9, um_b10, um_gd, um_bz0, um_bz1, um_m1, nI_add, pk_mul, um_sub_lt0, um_sub_gt0, um_sub_eq0, um_sub_le0, pk_sub, nI_ltI, nI_leI, nI_eq, nI_clamp, um_nv_at, um_nv_up, um_up_eq, um_up_ne, if_true, if_false, if_pos, if_neg, um_at, um_at0, um_put, um_add, g1, g2, g3]
        rfl
      · rw [decide_eq_false c3]
        simp -implicitDefEqProofs (disch := omega) only [um_l0, um_l1, um_l2, um_l3, um_l4, um_l5, um_l6, um_l7, um_l8, um_l9, um_l10, um_l11, um_l12, um_l16, um_l20, um_l23, um_l24, um_l31, um_l32, um_l35, um_l42, um_l43, um_l45, um_l48, um_l57, um_l58, um_l59, um_l60, um_l61, um_l63, um_l64, um_l68, um_l83, um_l99, um_l100, um_l101, um_l102, um_l103, um_l104, um_l105, um_l106, um_l107, um_l108, um_l109, um_l110, um_l111, um_l112, um_l113, um_l114, um_l115, um_l116, um_l117, um_l118, um_l126, um_l128, um_l130, um_l131, um_l132, um_l133, um_l134, um_l135, um_l180, um_l210, um_l211, um_l235, um_l1645, um_l1880, ↓um_nm, um_b1, um_b2, um_b3, um_b4, um_b5, um_b6, um_b7, um_b8, um_b9, um_b10, um_gd, um_bz0, um_bz1, um_m1, nI_add, pk_mul, um_sub_lt0, um_sub_gt0, um_sub_eq0, um_sub_le0, pk_sub, nI_ltI, nI_leI, nI_eq, nI_clamp, um_nv_at, um_nv_up, um_up_eq, um_up_ne, if_true, if_false, if_pos, if_neg, um_at, um_at0, um_put, um_add, g1, g2, g3]
        rfl
  · rw [if_neg c1]
    by_cases c3 : h < f (84 + 3 * i)
    · rw [decide_eq_true c3]
      simp -implicitDefEqProofs (disch := omega) only [um_l0, um_l1, um_l2, um_l3, um_l4, um_l5, um_l6, um_l7, um_l8, um_l9, um_l10, um_l11, um_l12, um_l16, um_l20, um_l23, um_l24, um_l31, um_l32, um_l35, um_l42, um_l43, um_l45, um_l48, um_l57, um_l58, um_l59, um_l60, um_l61, um_l63, um_l64, um_l68, um_l83, um_l99, um_l100, um_l101, um_l102, um_l103, um_l104, um_l105, um_l106, um_l107, um_l108, um_l109, um_l110, um_l111, um_l112, um_l113, um_l114, um_l115, um_l116, um_l117, um_l118, um_l126, um_l128, um_l130, um_l131, um_l132, um_l133, um_l134, um_l135, um_l180, um_l210, um_l211, um_l235, um_l1645, um_l1880, ↓um_nm, um_b1, um_b2, um_b3, um_b4, um_b5, um_b6, um_b7, um_b8, um_b9, um_b10, um_gd, um_bz0, um_bz1, um_m1, nI_add, pk_mul, um_sub_lt0, um_sub_gt0, um_sub_eq0, um_sub_le0, pk_sub, nI_ltI, nI_leI, nI_eq, nI_clamp, um_nv_at, um_nv_up, um_up_eq, um_up_ne, if_true, if_false, if_pos, if_neg, um_at, um_at0, um_put, um_add, g1, g2, g3]
      rfl
    · rw [decide_eq_false c3]
      simp -implicitDefEqProofs (disch := omega) only [um_l0, um_l1, um_l2, um_l3, um_l4, um_l5, um_l6, um_l7, um_l8, um_l9, um_l10, um_l11, um_l12, um_l16, um_l20, um_l23, um_l24, um_l31, um_l32, um_l35, um_l42, um_l43, um_l45, um_l48, um_l57, um_l58, um_l59, um_l60, um_l61, um_l63, um_l64, um_l68, um_l83, um_l99, um_l100, um_l101, um_l102, um_l103, um_l104, um_l105, um_l106, um_l107, um_l108, um_l109, um_l110, um_l111, um_l112, um_l113, um_l114, um_l115, um_l116, um_l117, um_l118, um_l126, um_l128, um_l130, um_l131, um_l132, um_l133, um_l134, um_l135, um_l180, um_l210, um_l211, um_l235, um_l1645, um_l1880, ↓um_nm, um_b1, um_b2, um_b3, um_b4, um_b5, um_b6, um_b7, um_b8, um_b9, um_b10, um_gd, um_bz0, um_bz1, um_m1, nI_add, pk_mul, um_sub_lt0, um_sub_gt0, um_sub_eq0, um_sub_le0, pk_sub, nI_ltI, nI_leI, nI_eq, nI_clamp, um_nv_at, um_nv_up, um_up_eq, um_up_ne, if_true, if_false, if_pos, if_neg, um_at, um_at0, um_put, um_add, g1, g2, g3]
      rfl
def um_sh1 (a : Nat → Nat) (p n : Nat) : Nat → Nat := um_mix (p + 1) (n + 1) (fun q => a (q - 1)) a
theorem um_sh1_s {a : Nat → Nat} {i n : Nat} (h : i < n) : um_up (um_sh1 a (i + 1) n) (i + 1) (um_sh1 a (i + 1) n i) = um_sh1 a i n := by
  unfold um_sh1
  rw [um_mix_out (q := i) (by omega)]
  exact um_mix_d (by omega) rfl
theorem um_insert {f ph pr ps : Nat → Nat} {n r h s : Nat} (hn : n < 16) (hr : r < 12) (hh : h < 24) (hs : s < 10) (hP : ∀ k, k < n → pr k = f (83 + 3 * k) ∧ ph k = f (84 + 3 * k) ∧ ps k = f (85 + 3 * k)) (hb : ∀ k, k < n → f (83 + 3 * k) < 12 ∧ f (84 + 3 * k) < 24 ∧ f (85 + 3 * k) < 10) (m : Int32) : ∀ i k, i ≤ n → i < k → ulX4_insert_16 m (nI r) (nI h) (nI s) k (um_nv (um_sh1 ph i n)) (um_nv (um_sh1 pr i n)) (um_nv (um_sh1 ps i n)) (nI i) = some (nI (um_pos f r h s i), m, um_nv (um_up (um_sh1 ph (um_pos f r h s i) n) (um_pos f r h s i) h), um_nv (um_up (um_sh1 pr (um_pos f r h s i) n) (um_pos f r h s i) r), um_nv (um_up (um_sh1 ps (um_pos f r h s i) n) (um_pos f r h s i) s))
  | 0, 0, _, hk => absurd hk (Nat.lt_irrefl _)
  | 0, k + 1, _, _ => by
    rw [ulX4_insert_16]
    simp -implicitDefEqProofs (disch := omega) only [um_l0, um_l1, um_l2, um_l3, um_l4, um_l5, um_l6, um_l7, um_l8, um_l9, um_l10, um_l11, um_l12, um_l16, um_l20, um_l23, um_l24, um_l31, um_l32, um_l35, um_l42, um_l43, um_l45, um_l48, um_l57, um_l58, um_l59, um_l60, um_l61, um_l63, um_l64, um_l68, um_l83, um_l99, um_l100, um_l101, um_l102, um_l103, um_l104, um_l105, um_l106, um_l107, um_l108, um_l109, um_l110, um_l111, um_l112, um_l113, um_l114, um_l115, um_l116, um_l117, um_l118, um_l126, um_l128, um_l130, um_l131, um_l132, um_l133, um_l134, um_l135, um_l180, um_l210, um_l211, um_l235, um_l1645, um_l1880, ↓um_nm, um_b1, um_b2, um_b3, um_b4, um_b5, um_b6, um_b7, um_b8, um_b9, um_b10, um_gd, um_bz0, um_bz1, um_m1, nI_add, pk_mul, um_sub_lt0, um_sub_gt0, um_sub_eq0, um_sub_le0, pk_sub, nI_ltI, nI_leI, nI_eq, nI_clamp, um_nv_at, um_nv_up, um_up_eq, um_up_ne, if_true, if_false, if_pos, if_neg, um_at, um_at0, um_put, um_add, ujX4_insert_51]
    rfl
  | i + 1, 0, _, hk => absurd hk (Nat.not_lt_zero _)
  | i + 1, k + 1, hi, hk => by
    have hbi := hb i (by omega)
    obtain ⟨a1, a2, a3⟩ := hP i (by omega)
    have g1 : um_sh1 pr (i + 1) n i = f (83 + 3 * i) := by unfold um_sh1; rw [um_mix_out (by omega)]; exact a1
    have g2 : um_sh1 ph (i + 1) n i = f (84 + 3 * i) := by unfold um_sh1; rw [um_mix_out (by omega)]; exact a2
    have g3 : um_sh1 ps (i + 1) n i = f (85 + 3 * i) := by unfold um_sh1; rw [um_mix_out (by omega)]; exact a3
    have ea := um_isAheadOf (f := f) (ph := um_sh1 ph (i + 1) n) (pr := um_sh1 pr (i + 1) n) (ps := um_sh1 ps (i + 1) n) (i := i) (by omega) hr hh hs g1 g2 g3 hbi.1 hbi.2.1 hbi.2.2
    rw [ulX4_insert_16, um_pos]
    cases hbb : um_bef f i r h s
    · rw [hbb] at ea
      simp -implicitDefEqProofs (disch := omega) only [um_l0, um_l1, um_l2, um_l3, um_l4, um_l5, um_l6, um_l7, um_l8, um_l9, um_l10, um_l11, um_l12, um_l16, um_l20, um_l23, um_l24, um_l31, um_l32, um_l35, um_l42, um_l43, um_l45, um_l48, um_l57, um_l58, um_l59, um_l60, um_l61, um_l63, um_l64, um_l68, um_l83, um_l99, um_l100, um_l101, um_l102, um_l103, um_l104, um_l105, um_l106, um_l107, um_l108, um_l109, um_l110, um_l111, um_l112, um_l113, um_l114, um_l115, um_l116, um_l117, um_l118, um_l126, um_l128, um_l130, um_l131, um_l132, um_l133, um_l134, um_l135, um_l180, um_l210, um_l211, um_l235, um_l1645, um_l1880, ↓um_nm, um_b1, um_b2, um_b3, um_b4, um_b5, um_b6, um_b7, um_b8, um_b9, um_b10, um_gd, um_bz0, um_bz1, um_m1, nI_add, pk_mul, um_sub_lt0, um_sub_gt0, um_sub_eq0, um_sub_le0, pk_sub, nI_ltI, nI_leI, nI_eq, nI_clamp, um_nv_at, um_nv_up, um_up_eq, um_up_ne, if_true, if_false, if_pos, if_neg, um_at, um_at0, um_put, um_add, Nat.add_sub_cancel, ea, um_b2n_f, Bool.false_eq_true, if_false, ujX4_insert_51]
    · rw [hbb] at ea
      simp -implicitDefEqProofs (disch := omega) only [um_l0, um_l1, um_l2, um_l3, um_l4, um_l5, um_l6, um_l7, um_l8, um_l9, um_l10, um_l11, um_l12, um_l16, um_l20, um_l23, um_l24, um_l31, um_l32, um_l35, um_l42, um_l43, um_l45, um_l48, um_l57, um_l58, um_l59, um_l60, um_l61, um_l63, um_l64, um_l68, um_l83, um_l99, um_l100, um_l101, um_l102, um_l103, um_l104, um_l105, um_l106, um_l107, um_l108, um_l109, um_l110, um_l111, um_l112, um_l113, um_l114, um_l115, um_l116, um_l117, um_l118, um_l126, um_l128, um_l130, um_l131, um_l132, um_l133, um_l134, um_l135, um_l180, um_l210, um_l211, um_l235, um_l1645, um_l1880, ↓um_nm, um_b1, um_b2, um_b3, um_b4, um_b5, um_b6, um_b7, um_b8, um_b9, um_b10, um_gd, um_bz0, um_bz1, um_m1, nI_add, pk_mul, um_sub_lt0, um_sub_gt0, um_sub_eq0, um_sub_le0, pk_sub, nI_ltI, nI_leI, nI_eq, nI_clamp, um_nv_at, um_nv_up, um_up_eq, um_up_ne, if_true, if_false, if_pos, if_neg, um_at, um_at0, um_put, um_add, Nat.add_sub_cancel, ea, um_b2n_t, if_true, um_carry, um_sh1_s]
      exact um_insert hn hr hh hs hP hb m i k (by omega) (by omega)
theorem um_insF_PL {f ph pr ps : Nat → Nat} {p r h s : Nat} (hP : um_PL f ph pr ps) (hp : p ≤ f 1) (h1 : f 1 < 16) : um_PL (um_insF f p r h s) (um_up (um_sh1 ph p (f 1)) p h) (um_up (um_sh1 pr p (f 1)) p r) (um_up (um_sh1 ps p (f 1)) p s) := by
  intro k hk
  have e1 : um_insF f p r h s 1 = f 1 + 1 := by
    unfold um_insF
    rw [um_up_ne (by omega), um_up_eq rfl]
  rw [e1] at hk
  unfold um_insF um_sh um_sh1
  by_cases c1 : k = p
  · subst c1
    refine ⟨?_, ?_, ?_⟩ <;> simp (disch := omega) only [um_up_ne, um_up_eq]
  · by_cases c2 : k < p
    · obtain ⟨a1, a2, a3⟩ := hP k (by omega)
      refine ⟨?_, ?_, ?_⟩ <;> simp (disch := omega) only [um_up_ne, um_mix_out, a1, a2, a3]
    · obtain ⟨a1, a2, a3⟩ := hP (k - 1) (by omega)
      have i1 : 83 + 3 * k - 3 = 83 + 3 * (k - 1) := by omega
      have i2 : 84 + 3 * k - 3 = 84 + 3 * (k - 1) := by omega
      have i3 : 85 + 3 * k - 3 = 85 + 3 * (k - 1) := by omega
      refine ⟨?_, ?_, ?_⟩ <;> simp (disch := omega) only [um_up_ne, um_mix_in, a1, a2, a3, i1, i2, i3]
theorem um_insF_at {f : Nat → Nat} {p r h s q : Nat} (hp : p ≤ f 1) (h1 : f 1 < 16) (hq : q ≠ 1 ∧ q ≠ 4 ∧ (q < 83 ∨ 131 ≤ q)) : um_insF f p r h s q = f q := by
  unfold um_insF um_sh
  simp (disch := omega) only [um_up_ne, um_mix_out]
theorem um_I_ins {f : Nat → Nat} {c p r h s : Nat} (hI : um_I f c) (hc : c + 1 ≤ 2 ^ 20) (hp : p ≤ f 1) (h1 : f 1 < 16) (hr : r < f 0) (hh : h < 24) (hs : 1 ≤ s) (hs' : s ≤ 9) : um_I (um_insF f p r h s) (c + 1) := by
  obtain ⟨q0, q1, q2, q3, q4, q5, q6, q7, q8, q9, q10, q11, q12, q13, q14, q15⟩ := hI
  have A : ∀ q, (q ≠ 1 ∧ q ≠ 4 ∧ (q < 83 ∨ 131 ≤ q)) → um_insF f p r h s q = f q := fun q hq => um_insF_at hp h1 hq
  have e1 : um_insF f p r h s 1 = f 1 + 1 := by
    unfold um_insF
    rw [um_up_ne (by omega), um_up_eq rfl]
  have e4 : um_insF f p r h s 4 = f 4 + 1 := by
    unfold um_insF
    rw [um_up_eq rfl]
  have a0 := A 0 (by omega)
  have a2 := A 2 (by omega)
  have a3 := A 3 (by omega)
  have a5 := A 5 (by omega)
  have a6 := A 6 (by omega)
  have a7 := A 7 (by omega)
  have a8 := A 8 (by omega)
  have a9 := A 9 (by omega)
  have a10 := A 10 (by omega)
  refine ⟨by omega, by omega, by omega, by omega, by omega, by omega, by omega, by omega, by omega, fun r' hr' => ?_, fun r' hr' hr'' => ?_, ?_, ?_, ?_, fun k hk => ?_, fun h' hh' => ?_⟩
  · rw [A _ (by omega), A _ (by omega), A _ (by omega)]
    exact q9 r' hr'
  · rw [A _ (by omega), A _ (by omega), A _ (by omega), A _ (by omega), A _ (by omega), A _ (by omega)]
    exact q10 r' (by omega) hr''
  · rw [a5, ← q11]
    exact um_sum_congr (fun i hi => A _ (by omega))
  · rw [a6, ← q12]
    exact um_sum_congr (fun i hi => A _ (by omega))
  · rw [a7, ← q13]
    exact um_sum_congr (fun i hi => A _ (by omega))
  · rw [e1] at hk
    rw [a0]
    have hPL : um_PL f (fun k => f (84 + 3 * k)) (fun k => f (83 + 3 * k)) (fun k => f (85 + 3 * k)) := fun k _ => ⟨rfl, rfl, rfl⟩
    obtain ⟨b1, b2, b3⟩ := um_insF_PL (r := r) (h := h) (s := s) hPL hp h1 k (by omega)
    rw [← b1, ← b2, ← b3]
    unfold um_sh1
    by_cases c1 : k = p
    · rw [um_up_eq c1, um_up_eq c1, um_up_eq c1]
      exact ⟨hr, hh, hs, hs'⟩
    · rw [um_up_ne c1, um_up_ne c1, um_up_ne c1]
      by_cases c2 : k < p
      · rw [um_mix_out (by omega), um_mix_out (by omega), um_mix_out (by omega)]
        exact q14 k (by omega)
      · rw [um_mix_in (by omega), um_mix_in (by omega), um_mix_in (by omega)]
        exact q14 (k - 1) (by omega)
  · rw [A _ (by omega), a0]
    exact q15 h' hh'
