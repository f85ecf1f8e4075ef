/-! ===== texts: what an order reads, on either side ===== -/
def um_X (t : Nat) (g : Nat → Nat) (tc tx : Nat → Int32) : Prop := t ≤ 60 ∧ ∀ k, k < t → tc k = nI (g k) ∧ tx k = nI (g k) ∧ 32 ≤ g k ∧ g k ≤ 126
def um_sg (g : Nat → Nat) (t p : Nat) : Nat := if p < t then g p else 0
def um_cc (g : Nat → Nat) (t p : Nat) : Int32 := if p < t then nI (g p) else -1011
def um_cm (g : Nat → Nat) (t p : Nat) : Int32 := if p < t then nI (g p) else -1
def um_dg (c : Nat) : Bool := decide (48 ≤ c) && decide (c ≤ 57)
theorem um_atI {N i : Nat} {f : Nat → Int32} (h : i < N) (hN : N < 2 ^ 31) : ufX8_at N f (nI i) = some (f i) := by
  unfold ufX8_at
  rw [if_neg (nI_pos (by omega)), if_neg (show ¬ Int32.ofNat N ≤ nI i from nI_ge h hN), um_gd h hN, nI_clamp (by omega)]
theorem um_putI {N i : Nat} {x : Int32} {f : Nat → Int32} (h : i < N) (hN : N < 2 ^ 31) : ufX8_put N f (nI i) x = some (upd f i x) := by
  unfold ufX8_put
  rw [if_neg (nI_pos (by omega)), if_neg (show ¬ Int32.ofNat N ≤ nI i from nI_ge h hN), um_gd h hN, nI_clamp (by omega), um_nm]
section UM42
variable {t p : Nat} {g : Nat → Nat} {tc tx : Nat → Int32}
theorem um_codeAt (hX : um_X t g tc tx) (hp : p < 2 ^ 20) : ufX6_codeAt (nI t) tc (nI p) = some (um_cc g t p) := by
  unfold ufX6_codeAt um_cc
  have h60 := hX.1
  by_cases h : p < t
  · rw [if_neg (nI_pos (by omega)), if_neg (nI_ge h (by omega)), if_pos h, um_atI (by omega) (by decide), um_b1, (hX.2 p h).1]
  · rw [if_neg (nI_pos (by omega)), if_pos (nI_le (by omega) (by omega)), if_neg h]
theorem um_sign (hX : um_X t g tc tx) (hp : p < 2 ^ 20) : ufX9_sign (nI t) (nI p) tx = some (um_cm g t p) := by
  unfold ufX9_sign um_cm
  have h60 := hX.1
  by_cases h : p < t
  · rw [if_neg (nI_ge h (by omega)), um_gd (by omega) (by decide), if_pos h, nI_clamp (by omega), (hX.2 p h).2.1]
  · rw [if_pos (nI_le (by omega) (by omega)), if_neg h]
theorem um_sg_in (hX : um_X t g tc tx) : (p < t ∧ um_sg g t p = g p ∧ 32 ≤ g p ∧ g p ≤ 126) ∨ (¬ p < t ∧ um_sg g t p = 0) := by
  unfold um_sg
  by_cases h : p < t
  · exact Or.inl ⟨h, if_pos h, (hX.2 p h).2.2.1, (hX.2 p h).2.2.2⟩
  · exact Or.inr ⟨h, if_neg h⟩
theorem um_cc_eq (hX : um_X t g tc tx) {c : Nat} (hc : 0 < c) (hc2 : c < 2 ^ 20) : (um_cc g t p = nI c) ↔ um_sg g t p = c := by
  unfold um_cc um_sg
  by_cases h : p < t
  · rw [if_pos h, if_pos h]
    exact nI_eq (by have := (hX.2 p h).2.2.2; omega) (by omega)
  · rw [if_neg h, if_neg h]
    constructor
    · intro e
      exact absurd e.symm (um_nI_neg (by omega))
    · intro e
      omega
theorem um_nI_neg1 {n : Nat} (h : n < 2 ^ 31) : nI n ≠ (-1 : Int32) := by
  intro e
  have h2 := congrArg Int32.toInt e
  rw [um_toI h] at h2
  have : (-1 : Int32).toInt = -1 := by decide
  omega
theorem um_cm_eq (hX : um_X t g tc tx) {c : Nat} (hc : 0 < c) (hc2 : c < 2 ^ 20) : (um_cm g t p = nI c) ↔ um_sg g t p = c := by
  unfold um_cm um_sg
  by_cases h : p < t
  · rw [if_pos h, if_pos h]
    exact nI_eq (by have := (hX.2 p h).2.2.2; omega) (by omega)
  · rw [if_neg h, if_neg h]
    constructor
    · intro e
      exact absurd e.symm (um_nI_neg1 (by omega))
    · intro e
      omega
theorem um_digN {n : Nat} (h : n < 2 ^ 20) : ufX9_isIn (nI n) (nI 48) (nI 57) = some (nI (um_b2n (um_dg n))) := by
  unfold ufX9_isIn um_dg
  by_cases h1 : n < 48
  · rw [if_pos (nI_lt h1 (by omega)), decide_eq_false (show ¬ 48 ≤ n by omega)]
    rfl
  · rw [if_neg (nI_nlt (by omega) (by omega)), decide_eq_true (show 48 ≤ n by omega)]
    by_cases h2 : n ≤ 57
    · rw [if_neg (nI_nlt (by omega) (by omega)), decide_eq_true h2]
      rfl
    · rw [if_pos (nI_lt (by omega) (by omega)), decide_eq_false h2]
      rfl
theorem um_digC (hX : um_X t g tc tx) : ufX8_isDigit (um_cc g t p) = some (nI (um_b2n (um_dg (um_sg g t p)))) := by
  show ufX9_isIn (um_cc g t p) (nI 48) (nI 57) = _
  unfold um_cc um_sg
  by_cases h : p < t
  · rw [if_pos h, if_pos h]
    exact um_digN (by have := (hX.2 p h).2.2.2; omega)
  · rw [if_neg h, if_neg h]
    decide
theorem um_digM (hX : um_X t g tc tx) : ufX9_isIn (um_cm g t p) (nI 48) (nI 57) = some (nI (um_b2n (um_dg (um_sg g t p)))) := by
  unfold um_cm um_sg
  by_cases h : p < t
  · rw [if_pos h, if_pos h]
    exact um_digN (by have := (hX.2 p h).2.2.2; omega)
  · rw [if_neg h, if_neg h]
    decide
theorem um_dg_in (h : um_dg (um_sg g t p) = true) : p < t ∧ 48 ≤ um_sg g t p ∧ um_sg g t p ≤ 57 ∧ um_cc g t p = nI (um_sg g t p) ∧ um_cm g t p = nI (um_sg g t p) := by
  unfold um_dg at h
  rw [Bool.and_eq_true, decide_eq_true_eq, decide_eq_true_eq] at h
  have hp : p < t := by
    by_cases hp : p < t
    · exact hp
    · unfold um_sg at h
      rw [if_neg hp] at h
      omega
  refine ⟨hp, h.1, h.2, ?_, ?_⟩
  · unfold um_cc um_sg
    rw [if_pos hp, if_pos hp]
  · unfold um_cm um_sg
    rw [if_pos hp, if_pos hp]
/-! the readers: whether it reads, the position then, and the number -/
def um_rm (c : Nat) (g : Nat → Nat) (t p : Nat) : Bool × Nat × Nat := if um_sg g t p = c then (true, p + 1, 0) else (false, p, 0)
def um_rd (g : Nat → Nat) (t p : Nat) : Bool × Nat × Nat := if um_dg (um_sg g t p) then (true, p + 1, um_sg g t p - 48) else (false, p, 0)
def um_rD (g : Nat → Nat) (t p : Nat) : Bool × Nat × Nat := if um_dg (um_sg g t p) then (if um_dg (um_sg g t (p + 1)) then (true, p + 2, 10 * (um_sg g t p - 48) + (um_sg g t (p + 1) - 48)) else (true, p + 1, um_sg g t p - 48)) else (false, p, 0)
def um_rq (g : Nat → Nat) (t p : Nat) : Bool × Nat × Nat := if um_sg g t p = 43 then (true, p + 1, 1) else if um_sg g t p = 45 then (true, p + 1, 0) else (false, p, 0)
theorem um_rm_le {c : Nat} : p ≤ (um_rm c g t p).2.1 ∧ (um_rm c g t p).2.1 ≤ p + 1 := by
  unfold um_rm
  split <;> simp
theorem um_rd_le : p ≤ (um_rd g t p).2.1 ∧ (um_rd g t p).2.1 ≤ p + 1 := by
  unfold um_rd
  split <;> simp
theorem um_rD_le : p ≤ (um_rD g t p).2.1 ∧ (um_rD g t p).2.1 ≤ p + 2 := by
  unfold um_rD
  split
  · split <;> simp
  · simp
theorem um_rq_le : p ≤ (um_rq g t p).2.1 ∧ (um_rq g t p).2.1 ≤ p + 1 := by
  unfold um_rq
  split
  · simp
  · split <;> simp
/-! the reference's readers -/
theorem um_markM (hX : um_X t g tc tx) (hp : p < 2 ^ 20) {c : Nat} (hc : 0 < c) (hc2 : c < 2 ^ 20) : ufX9_mark (nI t) (nI p) (nI 0) tx (nI c) = some (nI (um_rm c g t p).2.1, nI (um_b2n (!(um_rm c g t p).1))) := by
  have e := um_cm_eq (p := p) hX hc hc2
  unfold ufX9_mark um_rm
  rw [if_pos (by rfl), um_sign hX hp, um_b1]
  by_cases h : um_sg g t p = c
  · rw [if_pos (e.mpr h), if_pos h]
    unfold ujX9_mark_22 ujX9_mark_42
    simp -implicitDefEqProofs (disch := omega) only [um_l0, um_l1, um_l2, um_l3, um_l4, um_l5, um_l6, um_l7, um_l8, um_l9, um_l10, um_l11, um_l12, um_l16, um_l20, um_l23, um_l24, um_l31, um_l32, um_l35, um_l42, um_l43, um_l45, um_l48, um_l57, um_l58, um_l59, um_l60, um_l61, um_l63, um_l64, um_l68, um_l83, um_l99, um_l100, um_l101, um_l102, um_l103, um_l104, um_l105, um_l106, um_l107, um_l108, um_l109, um_l110, um_l111, um_l112, um_l113, um_l114, um_l115, um_l116, um_l117, um_l118, um_l126, um_l128, um_l130, um_l131, um_l132, um_l133, um_l134, um_l135, um_l180, um_l210, um_l211, um_l235, um_l1645, um_l1880, ↓um_nm, um_b1, um_b2, um_b3, um_b4, um_b5, um_b6, um_b7, um_b8, um_b9, um_b10, um_gd, um_bz0, um_bz1, um_m1, nI_add, pk_mul, um_sub_lt0, um_sub_gt0, um_sub_eq0, um_sub_le0, pk_sub, nI_ltI, nI_leI, nI_eq, nI_clamp, um_nv_at, um_nv_up, um_up_eq, um_up_ne, if_true, if_false, if_pos, if_neg, um_at, um_at0, um_put, um_add]
    rfl
  · rw [if_neg (fun z => h (e.mp z)), if_neg h]
    unfold ujX9_mark_22 ujX9_mark_42
    simp -implicitDefEqProofs (disch := omega) only [um_l0, um_l1, um_l2, um_l3, um_l4, um_l5, um_l6, um_l7, um_l8, um_l9, um_l10, um_l11, um_l12, um_l16, um_l20, um_l23, um_l24, um_l31, um_l32, um_l35, um_l42, um_l43, um_l45, um_l48, um_l57, um_l58, um_l59, um_l60, um_l61, um_l63, um_l64, um_l68, um_l83, um_l99, um_l100, um_l101, um_l102, um_l103, um_l104, um_l105, um_l106, um_l107, um_l108, um_l109, um_l110, um_l111, um_l112, um_l113, um_l114, um_l115, um_l116, um_l117, um_l118, um_l126, um_l128, um_l130, um_l131, um_l132, um_l133, um_l134, um_l135, um_l180, um_l210, um_l211, um_l235, um_l1645, um_l1880, ↓um_nm, um_b1, um_b2, um_b3, um_b4, um_b5, um_b6, um_b7, um_b8, um_b9, um_b10, um_gd, um_bz0, um_bz1, um_m1, nI_add, pk_mul, um_sub_lt0, um_sub_gt0, um_sub_eq0, um_sub_le0, pk_sub, nI_ltI, nI_leI, nI_eq, nI_clamp, um_nv_at, um_nv_up, um_up_eq, um_up_ne, if_true, if_false, if_pos, if_neg, um_at, um_at0, um_put, um_add, Nat.add_zero]
    rfl
theorem um_markW {c : Int32} : ufX9_mark (nI t) (nI p) (nI 1) tx c = some (nI p, nI 1) := by
  unfold ufX9_mark
  rw [if_neg (by decide)]
theorem um_digits59 {l2 : Int32} {k : Nat} (hk : k < 2 ^ 20) : ujX9_digits_59 (nI p) (nI 0) l2 (nI k) = some (l2, nI p, nI (um_b2n (decide (k = 0)))) := by
  unfold ujX9_digits_59 ujX9_digits_73
  by_cases h : k = 0
  · simp -implicitDefEqProofs (disch := omega) only [um_l0, um_l1, um_l2, um_l3, um_l4, um_l5, um_l6, um_l7, um_l8, um_l9, um_l10, um_l11, um_l12, um_l16, um_l20, um_l23, um_l24, um_l31, um_l32, um_l35, um_l42, um_l43, um_l45, um_l48, um_l57, um_l58, um_l59, um_l60, um_l61, um_l63, um_l64, um_l68, um_l83, um_l99, um_l100, um_l101, um_l102, um_l103, um_l104, um_l105, um_l106, um_l107, um_l108, um_l109, um_l110, um_l111, um_l112, um_l113, um_l114, um_l115, um_l116, um_l117, um_l118, um_l126, um_l128, um_l130, um_l131, um_l132, um_l133, um_l134, um_l135, um_l180, um_l210, um_l211, um_l235, um_l1645, um_l1880, ↓um_nm, um_b1, um_b2, um_b3, um_b4, um_b5, um_b6, um_b7, um_b8, um_b9, um_b10, um_gd, um_bz0, um_bz1, um_m1, nI_add, pk_mul, um_sub_lt0, um_sub_gt0, um_sub_eq0, um_sub_le0, pk_sub, nI_ltI, nI_leI, nI_eq, nI_clamp, um_nv_at, um_nv_up, um_up_eq, um_up_ne, if_true, if_false, if_pos, if_neg, um_at, um_at0, um_put, um_add, h, decide_true]
    rfl
  · simp -implicitDefEqProofs (disch := omega) only [um_l0, um_l1, um_l2, um_l3, um_l4, um_l5, um_l6, um_l7, um_l8, um_l9, um_l10, um_l11, um_l12, um_l16, um_l20, um_l23, um_l24, um_l31, um_l32, um_l35, um_l42, um_l43, um_l45, um_l48, um_l57, um_l58, um_l59, um_l60, um_l61, um_l63, um_l64, um_l68, um_l83, um_l99, um_l100, um_l101, um_l102, um_l103, um_l104, um_l105, um_l106, um_l107, um_l108, um_l109, um_l110, um_l111, um_l112, um_l113, um_l114, um_l115, um_l116, um_l117, um_l118, um_l126, um_l128, um_l130, um_l131, um_l132, um_l133, um_l134, um_l135, um_l180, um_l210, um_l211, um_l235, um_l1645, um_l1880, ↓um_nm, um_b1, um_b2, um_b3, um_b4, um_b5, um_b6, um_b7, um_b8, um_b9, um_b10, um_gd, um_bz0, um_bz1, um_m1, nI_add, pk_mul, um_sub_lt0, um_sub_gt0, um_sub_eq0, um_sub_le0, pk_sub, nI_ltI, nI_leI, nI_eq, nI_clamp, um_nv_at, um_nv_up, um_up_eq, um_up_ne, if_true, if_false, if_pos, if_neg, um_at, um_at0, um_put, um_add, decide_eq_false h]
    rfl
theorem um_digits1 (hX : um_X t g tc tx) (hp : p < 2 ^ 20) : ufX9_digits (nI t) (nI p) (nI 0) tx (nI 1) = some (nI (um_rd g t p).2.2, nI (um_rd g t p).2.1, nI (um_b2n (!(um_rd g t p).1))) := by
  unfold ufX9_digits um_rd
  rw [show ub_F = 4094 + 1 + 1 from rfl, ulX9_digits_4, if_pos (by rfl), if_neg (by decide), um_sign hX hp, um_b1, show (48 : Int32) = nI 48 from rfl, show (57 : Int32) = nI 57 from rfl, um_digM hX, um_b1]
  cases h : um_dg (um_sg g t p)
  · rw [if_pos (by rfl), if_neg (by decide), show (0 : Int32) = nI 0 from rfl, um_digits59 (by decide)]
    rfl
  · obtain ⟨h1, h2, h3, h4, h5⟩ := um_dg_in h
    rw [if_neg (by decide), if_pos rfl, um_b1, ulX9_digits_4, if_pos (by rfl), if_pos (by decide), h5]
    simp -implicitDefEqProofs (disch := omega) only [um_l0, um_l1, um_l2, um_l3, um_l4, um_l5, um_l6, um_l7, um_l8, um_l9, um_l10, um_l11, um_l12, um_l16, um_l20, um_l23, um_l24, um_l31, um_l32, um_l35, um_l42, um_l43, um_l45, um_l48, um_l57, um_l58, um_l59, um_l60, um_l61, um_l63, um_l64, um_l68, um_l83, um_l99, um_l100, um_l101, um_l102, um_l103, um_l104, um_l105, um_l106, um_l107, um_l108, um_l109, um_l110, um_l111, um_l112, um_l113, um_l114, um_l115, um_l116, um_l117, um_l118, um_l126, um_l128, um_l130, um_l131, um_l132, um_l133, um_l134, um_l135, um_l180, um_l210, um_l211, um_l235, um_l1645, um_l1880, ↓um_nm, um_b1, um_b2, um_b3, um_b4, um_b5, um_b6, um_b7, um_b8, um_b9, um_b10, um_gd, um_bz0, um_bz1, um_m1, nI_add, pk_mul, um_sub_lt0, um_sub_gt0, um_sub_eq0, um_sub_le0, pk_sub, nI_ltI, nI_leI, nI_eq, nI_clamp, um_nv_at, um_nv_up, um_up_eq, um_up_ne, if_true, if_false, if_pos, if_neg, um_at, um_at0, um_put, um_add, um_digits59, Nat.mul_zero, Nat.zero_add, Nat.add_zero]
    rfl
theorem um_digits2 (hX : um_X t g tc tx) (hp : p < 2 ^ 19) : ufX9_digits (nI t) (nI p) (nI 0) tx (nI 2) = some (nI (um_rD g t p).2.2, nI (um_rD g t p).2.1, nI (um_b2n (!(um_rD g t p).1))) := by
  unfold ufX9_digits um_rD
  rw [show ub_F = 4093 + 1 + 1 + 1 from rfl, ulX9_digits_4, if_pos (by rfl), if_neg (by decide), um_sign hX (by omega), um_b1, show (48 : Int32) = nI 48 from rfl, show (57 : Int32) = nI 57 from rfl, um_digM hX, um_b1]
  cases h : um_dg (um_sg g t p)
  · rw [if_pos (by rfl), if_neg (by decide), show (0 : Int32) = nI 0 from rfl, um_digits59 (by decide)]
    rfl
  · obtain ⟨h1, h2, h3, h4, h5⟩ := um_dg_in h
    rw [if_neg (by decide), if_pos rfl, um_b1, ulX9_digits_4, if_pos (by rfl), if_neg (by decide), nI_1, um_sign hX (by omega), um_b1, show (48 : Int32) = nI 48 from rfl, show (57 : Int32) = nI 57 from rfl, um_digM hX, um_b1]
    cases h' : um_dg (um_sg g t (p + 1))
    · rw [if_pos (by rfl), if_neg (by decide), h5]
      simp -implicitDefEqProofs (disch := omega) only [um_l0, um_l1, um_l2, um_l3, um_l4, um_l5, um_l6, um_l7, um_l8, um_l9, um_l10, um_l11, um_l12, um_l16, um_l20, um_l23, um_l24, um_l31, um_l32, um_l35, um_l42, um_l43, um_l45, um_l48, um_l57, um_l58, um_l59, um_l60, um_l61, um_l63, um_l64, um_l68, um_l83, um_l99, um_l100, um_l101, um_l102, um_l103, um_l104, um_l105, um_l106, um_l107, um_l108, um_l109, um_l110, um_l111, um_l112, um_l113, um_l114, um_l115, um_l116, um_l117, um_l118, um_l126, um_l128, um_l130, um_l131, um_l132, um_l133, um_l134, um_l135, um_l180, um_l210, um_l211, um_l235, um_l1645, um_l1880, ↓um_nm, um_b1, um_b2, um_b3, um_b4, um_b5, um_b6, um_b7, um_b8, um_b9, um_b10, um_gd, um_bz0, um_bz1, um_m1, nI_add, pk_mul, um_sub_lt0, um_sub_gt0, um_sub_eq0, um_sub_le0, pk_sub, nI_ltI, nI_leI, nI_eq, nI_clamp, um_nv_at, um_nv_up, um_up_eq, um_up_ne, if_true, if_false, if_pos, if_neg, um_at, um_at0, um_put, um_add, um_digits59, Nat.mul_zero, Nat.zero_add, Nat.add_zero]
      rfl
    · obtain ⟨k1, k2, k3, k4, k5⟩ := um_dg_in h'
      rw [if_neg (by decide), if_pos rfl, um_b1, ulX9_digits_4, if_pos (by rfl), if_pos (by decide), h5, k5]
      have e1 : 10 * (um_sg g t p - 48) + um_sg g t (p + 1) - 48 = 10 * (um_sg g t p - 48) + (um_sg g t (p + 1) - 48) := by omega
      simp -implicitDefEqProofs (disch := omega) only [um_l0, um_l1, um_l2, um_l3, um_l4, um_l5, um_l6, um_l7, um_l8, um_l9, um_l10, um_l11, um_l12, um_l16, um_l20, um_l23, um_l24, um_l31, um_l32, um_l35, um_l42, um_l43, um_l45, um_l48, um_l57, um_l58, um_l59, um_l60, um_l61, um_l63, um_l64, um_l68, um_l83, um_l99, um_l100, um_l101, um_l102, um_l103, um_l104, um_l105, um_l106, um_l107, um_l108, um_l109, um_l110, um_l111, um_l112, um_l113, um_l114, um_l115, um_l116, um_l117, um_l118, um_l126, um_l128, um_l130, um_l131, um_l132, um_l133, um_l134, um_l135, um_l180, um_l210, um_l211, um_l235, um_l1645, um_l1880, ↓um_nm, um_b1, um_b2, um_b3, um_b4, um_b5, um_b6, um_b7, um_b8, um_b9, um_b10, um_gd, um_bz0, um_bz1, um_m1, nI_add, pk_mul, um_sub_lt0, um_sub_gt0, um_sub_eq0, um_sub_le0, pk_sub, nI_ltI, nI_leI, nI_eq, nI_clamp, um_nv_at, um_nv_up, um_up_eq, um_up_ne, if_true, if_false, if_pos, if_neg, um_at, um_at0, um_put, um_add, um_digits59, Nat.mul_zero, Nat.zero_add, Nat.add_zero, Nat.reduceAdd, e1]
      rfl
theorem um_plusM (hX : um_X t g tc tx) (hp : p < 2 ^ 20) : ufX9_plus (nI t) (nI p) (nI 0) tx = some (nI (um_rq g t p).2.2, nI (um_rq g t p).2.1, nI (um_b2n (!(um_rq g t p).1))) := by
  have e : (um_cm g t p = (43 : Int32)) ↔ um_sg g t p = 43 := um_cm_eq (p := p) (c := 43) hX (by decide) (by decide)
  unfold ufX9_plus um_rq
  rw [if_pos (by rfl), um_sign hX hp, um_b1]
  by_cases h : um_sg g t p = 43
  · rw [if_pos (e.mpr h), if_pos h]
    unfold ujX9_plus_23 ujX9_plus_36
    rw [if_neg (by decide), show (43 : Int32) = nI 43 from rfl, um_markM hX hp (by decide) (by decide), um_b2, if_neg (by decide)]
    unfold um_rm
    rw [if_pos h]
    rfl
  · rw [if_neg (fun z => h (e.mp z)), if_neg h]
    unfold ujX9_plus_23 ujX9_plus_36
    rw [if_pos (by rfl), show (45 : Int32) = nI 45 from rfl, um_markM hX hp (by decide) (by decide), um_b2, if_pos (by rfl)]
    unfold um_rm
    by_cases h2 : um_sg g t p = 45
    · rw [if_pos h2]
      rfl
    · rw [if_neg h2]
      rfl
theorem um_behind1 (hX : um_X t g tc tx) (hp : p < 2 ^ 19) {c : Nat} (hc : 0 < c) (hc2 : c < 2 ^ 20) : ufX9_behind (nI t) (nI p) (nI 0) tx (nI c) (nI 1) = if (um_rm c g t p).1 then some (nI (um_rd g t (p + 1)).2.2, nI (um_rd g t (p + 1)).2.1, nI (um_b2n (!(um_rd g t (p + 1)).1))) else some (nI 0, nI p, nI 1) := by
  unfold ufX9_behind
  rw [um_markM hX (by omega) hc hc2, um_b2]
  unfold um_rm
  by_cases h : um_sg g t p = c
  · rw [if_pos h, if_pos (by rfl), if_pos rfl]
    show ub_b3 (ufX9_digits (nI t) (nI (p + 1)) (nI 0) tx (nI 1)) _ = _
    rw [um_digits1 hX (by omega), um_b3]
  · rw [if_neg h]
    dsimp only
    rw [if_neg (show ¬ nI (um_b2n (!false)) = (0 : Int32) by decide), if_neg (show ¬ (false = true) by decide)]
    rfl
theorem um_behind2 (hX : um_X t g tc tx) (hp : p < 2 ^ 18) {c : Nat} (hc : 0 < c) (hc2 : c < 2 ^ 20) : ufX9_behind (nI t) (nI p) (nI 0) tx (nI c) (nI 2) = if (um_rm c g t p).1 then some (nI (um_rD g t (p + 1)).2.2, nI (um_rD g t (p + 1)).2.1, nI (um_b2n (!(um_rD g t (p + 1)).1))) else some (nI 0, nI p, nI 1) := by
  unfold ufX9_behind
  rw [um_markM hX (by omega) hc hc2, um_b2]
  unfold um_rm
  by_cases h : um_sg g t p = c
  · rw [if_pos h, if_pos (by rfl), if_pos rfl]
    show ub_b3 (ufX9_digits (nI t) (nI (p + 1)) (nI 0) tx (nI 2)) _ = _
    rw [um_digits2 hX (by omega), um_b3]
  · rw [if_neg h]
    dsimp only
    rw [if_neg (show ¬ nI (um_b2n (!false)) = (0 : Int32) by decide), if_neg (show ¬ (false = true) by decide)]
    rfl
theorem um_behindW {c m : Int32} : ufX9_behind (nI t) (nI p) (nI 1) tx c m = some (nI 0, nI p, nI 1) := by
  unfold ufX9_behind
  rw [um_markW, um_b2, if_neg (by decide)]
  rfl
theorem um_plusW : ufX9_plus (nI t) (nI p) (nI 1) tx = some (nI 0, nI p, nI 1) := by
  unfold ufX9_plus
  rw [if_neg (by decide)]
  rfl
end UM42
