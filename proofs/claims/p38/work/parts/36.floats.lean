/-! ===== no NaN comes of a share or a mean ===== -/
theorem um_mean_nan : ∀ n, n < 13 → n ≠ 0 → ∀ s, s < 109 → FP.ddiv (FP.i2d (nI s)) (FP.i2d (nI n)) &&& 0x7fffffffffffffff ≤ 0x7ff0000000000000 := by decide +kernel
def um_dk (d : FP.Core.Datum) : Bool := match d with
  | .fin false c q => decide (2 ^ 23 ≤ c) && decide (c < 2 ^ 24) && decide (-23 ≤ q) && decide (q ≤ -9)
  | _ => false
theorem um_dk_of {d : FP.Core.Datum} (h : um_dk d = true) : ∃ c q, d = .fin false c q ∧ 2 ^ 23 ≤ c ∧ c < 2 ^ 24 ∧ -23 ≤ q ∧ q ≤ -9 := by
  match d, h with
  | .fin false c q, h =>
    unfold um_dk at h
    simp only [Bool.and_eq_true, decide_eq_true_eq] at h
    exact ⟨c, q, rfl, h.1.1.1, h.1.1.2, h.1.2, h.2⟩
theorem um_dka : ∀ a, a < 128 → ∀ b, b < 128 → 128 * a + b ≠ 0 → um_dk (FP.Core.decode FP.Core.b32 (FP.i2f (nI (128 * a + b))).toNat) = true := by decide +kernel
theorem um_dk1 {n : Nat} (h : n < 16384) (h0 : n ≠ 0) : ∃ c q, FP.Core.decode FP.Core.b32 (FP.i2f (nI n)).toNat = .fin false c q ∧ 2 ^ 23 ≤ c ∧ c < 2 ^ 24 ∧ -23 ≤ q ∧ q ≤ -9 := by
  have e : n = 128 * (n / 128) + n % 128 := by omega
  refine um_dk_of ?_
  rw [e]
  exact um_dka _ (by omega) _ (by omega) (by omega)
theorem um_dk0 : FP.Core.decode FP.Core.b32 (FP.i2f (nI 0)).toNat = .fin false 0 (-149) := by decide +kernel
theorem um_nearest_le {a b : Nat} : FP.Core.nearest a b ≤ a / b + 1 := by
  unfold FP.Core.nearest
  have : a / b % 2 < 2 := Nat.mod_lt _ (by decide)
  split
  · omega
  · split
    · omega
    · omega
theorem um_nearest_ge {a b : Nat} : a / b ≤ FP.Core.nearest a b := by
  unfold FP.Core.nearest
  split
  · omega
  · split
    · omega
    · omega
theorem um_log23 {c : Nat} (h1 : 2 ^ 23 ≤ c) (h2 : c < 2 ^ 24) : c.log2 = 23 := (Nat.log2_eq_iff (by omega)).mpr ⟨h1, h2⟩
theorem um_quot {s t : Bool} {c d : Nat} {q r : Int} : FP.Core.quotient FP.Core.b32 (.fin s c q) (.fin t d r) = if d = 0 then (if c = 0 then .nan else .inf (s != t)) else FP.Core.roundRatio FP.Core.b32 (s != t) c d (q - r) := rfl
/-- the bits of what is not too great -/
theorem um_enc {c : Nat} {q : Int} (h2 : c < 2 ^ 24) (hq1 : -149 ≤ q) (hq2 : q ≤ 100) : FP.Core.encode FP.Core.b32 (.fin false c q) ≤ 0x7f800000 := by
  have ht : FP.Core.b32.tails = 2 ^ 23 := by decide
  have he : FP.Core.b32.exps = 256 := by decide
  have hm : FP.Core.b32.qmin = -149 := by decide
  have e : FP.Core.encode FP.Core.b32 (.fin false c q) = if c < FP.Core.b32.tails then FP.Core.assemble FP.Core.b32 false 0 c else FP.Core.assemble FP.Core.b32 false ((q - FP.Core.b32.qmin).toNat + 1) (c - FP.Core.b32.tails) := rfl
  have ea : ∀ e t : Nat, FP.Core.assemble FP.Core.b32 false e t = e * 8388608 + t := fun e t => by
    unfold FP.Core.assemble
    rw [ht, he, Bool.toNat_false, Nat.zero_mul, Nat.zero_add]
  rw [e, ea, ea, ht, hm]
  have h7 : (q - (-149)).toNat ≤ 249 := by omega
  have h8 : 0x7f800000 = 2139095040 := rfl
  by_cases h9 : c < 2 ^ 23
  · rw [if_pos h9]
    omega
  · rw [if_neg h9]
    omega
theorem um_div_bits {c d : Nat} {q r : Int} (hc1 : 2 ^ 23 ≤ c) (hc2 : c < 2 ^ 24) (hd1 : 2 ^ 23 ≤ d) (hd2 : d < 2 ^ 24) (hq1 : -23 ≤ q) (hq2 : q ≤ -9) (hr1 : -23 ≤ r) (hr2 : r ≤ -9) :
    FP.Core.encode FP.Core.b32 (FP.Core.quotient FP.Core.b32 (.fin false c q) (.fin false d r)) ≤ 0x7f800000 := by
  have hp : FP.Core.b32.p = 24 := by decide
  have hm : FP.Core.b32.qmin = -149 := by decide
  have hM : FP.Core.b32.qmax = 104 := by decide
  have ht : FP.Core.b32.tails = 2 ^ 23 := by decide
  have hlead : FP.Core.leading c d = if d ≤ c then 0 else -1 := by
    unfold FP.Core.leading
    rw [um_log23 hc1 hc2, um_log23 hd1 hd2]
    simp
  rw [um_quot, if_neg (show ¬ d = 0 by omega)]
  unfold FP.Core.roundRatio
  rw [if_neg (show ¬ c = 0 by omega)]
  have key : ∃ C Q, FP.Core.roundAt FP.Core.b32 (false != false) c d (q - r) (FP.Core.quantum FP.Core.b32 c d (q - r)) = .fin false C Q ∧ C < 2 ^ 24 ∧ -149 ≤ Q ∧ Q ≤ 100 := by
    unfold FP.Core.quantum FP.Core.roundAt FP.Core.settle FP.Core.bound
    rw [hlead, hp, hm, hM, ht]
    generalize hQ : max (-149 : Int) ((if d ≤ c then 0 else -1) + (q - r) - (((24 : Nat) : Int) - 1)) = Q
    have hQb : -149 ≤ Q ∧ Q ≤ 0 := by
      rw [← hQ]
      split <;> omega
    generalize FP.Core.nearest (FP.Core.unitsNum c (q - r) Q) (FP.Core.unitsDen d (q - r) Q) = C
    by_cases h1 : C < 2 ^ 24
    · rw [if_pos h1, if_pos (by omega)]
      exact ⟨C, Q, rfl, h1, hQb.1, by omega⟩
    · rw [if_neg h1, if_pos (by omega)]
      exact ⟨2 ^ 23, Q + 1, rfl, by decide, by omega, by omega⟩
  obtain ⟨C, Q, e, h1, h2, h3⟩ := key
  rw [e]
  exact um_enc h1 h2 h3
theorem um_mask {x : Nat} (h : x ≤ 0x7f800000) : UInt32.ofNat x &&& 0x7fffffff ≤ 0x7f800000 := by
  have e : (UInt32.ofNat x &&& 0x7fffffff).toNat ≤ x := by
    rw [UInt32.toNat_and]
    refine Nat.le_trans Nat.and_le_left ?_
    rw [UInt32.toNat_ofNat']
    exact Nat.mod_le _ _
  rw [UInt32.le_iff_toNat_le]
  have : (0x7f800000 : UInt32).toNat = 0x7f800000 := by decide
  omega
theorem um_share_nan {m n : Nat} (hm : m < 16384) (hn : n < 16384) (h0 : n ≠ 0) : FP.fdiv (FP.i2f (nI m)) (FP.i2f (nI n)) &&& 0x7fffffff ≤ 0x7f800000 := by
  obtain ⟨d, r, e1, d1, d2, r1, r2⟩ := um_dk1 hn h0
  show UInt32.ofNat (FP.Core.encode FP.Core.b32 (FP.Core.quotient FP.Core.b32 (FP.Core.decode FP.Core.b32 (FP.i2f (nI m)).toNat) (FP.Core.decode FP.Core.b32 (FP.i2f (nI n)).toNat))) &&& 0x7fffffff ≤ 0x7f800000
  rw [e1]
  refine um_mask ?_
  by_cases hz : m = 0
  · subst hz
    rw [um_dk0]
    rw [um_quot, if_neg (show ¬ d = 0 by omega)]
    unfold FP.Core.roundRatio
    rw [if_pos rfl]
    exact um_enc (by decide) (by decide) (by decide)
  · obtain ⟨c, q, e2, c1, c2, q1, q2⟩ := um_dk1 hm hz
    rw [e2]
    exact um_div_bits c1 c2 d1 d2 q1 q2 r1 r2
theorem um_s_meanRust {f ph pr ps rd rh rr rs rg oa od oi om op ou : Nat → Nat} {c la : Nat} (hI : um_I f c) (hT : um_D f la ph pr ps rd rh rr rs rg oa od oi om op ou) :
    ∃ r, ufX8_meanRust (nI (f 0)) (um_nv ou) = some r ∧ ufX9_meanRust (um_nv f) = some r := by
  have e8 := um_rust8 hI hT.2.2.2
  have e9 := um_rust9 (f := f) hI.2.1
  have hle : um_sum (fun r => f (13 + 6 * r)) (f 0) ≤ f 0 * 9 := um_sum_le (fun r hr => (hI.2.2.2.2.2.2.2.2.2.1 r (by have := hI.2.1; omega)).2.2)
  have h12 := hI.2.1
  unfold ufX8_meanRust ufX9_meanRust
  rw [e8, e9]
  by_cases h0 : f 0 = 0
  · refine ⟨FP.dconst0, ?_, ?_⟩
    · simp -implicitDefEqProofs (disch := omega) only [um_l0, um_l1, um_l2, um_l3, um_l4, um_l5, um_l6, um_l7, um_l8, um_l9, um_l10, um_l11, um_l12, um_l16, um_l20, um_l23, um_l24, um_l31, um_l32, um_l35, um_l42, um_l43, um_l45, um_l48, um_l57, um_l58, um_l59, um_l60, um_l61, um_l63, um_l64, um_l68, um_l83, um_l99, um_l100, um_l101, um_l102, um_l103, um_l104, um_l105, um_l106, um_l107, um_l108, um_l109, um_l110, um_l111, um_l112, um_l113, um_l114, um_l115, um_l116, um_l117, um_l118, um_l126, um_l128, um_l130, um_l131, um_l132, um_l133, um_l134, um_l135, um_l180, um_l210, um_l211, um_l235, um_l1645, um_l1880, ↓um_nm, um_b1, um_b2, um_b3, um_b4, um_b5, um_b6, um_b7, um_b8, um_b9, um_b10, um_gd, um_bz0, um_bz1, um_m1, nI_add, pk_mul, um_sub_lt0, um_sub_gt0, um_sub_eq0, um_sub_le0, pk_sub, nI_ltI, nI_leI, nI_eq, nI_clamp, um_nv_at, um_nv_up, um_up_eq, um_up_ne, if_true, if_false, if_pos, if_neg, um_at, um_at0, um_put, um_add, h0]
    · simp -implicitDefEqProofs (disch := omega) only [um_l0, um_l1, um_l2, um_l3, um_l4, um_l5, um_l6, um_l7, um_l8, um_l9, um_l10, um_l11, um_l12, um_l16, um_l20, um_l23, um_l24, um_l31, um_l32, um_l35, um_l42, um_l43, um_l45, um_l48, um_l57, um_l58, um_l59, um_l60, um_l61, um_l63, um_l64, um_l68, um_l83, um_l99, um_l100, um_l101, um_l102, um_l103, um_l104, um_l105, um_l106, um_l107, um_l108, um_l109, um_l110, um_l111, um_l112, um_l113, um_l114, um_l115, um_l116, um_l117, um_l118, um_l126, um_l128, um_l130, um_l131, um_l132, um_l133, um_l134, um_l135, um_l180, um_l210, um_l211, um_l235, um_l1645, um_l1880, ↓um_nm, um_b1, um_b2, um_b3, um_b4, um_b5, um_b6, um_b7, um_b8, um_b9, um_b10, um_gd, um_bz0, um_bz1, um_m1, nI_add, pk_mul, um_sub_lt0, um_sub_gt0, um_sub_eq0, um_sub_le0, pk_sub, nI_ltI, nI_leI, nI_eq, nI_clamp, um_nv_at, um_nv_up, um_up_eq, um_up_ne, if_true, if_false, if_pos, if_neg, um_at, um_at0, um_put, um_add, h0]
  · have hn := um_mean_nan (f 0) (by omega) h0 (um_sum (fun r => f (13 + 6 * r)) (f 0)) (by omega)
    generalize um_sum (fun r => f (13 + 6 * r)) (f 0) = s at *
    refine ⟨FP.ddiv (FP.i2d (nI s)) (FP.i2d (nI (f 0))), ?_, ?_⟩
    · rw [if_neg (nI_nle (by omega) (by omega)), um_b1]
      exact if_pos hn
    · simp -implicitDefEqProofs (disch := omega) only [um_l0, um_l1, um_l2, um_l3, um_l4, um_l5, um_l6, um_l7, um_l8, um_l9, um_l10, um_l11, um_l12, um_l16, um_l20, um_l23, um_l24, um_l31, um_l32, um_l35, um_l42, um_l43, um_l45, um_l48, um_l57, um_l58, um_l59, um_l60, um_l61, um_l63, um_l64, um_l68, um_l83, um_l99, um_l100, um_l101, um_l102, um_l103, um_l104, um_l105, um_l106, um_l107, um_l108, um_l109, um_l110, um_l111, um_l112, um_l113, um_l114, um_l115, um_l116, um_l117, um_l118, um_l126, um_l128, um_l130, um_l131, um_l132, um_l133, um_l134, um_l135, um_l180, um_l210, um_l211, um_l235, um_l1645, um_l1880, ↓um_nm, um_b1, um_b2, um_b3, um_b4, um_b5, um_b6, um_b7, um_b8, um_b9, um_b10, um_gd, um_bz0, um_bz1, um_m1, nI_add, pk_mul, um_sub_lt0, um_sub_gt0, um_sub_eq0, um_sub_le0, pk_sub, nI_ltI, nI_leI, nI_eq, nI_clamp, um_nv_at, um_nv_up, um_up_eq, um_up_ne, if_true, if_false, if_pos, if_neg, um_at, um_at0, um_put, um_add, h0, um_b1]
      exact if_pos hn
theorem um_s_answerShare {f : Nat → Nat} {c : Nat} (hI : um_I f c) (hc : c < 16384) :
    ∃ r, ufX8_answerShare (nI (f 5)) (nI (f 7)) (nI (f 6)) = some r ∧ ufX9_answerShare (um_nv f) = some r := by
  obtain ⟨q0, q1, q2, q3, q4, q5, q6, q7, q8, q9, q10, q11, q12, q13, q14, q15⟩ := hI
  unfold ufX8_answerShare ufX9_answerShare
  by_cases h0 : f 5 + f 6 + f 7 = 0
  · have a5 : f 5 = 0 := by omega
    have a6 : f 6 = 0 := by omega
    have a7 : f 7 = 0 := by omega
    refine ⟨FP.fconst0, ?_, ?_⟩
    · simp -implicitDefEqProofs (disch := omega) only [um_l0, um_l1, um_l2, um_l3, um_l4, um_l5, um_l6, um_l7, um_l8, um_l9, um_l10, um_l11, um_l12, um_l16, um_l20, um_l23, um_l24, um_l31, um_l32, um_l35, um_l42, um_l43, um_l45, um_l48, um_l57, um_l58, um_l59, um_l60, um_l61, um_l63, um_l64, um_l68, um_l83, um_l99, um_l100, um_l101, um_l102, um_l103, um_l104, um_l105, um_l106, um_l107, um_l108, um_l109, um_l110, um_l111, um_l112, um_l113, um_l114, um_l115, um_l116, um_l117, um_l118, um_l126, um_l128, um_l130, um_l131, um_l132, um_l133, um_l134, um_l135, um_l180, um_l210, um_l211, um_l235, um_l1645, um_l1880, ↓um_nm, um_b1, um_b2, um_b3, um_b4, um_b5, um_b6, um_b7, um_b8, um_b9, um_b10, um_gd, um_bz0, um_bz1, um_m1, nI_add, pk_mul, um_sub_lt0, um_sub_gt0, um_sub_eq0, um_sub_le0, pk_sub, nI_ltI, nI_leI, nI_eq, nI_clamp, um_nv_at, um_nv_up, um_up_eq, um_up_ne, if_true, if_false, if_pos, if_neg, um_at, um_at0, um_put, um_add, a5, a6, a7]
    · simp -implicitDefEqProofs (disch := omega) only [um_l0, um_l1, um_l2, um_l3, um_l4, um_l5, um_l6, um_l7, um_l8, um_l9, um_l10, um_l11, um_l12, um_l16, um_l20, um_l23, um_l24, um_l31, um_l32, um_l35, um_l42, um_l43, um_l45, um_l48, um_l57, um_l58, um_l59, um_l60, um_l61, um_l63, um_l64, um_l68, um_l83, um_l99, um_l100, um_l101, um_l102, um_l103, um_l104, um_l105, um_l106, um_l107, um_l108, um_l109, um_l110, um_l111, um_l112, um_l113, um_l114, um_l115, um_l116, um_l117, um_l118, um_l126, um_l128, um_l130, um_l131, um_l132, um_l133, um_l134, um_l135, um_l180, um_l210, um_l211, um_l235, um_l1645, um_l1880, ↓um_nm, um_b1, um_b2, um_b3, um_b4, um_b5, um_b6, um_b7, um_b8, um_b9, um_b10, um_gd, um_bz0, um_bz1, um_m1, nI_add, pk_mul, um_sub_lt0, um_sub_gt0, um_sub_eq0, um_sub_le0, pk_sub, nI_ltI, nI_leI, nI_eq, nI_clamp, um_nv_at, um_nv_up, um_up_eq, um_up_ne, if_true, if_false, if_pos, if_neg, um_at, um_at0, um_put, um_add, a5, a6, a7]
  · have hn := um_share_nan (m := f 5) (n := f 5 + f 6 + f 7) (by omega) (by omega) h0
    refine ⟨FP.fdiv (FP.i2f (nI (f 5))) (FP.i2f (nI (f 5 + f 6 + f 7))), ?_, ?_⟩
    · simp -implicitDefEqProofs (disch := omega) only [um_l0, um_l1, um_l2, um_l3, um_l4, um_l5, um_l6, um_l7, um_l8, um_l9, um_l10, um_l11, um_l12, um_l16, um_l20, um_l23, um_l24, um_l31, um_l32, um_l35, um_l42, um_l43, um_l45, um_l48, um_l57, um_l58, um_l59, um_l60, um_l61, um_l63, um_l64, um_l68, um_l83, um_l99, um_l100, um_l101, um_l102, um_l103, um_l104, um_l105, um_l106, um_l107, um_l108, um_l109, um_l110, um_l111, um_l112, um_l113, um_l114, um_l115, um_l116, um_l117, um_l118, um_l126, um_l128, um_l130, um_l131, um_l132, um_l133, um_l134, um_l135, um_l180, um_l210, um_l211, um_l235, um_l1645, um_l1880, ↓um_nm, um_b1, um_b2, um_b3, um_b4, um_b5, um_b6, um_b7, um_b8, um_b9, um_b10, um_gd, um_bz0, um_bz1, um_m1, nI_add, pk_mul, um_sub_lt0, um_sub_gt0, um_sub_eq0, um_sub_le0, pk_sub, nI_ltI, nI_leI, nI_eq, nI_clamp, um_nv_at, um_nv_up, um_up_eq, um_up_ne, if_true, if_false, if_pos, if_neg, um_at, um_at0, um_put, um_add]
      exact if_pos hn
    · simp -implicitDefEqProofs (disch := omega) only [um_l0, um_l1, um_l2, um_l3, um_l4, um_l5, um_l6, um_l7, um_l8, um_l9, um_l10, um_l11, um_l12, um_l16, um_l20, um_l23, um_l24, um_l31, um_l32, um_l35, um_l42, um_l43, um_l45, um_l48, um_l57, um_l58, um_l59, um_l60, um_l61, um_l63, um_l64, um_l68, um_l83, um_l99, um_l100, um_l101, um_l102, um_l103, um_l104, um_l105, um_l106, um_l107, um_l108, um_l109, um_l110, um_l111, um_l112, um_l113, um_l114, um_l115, um_l116, um_l117, um_l118, um_l126, um_l128, um_l130, um_l131, um_l132, um_l133, um_l134, um_l135, um_l180, um_l210, um_l211, um_l235, um_l1645, um_l1880, ↓um_nm, um_b1, um_b2, um_b3, um_b4, um_b5, um_b6, um_b7, um_b8, um_b9, um_b10, um_gd, um_bz0, um_bz1, um_m1, nI_add, pk_mul, um_sub_lt0, um_sub_gt0, um_sub_eq0, um_sub_le0, pk_sub, nI_ltI, nI_leI, nI_eq, nI_clamp, um_nv_at, um_nv_up, um_up_eq, um_up_ne, if_true, if_false, if_pos, if_neg, um_at, um_at0, um_put, um_add, h0]
      exact if_pos hn
/-! ===== the accounts are right ===== -/
theorem um_s_isBalanced9 {f : Nat → Nat} {c : Nat} (hI : um_I f c) : ufX9_isBalanced (um_nv f) = some (nI 1) := by
  obtain ⟨q0, q1, q2, q3, q4, q5, q6, q7, q8, q9, q10, q11, q12, q13, q14, q15⟩ := hI
  unfold ufX9_isBalanced
  have e : f 1 + f 5 + f 6 + f 7 + f 8 = f 4 := by omega
  simp -implicitDefEqProofs (disch := omega) only [um_l0, um_l1, um_l2, um_l3, um_l4, um_l5, um_l6, um_l7, um_l8, um_l9, um_l10, um_l11, um_l12, um_l16, um_l20, um_l23, um_l24, um_l31, um_l32, um_l35, um_l42, um_l43, um_l45, um_l48, um_l57, um_l58, um_l59, um_l60, um_l61, um_l63, um_l64, um_l68, um_l83, um_l99, um_l100, um_l101, um_l102, um_l103, um_l104, um_l105, um_l106, um_l107, um_l108, um_l109, um_l110, um_l111, um_l112, um_l113, um_l114, um_l115, um_l116, um_l117, um_l118, um_l126, um_l128, um_l130, um_l131, um_l132, um_l133, um_l134, um_l135, um_l180, um_l210, um_l211, um_l235, um_l1645, um_l1880, ↓um_nm, um_b1, um_b2, um_b3, um_b4, um_b5, um_b6, um_b7, um_b8, um_b9, um_b10, um_gd, um_bz0, um_bz1, um_m1, nI_add, pk_mul, um_sub_lt0, um_sub_gt0, um_sub_eq0, um_sub_le0, pk_sub, nI_ltI, nI_leI, nI_eq, nI_clamp, um_nv_at, um_nv_up, um_up_eq, um_up_ne, if_true, if_false, if_pos, if_neg, um_at, um_at0, um_put, um_add, e]
theorem um_pullsOk {f : Nat → Nat} {c : Nat} (hI : um_I f c) : ufX8_arePullsAccountedFor (nI (f 5)) (nI (f 4)) (nI (f 7)) (nI (f 6)) (nI (f 8)) (nI (f 1)) = some (nI 1) := by
  obtain ⟨q0, q1, q2, q3, q4, q5, q6, q7, q8, q9, q10, q11, q12, q13, q14, q15⟩ := hI
  unfold ufX8_arePullsAccountedFor
  have e : f 1 + f 5 + f 6 + f 7 + f 8 = f 4 := by omega
  simp -implicitDefEqProofs (disch := omega) only [um_l0, um_l1, um_l2, um_l3, um_l4, um_l5, um_l6, um_l7, um_l8, um_l9, um_l10, um_l11, um_l12, um_l16, um_l20, um_l23, um_l24, um_l31, um_l32, um_l35, um_l42, um_l43, um_l45, um_l48, um_l57, um_l58, um_l59, um_l60, um_l61, um_l63, um_l64, um_l68, um_l83, um_l99, um_l100, um_l101, um_l102, um_l103, um_l104, um_l105, um_l106, um_l107, um_l108, um_l109, um_l110, um_l111, um_l112, um_l113, um_l114, um_l115, um_l116, um_l117, um_l118, um_l126, um_l128, um_l130, um_l131, um_l132, um_l133, um_l134, um_l135, um_l180, um_l210, um_l211, um_l235, um_l1645, um_l1880, ↓um_nm, um_b1, um_b2, um_b3, um_b4, um_b5, um_b6, um_b7, um_b8, um_b9, um_b10, um_gd, um_bz0, um_bz1, um_m1, nI_add, pk_mul, um_sub_lt0, um_sub_gt0, um_sub_eq0, um_sub_le0, pk_sub, nI_ltI, nI_leI, nI_eq, nI_clamp, um_nv_at, um_nv_up, um_up_eq, um_up_ne, if_true, if_false, if_pos, if_neg, um_at, um_at0, um_put, um_add, e]
theorem um_ropesOk {f ph pr ps rd rh rr rs rg oa od oi om op ou : Nat → Nat} {c la : Nat} (hI : um_I f c) (hT : um_D f la ph pr ps rd rh rr rs rg oa od oi om op ou) :
    ufX8_areRopesAccountedFor (nI (f 5)) (nI (f 7)) (nI (f 6)) (nI (f 1)) (um_nv pr) (nI (f 0)) (um_nv oa) (um_nv od) (um_nv om) = some (nI 1) := by
  obtain ⟨hPL, hAN, hHD, hRP⟩ := hT
  obtain ⟨q0, q1, q2, q3, q4, q5, q6, q7, q8, q9, q10, q11, q12, q13, q14, q15⟩ := hI
  have s5 : um_sum oa 12 = f 5 := by rw [← q11]; exact um_sum_congr (fun r hr => (hRP r hr).2.2.2.1)
  have s6 : um_sum om 12 = f 6 := by rw [← q12]; exact um_sum_congr (fun r hr => (hRP r hr).2.2.2.2.1)
  have s7 : um_sum od 12 = f 7 := by rw [← q13]; exact um_sum_congr (fun r hr => (hRP r hr).2.2.2.2.2)
  have hb : ∀ k, k < f 1 → pr k < 12 := fun k hk => by have := (q14 k hk).1; rw [(hPL k hk).1]; omega
  have hp2 : 2 ^ f 0 ≤ 2 ^ 12 := Nat.pow_le_pow_right (by decide) q1
  have hone : ∀ n, um_cnt (fun _ => true) n = n := fun n => by
    induction n with
    | zero => rfl
    | succ n ih => rw [um_cnt_s, ih]; rfl
  have e : um_cnt (fun k => (2 ^ f 0 - 1).testBit (pr k)) (f 1) = f 1 := by
    rw [um_cnt_congr (g := fun _ => true) (fun k hk => by
      rw [(hPL k hk).1]
      exact um_all_bit (q14 k hk).1), hone]
  unfold ufX8_areRopesAccountedFor
  rw [um_sum8 (by decide), um_sum8 (by decide), um_sum8 (by decide), s5, s6, s7, um_setAll q1, um_b1, if_pos rfl, um_b1, if_pos rfl, um_b1, if_pos rfl, um_b1, um_numberIn q2 (by omega) hb, um_b1, e, if_pos rfl]
  rfl
theorem um_guessesOk {f ph pr ps rd rh rr rs rg oa od oi om op ou : Nat → Nat} {c la : Nat} (hI : um_I f c) (hT : um_D f la ph pr ps rd rh rr rs rg oa od oi om op ou) :
    ufX8_areGuessesTheSame (um_nv rg) (nI (f 0)) (um_nv op) = some (nI 1) := by
  obtain ⟨hPL, hAN, hHD, hRP⟩ := hT
  unfold ufX8_areGuessesTheSame
  refine um_loop (fun k (s : Int32) => ulX8_areGuessesTheSame_2 (um_nv rg) (nI (f 0)) (um_nv op) k s) (fun i => nI i) 0 24 (by omega) (by omega) ?_ ?_
  · intro i k _ hi
    show ulX8_areGuessesTheSame_2 (um_nv rg) (nI (f 0)) (um_nv op) (k + 1) _ = ulX8_areGuessesTheSame_2 (um_nv rg) (nI (f 0)) (um_nv op) k _
    obtain ⟨e1, e2, e3⟩ := um_guess8 hI hHD (fun r hr => (hRP r hr).1) hi
    rw [ulX8_areGuessesTheSame_2, if_neg (show ¬ (24 : Int32) ≤ nI i from nI_ge hi (by decide)), e1, e2, um_b1, um_b1, if_pos rfl, nI_1]
  · intro k
    show ulX8_areGuessesTheSame_2 (um_nv rg) (nI (f 0)) (um_nv op) (k + 1) _ = _
    rw [ulX8_areGuessesTheSame_2]
    simp -implicitDefEqProofs (disch := omega) only [um_l0, um_l1, um_l2, um_l3, um_l4, um_l5, um_l6, um_l7, um_l8, um_l9, um_l10, um_l11, um_l12, um_l16, um_l20, um_l23, um_l24, um_l31, um_l32, um_l35, um_l42, um_l43, um_l45, um_l48, um_l57, um_l58, um_l59, um_l60, um_l61, um_l63, um_l64, um_l68, um_l83, um_l99, um_l100, um_l101, um_l102, um_l103, um_l104, um_l105, um_l106, um_l107, um_l108, um_l109, um_l110, um_l111, um_l112, um_l113, um_l114, um_l115, um_l116, um_l117, um_l118, um_l126, um_l128, um_l130, um_l131, um_l132, um_l133, um_l134, um_l135, um_l180, um_l210, um_l211, um_l235, um_l1645, um_l1880, ↓um_nm, um_b1, um_b2, um_b3, um_b4, um_b5, um_b6, um_b7, um_b8, um_b9, um_b10, um_gd, um_bz0, um_bz1, um_m1, nI_add, pk_mul, um_sub_lt0, um_sub_gt0, um_sub_eq0, um_sub_le0, pk_sub, nI_ltI, nI_leI, nI_eq, nI_clamp, um_nv_at, um_nv_up, um_up_eq, um_up_ne, if_true, if_false, if_pos, if_neg, um_at, um_at0, um_put, um_add]
