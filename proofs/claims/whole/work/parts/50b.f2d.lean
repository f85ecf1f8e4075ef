/-! ===== float to double: a number stays one ===== -/
theorem um_enc64 {s : Bool} {c : Nat} {q : Int} (hc : c < 2 ^ 53) (h1 : -1074 ≤ q) (h2 : q ≤ 900) : ∃ e t : Nat, FP.Core.encode FP.Core.b64 (.fin s c q) = (s.toNat * 2048 + e) * 4503599627370496 + t ∧ e * 4503599627370496 + t ≤ 0x7ff0000000000000 := by
  have ht : FP.Core.b64.tails = 2 ^ 52 := by decide +kernel
  have he : FP.Core.b64.exps = 2048 := by decide +kernel
  have hm : FP.Core.b64.qmin = -1074 := by decide +kernel
  have e : FP.Core.encode FP.Core.b64 (.fin s c q) = if c < FP.Core.b64.tails then FP.Core.assemble FP.Core.b64 s 0 c else FP.Core.assemble FP.Core.b64 s ((q - FP.Core.b64.qmin).toNat + 1) (c - FP.Core.b64.tails) := rfl
  have ea : ∀ e t : Nat, FP.Core.assemble FP.Core.b64 s e t = (s.toNat * 2048 + e) * 4503599627370496 + t := fun e t => by
    unfold FP.Core.assemble
    rw [ht, he]
  rw [e, ea, ea, ht, hm]
  have h8 : 0x7ff0000000000000 = 9218868437227405312 := rfl
  by_cases h9 : c < 2 ^ 52
  · rw [if_pos h9]
    exact ⟨0, c, rfl, by omega⟩
  · rw [if_neg h9]
    exact ⟨_, _, rfl, by omega⟩
theorem um_mask64 {s : Bool} {n e t : Nat} (hn : n = (s.toNat * 2048 + e) * 4503599627370496 + t) (h : e * 4503599627370496 + t ≤ 0x7ff0000000000000) : vf_n64 (UInt64.ofNat n) := by
  unfold vf_n64
  rw [UInt64.le_iff_toNat_le, UInt64.toNat_and, UInt64.toNat_ofNat']
  have e1 : (0x7fffffffffffffff : UInt64).toNat = 2 ^ 63 - 1 := by decide
  have e2 : (0x7ff0000000000000 : UInt64).toNat = 0x7ff0000000000000 := by decide
  rw [e1, e2, Nat.and_two_pow_sub_one_eq_mod]
  have h8 : 0x7ff0000000000000 = 9218868437227405312 := rfl
  cases s
  · rw [hn, Bool.toNat_false]
    omega
  · rw [hn, Bool.toNat_true]
    omega
theorem um_round64 {s : Bool} {c : Nat} {q : Int} (hc : c < 2 ^ 24) (hq2 : q ≤ 200) : ∃ C Q, FP.Core.round FP.Core.b64 (.fin s c q) = .fin s C Q ∧ C < 2 ^ 53 ∧ -1074 ≤ Q ∧ Q ≤ 900 := by
  have hp : FP.Core.b64.p = 53 := by decide +kernel
  have hm : FP.Core.b64.qmin = -1074 := by decide +kernel
  have hM : FP.Core.b64.qmax = 971 := by decide +kernel
  have ht : FP.Core.b64.tails = 2 ^ 52 := by decide +kernel
  have e0 : FP.Core.round FP.Core.b64 (.fin s c q) = FP.Core.roundRatio FP.Core.b64 s c 1 q := rfl
  rw [e0]
  unfold FP.Core.roundRatio
  by_cases h0 : c = 0
  · rw [if_pos h0, hm]
    exact ⟨0, -1074, rfl, by decide, by decide, by decide⟩
  · rw [if_neg h0]
    have hlead : FP.Core.leading c 1 ≤ 23 := by
      have hl : c.log2 < 24 := (Nat.log2_lt h0).mpr hc
      unfold FP.Core.leading
      have h1 : (Nat.log2 1 : Int) = 0 := by decide
      rw [h1]
      dsimp only
      split
      · omega
      · omega
    unfold FP.Core.quantum FP.Core.roundAt FP.Core.settle FP.Core.bound
    rw [hp, hm, hM, ht]
    generalize hQ : max (-1074 : Int) (FP.Core.leading c 1 + q - (((53 : Nat) : Int) - 1)) = Q
    have hQb : -1074 ≤ Q ∧ Q ≤ 800 := by
      rw [← hQ]
      omega
    generalize FP.Core.nearest (FP.Core.unitsNum c q Q) (FP.Core.unitsDen 1 q Q) = C
    by_cases h1 : C < 2 ^ 53
    · rw [if_pos h1, if_pos (by omega)]
      exact ⟨C, Q, rfl, h1, hQb.1, by omega⟩
    · rw [if_neg h1, if_pos (by omega)]
      exact ⟨2 ^ 52, Q + 1, rfl, by decide, by omega, by omega⟩
theorem um_conv {d : FP.Core.Datum} (h : d ≠ .nan) (hf : ∀ s c q, d = .fin s c q → c < 2 ^ 24 ∧ q ≤ 200) : vf_n64 (UInt64.ofNat (FP.Core.encode FP.Core.b64 (FP.Core.round FP.Core.b64 d))) := by
  match d, h, hf with
  | .nan, h, _ => exact absurd rfl h
  | .inf s, _, _ =>
    have ht : FP.Core.b64.tails = 2 ^ 52 := by decide +kernel
    have he : FP.Core.b64.exps = 2048 := by decide +kernel
    refine um_mask64 (s := s) (e := 2047) (t := 0) ?_ (by decide)
    have e : FP.Core.encode FP.Core.b64 (FP.Core.round FP.Core.b64 (.inf s)) = FP.Core.assemble FP.Core.b64 s (FP.Core.b64.exps - 1) 0 := rfl
    rw [e]
    unfold FP.Core.assemble
    rw [ht, he]
  | .fin s c q, _, hf =>
    obtain ⟨h1, h2⟩ := hf s c q rfl
    obtain ⟨C, Q, e, g1, g2, g3⟩ := um_round64 (s := s) h1 h2
    rw [e]
    obtain ⟨x, t, e1, e2⟩ := um_enc64 (s := s) g1 g2 g3
    exact um_mask64 e1 e2
theorem um_f2d {r : UInt32} (h : r &&& 0x7fffffff ≤ 0x7f800000) : vf_n64 (FP.f2d r) := by
  have ht : FP.Core.b32.tails = 2 ^ 23 := by decide +kernel
  have he : FP.Core.b32.exps = 256 := by decide +kernel
  have hm : FP.Core.b32.qmin = -149 := by decide +kernel
  have hmod : r.toNat % 2 ^ 31 ≤ 0x7f800000 := by
    rw [UInt32.le_iff_toNat_le, UInt32.toNat_and] at h
    have e1 : (0x7fffffff : UInt32).toNat = 2 ^ 31 - 1 := by decide
    have e2 : (0x7f800000 : UInt32).toNat = 0x7f800000 := by decide
    rw [e1, e2, Nat.and_two_pow_sub_one_eq_mod] at h
    exact h
  generalize hn : r.toNat = n at hmod
  have h8 : 0x7f800000 = 2139095040 := rfl
  have key : FP.Core.decode FP.Core.b32 n ≠ .nan ∧ ∀ s c q, FP.Core.decode FP.Core.b32 n = .fin s c q → c < 2 ^ 24 ∧ q ≤ 200 := by
    unfold FP.Core.decode FP.Core.fieldE FP.Core.fieldT
    rw [ht, he, hm]
    by_cases h1 : n / 2 ^ 23 % 256 = 256 - 1
    · have h2 : n % 2 ^ 23 = 0 := by omega
      rw [if_pos h1, if_pos h2]
      exact ⟨fun z => FP.Core.Datum.noConfusion z, fun s c q z => FP.Core.Datum.noConfusion z⟩
    · rw [if_neg h1]
      by_cases h2 : n / 2 ^ 23 % 256 = 0
      · rw [if_pos h2]
        refine ⟨fun z => FP.Core.Datum.noConfusion z, fun s c q z => ?_⟩
        injection z with z1 z2 z3
        omega
      · rw [if_neg h2]
        refine ⟨fun z => FP.Core.Datum.noConfusion z, fun s c q z => ?_⟩
        injection z with z1 z2 z3
        omega
  unfold FP.f2d
  have hnn : FP.Core.fIsNaN r = false := by
    unfold FP.Core.fIsNaN FP.Core.isNaN
    rw [hn]
    exact decide_eq_false key.1
  rw [hnn, if_neg (by decide)]
  unfold FP.Core.f2d FP.Core.convert
  rw [hn]
  exact um_conv key.1 key.2
theorem um_s_answerShare2 {f : Nat → Nat} {c : Nat} (hI : um_I f c) (hc : c < 16384) :
    ∃ r, ufX8_answerShare (nI (f 5)) (nI (f 7)) (nI (f 6)) = some r ∧ ufX9_answerShare (um_nv f) = some r ∧ r &&& 0x7fffffff ≤ 0x7f800000 := by
  obtain ⟨q0, q1, q2, q3, q4, q5, q6, q7, q8, q9, q10, q11, q12, q13, q14, q15⟩ := hI
  unfold ufX8_answerShare ufX9_answerShare
  by_cases h0 : f 5 + f 6 + f 7 = 0
  · have a5 : f 5 = 0 := by omega
    have a6 : f 6 = 0 := by omega
    have a7 : f 7 = 0 := by omega
    refine ⟨FP.fconst0, ?_, ?_, by decide +kernel⟩
    · simp -implicitDefEqProofs (disch := omega) only [um_l0, um_l1, um_l2, um_l3, um_l4, um_l5, um_l6, um_l7, um_l8, um_l9, um_l10, um_l11, um_l12, um_l16, um_l20, um_l23, um_l24, um_l31, um_l32, um_l35, um_l42, um_l43, um_l45, um_l48, um_l57, um_l58, um_l59, um_l60, um_l61, um_l63, um_l64, um_l68, um_l83, um_l99, um_l100, um_l101, um_l102, um_l103, um_l104, um_l105, um_l106, um_l107, um_l108, um_l109, um_l110, um_l111, um_l112, um_l113, um_l114, um_l115, um_l116, um_l117, um_l118, um_l126, um_l128, um_l130, um_l131, um_l132, um_l133, um_l134, um_l135, um_l180, um_l210, um_l211, um_l235, um_l1645, um_l1880, ↓um_nm, um_b1, um_b2, um_b3, um_b4, um_b5, um_b6, um_b7, um_b8, um_b9, um_b10, um_gd, um_bz0, um_bz1, um_m1, nI_add, pk_mul, um_sub_lt0, um_sub_gt0, um_sub_eq0, um_sub_le0, pk_sub, nI_ltI, nI_leI, nI_eq, nI_clamp, um_nv_at, um_nv_up, um_up_eq, um_up_ne, if_true, if_false, if_pos, if_neg, um_at, um_at0, um_put, um_add, a5, a6, a7]
    · simp -implicitDefEqProofs (disch := omega) only [um_l0, um_l1, um_l2, um_l3, um_l4, um_l5, um_l6, um_l7, um_l8, um_l9, um_l10, um_l11, um_l12, um_l16, um_l20, um_l23, um_l24, um_l31, um_l32, um_l35, um_l42, um_l43, um_l45, um_l48, um_l57, um_l58, um_l59, um_l60, um_l61, um_l63, um_l64, um_l68, um_l83, um_l99, um_l100, um_l101, um_l102, um_l103, um_l104, um_l105, um_l106, um_l107, um_l108, um_l109, um_l110, um_l111, um_l112, um_l113, um_l114, um_l115, um_l116, um_l117, um_l118, um_l126, um_l128, um_l130, um_l131, um_l132, um_l133, um_l134, um_l135, um_l180, um_l210, um_l211, um_l235, um_l1645, um_l1880, ↓um_nm, um_b1, um_b2, um_b3, um_b4, um_b5, um_b6, um_b7, um_b8, um_b9, um_b10, um_gd, um_bz0, um_bz1, um_m1, nI_add, pk_mul, um_sub_lt0, um_sub_gt0, um_sub_eq0, um_sub_le0, pk_sub, nI_ltI, nI_leI, nI_eq, nI_clamp, um_nv_at, um_nv_up, um_up_eq, um_up_ne, if_true, if_false, if_pos, if_neg, um_at, um_at0, um_put, um_add, a5, a6, a7]
  · have hn := um_share_nan (m := f 5) (n := f 5 + f 6 + f 7) (by omega) (by omega) h0
    refine ⟨FP.fdiv (FP.i2f (nI (f 5))) (FP.i2f (nI (f 5 + f 6 + f 7))), ?_, ?_, hn⟩
    · simp -implicitDefEqProofs (disch := omega) only [um_l0, um_l1, um_l2, um_l3, um_l4, um_l5, um_l6, um_l7, um_l8, um_l9, um_l10, um_l11, um_l12, um_l16, um_l20, um_l23, um_l24, um_l31, um_l32, um_l35, um_l42, um_l43, um_l45, um_l48, um_l57, um_l58, um_l59, um_l60, um_l61, um_l63, um_l64, um_l68, um_l83, um_l99, um_l100, um_l101, um_l102, um_l103, um_l104, um_l105, um_l106, um_l107, um_l108, um_l109, um_l110, um_l111, um_l112, um_l113, um_l114, um_l115, um_l116, um_l117, um_l118, um_l126, um_l128, um_l130, um_l131, um_l132, um_l133, um_l134, um_l135, um_l180, um_l210, um_l211, um_l235, um_l1645, um_l1880, ↓um_nm, um_b1, um_b2, um_b3, um_b4, um_b5, um_b6, um_b7, um_b8, um_b9, um_b10, um_gd, um_bz0, um_bz1, um_m1, nI_add, pk_mul, um_sub_lt0, um_sub_gt0, um_sub_eq0, um_sub_le0, pk_sub, nI_ltI, nI_leI, nI_eq, nI_clamp, um_nv_at, um_nv_up, um_up_eq, um_up_ne, if_true, if_false, if_pos, if_neg, um_at, um_at0, um_put, um_add]
      exact if_pos hn
    · simp -implicitDefEqProofs (disch := omega) only [um_l0, um_l1, um_l2, um_l3, um_l4, um_l5, um_l6, um_l7, um_l8, um_l9, um_l10, um_l11, um_l12, um_l16, um_l20, um_l23, um_l24, um_l31, um_l32, um_l35, um_l42, um_l43, um_l45, um_l48, um_l57, um_l58, um_l59, um_l60, um_l61, um_l63, um_l64, um_l68, um_l83, um_l99, um_l100, um_l101, um_l102, um_l103, um_l104, um_l105, um_l106, um_l107, um_l108, um_l109, um_l110, um_l111, um_l112, um_l113, um_l114, um_l115, um_l116, um_l117, um_l118, um_l126, um_l128, um_l130, um_l131, um_l132, um_l133, um_l134, um_l135, um_l180, um_l210, um_l211, um_l235, um_l1645, um_l1880, ↓um_nm, um_b1, um_b2, um_b3, um_b4, um_b5, um_b6, um_b7, um_b8, um_b9, um_b10, um_gd, um_bz0, um_bz1, um_m1, nI_add, pk_mul, um_sub_lt0, um_sub_gt0, um_sub_eq0, um_sub_le0, pk_sub, nI_ltI, nI_leI, nI_eq, nI_clamp, um_nv_at, um_nv_up, um_up_eq, um_up_ne, if_true, if_false, if_pos, if_neg, um_at, um_at0, um_put, um_add, h0]
      exact if_pos hn
