/-! ===== ropes: a number is itself, a rope's text piece by piece, sums over ropes ===== -/
theorem uf_order {d : FP.Core.Datum} (h : d ≠ .nan) : FP.Core.order d d = some .eq := by
  cases d with
  | nan => exact absurd rfl h
  | inf s => simp [FP.Core.order, compare, compareOfLessAndEq]
  | fin s c q => simp [FP.Core.order, compare, compareOfLessAndEq]
theorem uf_f {x : UInt32} (h : vf_n32 x) {op : CmpOp} : Op.cmpValue (FP.fcmp x x) op = 0 := by
  have h1 := UInt32.le_iff_toNat_le.mp h
  rw [UInt32.toNat_and] at h1
  have h2 : x.toNat &&& 2147483647 ≤ 2139095040 := h1
  rw [show 2147483647 = 2 ^ 31 - 1 from rfl, Nat.and_two_pow_sub_one_eq_mod] at h2
  have h3 : FP.Core.decode FP.Core.b32 x.toNat ≠ .nan := by
    unfold FP.Core.decode
    split
    · rename_i hE
      have hE' : x.toNat / 8388608 % 256 = 255 := hE
      rw [if_pos (show FP.Core.fieldT FP.Core.b32 x.toNat = 0 from (show x.toNat % 8388608 = 0 by omega))]
      exact fun z => nomatch z
    · split <;> exact fun z => nomatch z
  show Op.cmpValue (FP.Core.order _ _) op = 0
  rw [uf_order h3]
  rfl
theorem uf_d {x : UInt64} (h : vf_n64 x) {op : CmpOp} : Op.cmpValue (FP.dcmp x x) op = 0 := by
  have h1 := UInt64.le_iff_toNat_le.mp h
  rw [UInt64.toNat_and] at h1
  have h2 : x.toNat &&& 9223372036854775807 ≤ 9218868437227405312 := h1
  rw [show 9223372036854775807 = 2 ^ 63 - 1 from rfl, Nat.and_two_pow_sub_one_eq_mod] at h2
  have h3 : FP.Core.decode FP.Core.b64 x.toNat ≠ .nan := by
    unfold FP.Core.decode
    split
    · rename_i hE
      have hE' : x.toNat / 4503599627370496 % 2048 = 2047 := hE
      rw [if_pos (show FP.Core.fieldT FP.Core.b64 x.toNat = 0 from (show x.toNat % 4503599627370496 = 0 by omega))]
      exact fun z => nomatch z
    · split <;> exact fun z => nomatch z
  show Op.cmpValue (FP.Core.order _ _) op = 0
  rw [uf_order h3]
  rfl
/-- a rope's text -/
def ut_r0 (f : Nat → Nat) (r : Nat) : List Nat := ((ut_num r ++ [58]) ++ ut_num (f (11 + 6 * r))) ++ (if f (12 + 6 * r) = 0 then [35] else [])
def ut_r1 (f : Nat → Nat) (r j : Nat) : List Nat := ut_r0 f r ++ List.replicate j 126
def ut_pp (f : Nat → Nat) (r k : Nat) : List Nat := if f (83 + 3 * k) = r then 64 :: (ut_num (f (84 + 3 * k)) ++ 42 :: ut_num (f (85 + 3 * k))) else []
def ut_pl (f : Nat → Nat) (r : Nat) : Nat → List Nat
  | 0 => []
  | k + 1 => ut_pl f r k ++ ut_pp f r k
def ut_r2 (f : Nat → Nat) (r k : Nat) : List Nat := ut_r1 f r (f (13 + 6 * r)) ++ ut_pl f r k
theorem ut_pl_pulls {f : Nat → Nat} {r : Nat} : ∀ k i, ut_pl f r i ++ ut_pulls f r k i = ut_pl f r (i + k)
  | 0, i => by
    rw [ut_pulls, List.append_nil, Nat.add_zero]
  | k + 1, i => by
    have h := ut_pl_pulls (f := f) (r := r) k (i + 1)
    rw [ut_pl, List.append_assoc] at h
    rw [ut_pulls]
    unfold ut_pp at h
    rw [h, show i + 1 + k = i + (k + 1) by omega]
theorem ut_r2_tell {f : Nat → Nat} {r : Nat} : ut_r2 f r (f 1) = ut_tell f r := by
  have h := ut_pl_pulls (f := f) (r := r) (f 1) 0
  rw [ut_pl, List.nil_append, Nat.zero_add] at h
  unfold ut_r2 ut_r1 ut_r0 ut_tell
  rw [← h]
  simp only [List.append_assoc, List.singleton_append, List.cons_append, List.nil_append]
theorem ut_r0_len {f : Nat → Nat} {c r : Nat} (hI : um_I f c) (hr : r < f 0) : (ut_r0 f r).length ≤ 5 := by
  have h1 := (ut_num_len r).2.1
  have h4 := (hI.2.2.2.2.2.2.2.2.2.1 r (by have := hI.2.1; omega)).1
  have h2 := (ut_num_len (f (11 + 6 * r))).2.2 (by omega)
  have h3 : (if f (12 + 6 * r) = 0 then [35] else ([] : List Nat)).length ≤ 1 := by
    split
    · exact Nat.le_refl 1
    · exact Nat.zero_le 1
  unfold ut_r0
  rw [List.length_append, List.length_append, List.length_append, List.length_singleton]
  omega
theorem ut_r1_len {f : Nat → Nat} {c r j : Nat} (hI : um_I f c) (hr : r < f 0) : (ut_r1 f r j).length ≤ 5 + j := by
  have := ut_r0_len hI hr
  unfold ut_r1
  rw [List.length_append, List.length_replicate]
  omega
theorem ut_pp_len {f : Nat → Nat} {c r k : Nat} (hI : um_I f c) (hk : k < f 1) : (ut_pp f r k).length ≤ 5 := by
  obtain ⟨p1, p2, p3, p4⟩ := hI.2.2.2.2.2.2.2.2.2.2.2.2.2.2.1 k hk
  have h1 := (ut_num_len (f (84 + 3 * k))).2.1
  have h2 := (ut_num_len (f (85 + 3 * k))).2.2 (by omega)
  unfold ut_pp
  split
  · rw [List.length_cons, List.length_append, List.length_cons]
    omega
  · exact Nat.zero_le 5
theorem ut_pl_len {f : Nat → Nat} {c r : Nat} (hI : um_I f c) : ∀ k, k ≤ f 1 → (ut_pl f r k).length ≤ 5 * k
  | 0, _ => Nat.le_refl 0
  | k + 1, hk => by
    have h1 := ut_pl_len (r := r) hI k (by omega)
    have h2 := ut_pp_len (r := r) hI (show k < f 1 by omega)
    rw [ut_pl, List.length_append]
    omega
theorem ut_r2_len {f : Nat → Nat} {c r k : Nat} (hI : um_I f c) (hr : r < f 0) (hk : k ≤ f 1) : (ut_r2 f r k).length ≤ 14 + 5 * k := by
  have h1 := ut_r1_len (j := f (13 + 6 * r)) hI hr
  have h2 := ut_pl_len (r := r) hI k hk
  have h3 := (hI.2.2.2.2.2.2.2.2.2.1 r (by have := hI.2.1; omega)).2.2
  unfold ut_r2
  rw [List.length_append]
  omega
theorem ut_tell_len {f : Nat → Nat} {c r : Nat} (hI : um_I f c) (hr : r < f 0) : (ut_tell f r).length ≤ 128 := by
  have h1 := ut_r2_len hI hr (Nat.le_refl (f 1))
  have h2 := hI.2.2.1
  rw [ut_r2_tell] at h1
  omega
/-- sums over ropes -/
theorem us_cut {F : Nat → Nat} {n : Nat} : ∀ d, (∀ r, n ≤ r → r < n + d → F r = 0) → um_sum F (n + d) = um_sum F n
  | 0, _ => rfl
  | d + 1, h => by
    have h1 := us_cut (F := F) (n := n) d (fun r h1 h2 => h r h1 (by omega))
    show um_sum F (n + d) + F (n + d) = _
    rw [h1, h (n + d) (by omega) (by omega), Nat.add_zero]
theorem us_cut12 {F : Nat → Nat} {n : Nat} (hn : n ≤ 12) (h : ∀ r, n ≤ r → r < 12 → F r = 0) : um_sum F n = um_sum F 12 := by
  have h1 := us_cut (F := F) (n := n) (12 - n) (fun r h1 h2 => h r h1 (by omega))
  rw [show n + (12 - n) = 12 by omega] at h1
  exact h1.symm
theorem us_one {a : Nat} : ∀ n, um_sum (fun r => um_b2n (decide (a = r))) n = if a < n then 1 else 0
  | 0 => (if_neg (Nat.not_lt_zero a)).symm
  | n + 1 => by
    show um_sum _ n + um_b2n (decide (a = n)) = _
    rw [us_one n]
    by_cases e : a = n
    · rw [decide_eq_true e, if_neg (by omega), if_pos (by omega)]
      rfl
    · rw [decide_eq_false e]
      by_cases e2 : a < n
      · rw [if_pos e2, if_pos (by omega)]
        rfl
      · rw [if_neg e2, if_neg (by omega)]
        rfl
theorem us_ones : ∀ n, um_sum (fun _ => 1) n = n
  | 0 => rfl
  | n + 1 => by
    show um_sum _ n + 1 = _
    rw [us_ones n]
theorem us_pulls {f : Nat → Nat} {c : Nat} (hI : um_I f c) : um_sum (fun r => um_cnt (fun k => decide (f (83 + 3 * k) = r)) (f 1)) (f 0) = f 1 := by
  have h1 : um_sum (fun r => um_sum (fun k => um_b2n (decide (f (83 + 3 * k) = r))) (f 1)) (f 0) = um_sum (fun k => um_sum (fun r => um_b2n (decide (f (83 + 3 * k) = r))) (f 0)) (f 1) := um_sum_swap (F := fun r k => um_b2n (decide (f (83 + 3 * k) = r)))
  have h2 : um_sum (fun k => um_sum (fun r => um_b2n (decide (f (83 + 3 * k) = r))) (f 0)) (f 1) = um_sum (fun _ => 1) (f 1) := um_sum_congr (fun k hk => by
    rw [us_one, if_pos (hI.2.2.2.2.2.2.2.2.2.2.2.2.2.2.1 k hk).1])
  exact (h1.trans h2).trans (us_ones (f 1))
/-- what a rope counts: answers, misses, doubles, pulls that wait -/
def us_S (f : Nat → Nat) (y r : Nat) : Nat := if y = 3 then um_cnt (fun k => decide (f (83 + 3 * k) = r)) (f 1) else f (14 + y + 6 * r)
theorem us_Sv {f : Nat → Nat} {c j y : Nat} (hI : um_I f c) (hj : j < f 0) (hy : y < 4) : ux_ropeOf f (nI j) (nI (3 + y)) = nI (us_S f y j) := by
  unfold us_S
  by_cases e : y = 3
  · subst e
    rw [if_pos rfl]
    exact uw_ropeOf6 hI hj
  · rw [if_neg e, uw_ropeOf hI hj (by omega)]
    congr 2
    omega
theorem us_Sall {f : Nat → Nat} {c : Nat} (hI : um_I f c) : um_sum (us_S f 0) (f 0) = f 5 ∧ um_sum (us_S f 1) (f 0) = f 6 ∧ um_sum (us_S f 2) (f 0) = f 7 ∧ um_sum (us_S f 3) (f 0) = f 1 := by
  have hP := us_pulls hI
  obtain ⟨q0, q1, q2, q3, q4, q5, q6, q7, q8, q9, q10, q11, q12, q13, q14, q15⟩ := hI
  refine ⟨?_, ?_, ?_, hP⟩
  · rw [← q11]
    exact us_cut12 (F := fun r => f (14 + 6 * r)) q1 (fun r h1 h2 => (q10 r h1 h2).2.2.2.1)
  · rw [← q12]
    exact us_cut12 (F := fun r => f (15 + 6 * r)) q1 (fun r h1 h2 => (q10 r h1 h2).2.2.2.2.1)
  · rw [← q13]
    exact us_cut12 (F := fun r => f (16 + 6 * r)) q1 (fun r h1 h2 => (q10 r h1 h2).2.2.2.2.2)
theorem us_mean_n {f : Nat → Nat} {c : Nat} (hI : um_I f c) : vf_n64 (ux_meanRust f) := by
  rw [uw_meanRust hI]
  by_cases h0 : f 0 = 0
  · rw [if_pos h0]
    exact (show FP.dconst0 &&& 0x7fffffffffffffff ≤ 0x7ff0000000000000 by decide +kernel)
  · rw [if_neg h0]
    have h12 := hI.2.1
    have hle : um_sum (fun r => f (13 + 6 * r)) (f 0) ≤ f 0 * 9 := um_sum_le (fun r hr => (hI.2.2.2.2.2.2.2.2.2.1 r (by omega)).2.2)
    exact um_mean_nan (f 0) (by omega) h0 _ (by omega)
theorem us_share_n {f : Nat → Nat} {c : Nat} (hI : um_I f c) (hc : c < 16384) : vf_n32 (ux_answerShare f) := by
  rw [uw_answerShare hI hc]
  obtain ⟨q0, q1, q2, q3, q4, q5, q6, q7, q8, q9, q10, q11, q12, q13, q14, q15⟩ := hI
  by_cases h0 : f 5 + f 6 + f 7 = 0
  · rw [if_pos h0]
    exact (show FP.fconst0 &&& 0x7fffffff ≤ 0x7f800000 by decide +kernel)
  · rw [if_neg h0]
    exact um_share_nan (by omega) (by omega) h0
