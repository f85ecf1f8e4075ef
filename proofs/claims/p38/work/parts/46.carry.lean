/-! ===== an order is carried out: the class and the reference do alike ===== -/
section UM46
variable {f ph pr ps rd rh rr rs rg oa od oi om op ou : Nat → Nat} {c la : Nat} {lr ld w d : Int32} {kd : Nat → Int32} {N : Nat → Nat} {i a b e : Nat}
theorem um_k_c (hi : i < 60) (hk : kd i = nI 99) (har : um_ar N i 99 a b e) (hI : um_I f c) (hT : um_D f la ph pr ps rd rh rr rs rg oa od oi om op ou) (hc : c + 1 ≤ 2 ^ 20) (hR : um_RS lr ld w d) :
    ∃ (y z fl lr' ld' w' d' : Int32) (f' : Nat → Nat) (la' : Nat) (ph' pr' ps' rd' rh' rr' rs' rg' oa' od' oi' om' op' ou' : Nat → Nat), ufX8_carryOut ld lr (nI (f 5)) (nI (f 4)) (nI (f 3)) (nI (f 7)) (nI (f 2)) (nI (f 6)) (nI (f 10)) (nI (f 8)) (nI (f 1)) (um_nv ph) (um_nv pr) (um_nv ps) (nI la) (nI (f 9)) (um_nv rd) (um_nv rh) (um_nv rr) (um_nv rs) (um_nv rg) (nI (f 0)) (um_nv oa) (um_nv od) (um_nv oi) (um_nv om) (um_nv op) (um_nv ou) kd (um_nv N) (nI i) = some (y, ld', lr', nI (f' 5), nI (f' 4), nI (f' 3), nI (f' 7), nI (f' 2), nI (f' 6), nI (f' 10), nI (f' 8), nI (f' 1), um_nv ph', um_nv pr', um_nv ps', nI la', nI (f' 9), um_nv rd', um_nv rh', um_nv rr', um_nv rs', um_nv rg', nI (f' 0), um_nv oa', um_nv od', um_nv oi', um_nv om', um_nv op', um_nv ou') ∧ ufX9_does d 0 w (um_nv f) (nI 99) (nI a) (nI b) (nI e) = some (z, d', fl, w', um_nv f') ∧ um_RS lr' ld' w' d' ∧ um_I f' (c + 1) ∧ um_D f' la' ph' pr' ps' rd' rh' rr' rs' rg' oa' od' oi' om' op' ou' ∧ um_E y z fl f f' := by
  obtain ⟨y, z, fl, lr', ld', w', d', f', ph', pr', ps', e1, e2, hR', hI', hT', hE, keep⟩ := um_o_cancel (x := nI a) hI hT hc hR
  have k0 : f' 0 = f 0 := by apply keep <;> omega
  have k2 : f' 2 = f 2 := by apply keep <;> omega
  have k3 : f' 3 = f 3 := by apply keep <;> omega
  have k4 : f' 4 = f 4 := by apply keep <;> omega
  have k5 : f' 5 = f 5 := by apply keep <;> omega
  have k6 : f' 6 = f 6 := by apply keep <;> omega
  have k7 : f' 7 = f 7 := by apply keep <;> omega
  have k9 : f' 9 = f 9 := by apply keep <;> omega
  have k10 : f' 10 = f 10 := by apply keep <;> omega
  have i3 : nI i * (3 : Int32) = nI (3 * i) := by rw [show (3 : Int32) = nI 3 from rfl, pk_mul, Nat.mul_comm]
  have n0 : ufX3_numberAt (um_nv N) (nI i) 0 = some (nI (N (3 * i))) := by
    unfold ufX3_numberAt
    rw [i3, show (0 : Int32) = nI 0 from rfl, nI_add, Nat.add_zero, um_at (by omega) (by decide), um_b1]
  have n1 : ufX3_numberAt (um_nv N) (nI i) 1 = some (nI (N (3 * i + 1))) := by
    unfold ufX3_numberAt
    rw [i3, nI_1, um_at (by omega) (by decide), um_b1]
  have g0 : N (3 * i) = a := har.1 (by decide)
  refine ⟨y, z, fl, lr', ld', w', d', f', la, ph', pr', ps', rd, rh, rr, rs, rg, oa, od, oi, om, op, ou, ?_, ?_, hR', hI', hT', hE⟩
  · unfold ufX8_carryOut
    rw [n0, n1, um_b1, um_b1, um_atI hi (by decide), um_b1, hk, if_pos (show nI 99 = (99 : Int32) from rfl), g0, e1, um_b8, k0, k2, k3, k4, k5, k6, k7, k9, k10]
  · unfold ufX9_does
    rw [if_pos (show nI 99 = (99 : Int32) from rfl), e2, um_b5]
theorem um_k_e (hi : i < 60) (hk : kd i = nI 101) (har : um_ar N i 101 a b e) (hI : um_I f c) (hT : um_D f la ph pr ps rd rh rr rs rg oa od oi om op ou) (hc : c + 1 ≤ 2 ^ 20) (hR : um_RS lr ld w d) :
    ∃ (y z fl lr' ld' w' d' : Int32) (f' : Nat → Nat) (la' : Nat) (ph' pr' ps' rd' rh' rr' rs' rg' oa' od' oi' om' op' ou' : Nat → Nat), ufX8_carryOut ld lr (nI (f 5)) (nI (f 4)) (nI (f 3)) (nI (f 7)) (nI (f 2)) (nI (f 6)) (nI (f 10)) (nI (f 8)) (nI (f 1)) (um_nv ph) (um_nv pr) (um_nv ps) (nI la) (nI (f 9)) (um_nv rd) (um_nv rh) (um_nv rr) (um_nv rs) (um_nv rg) (nI (f 0)) (um_nv oa) (um_nv od) (um_nv oi) (um_nv om) (um_nv op) (um_nv ou) kd (um_nv N) (nI i) = some (y, ld', lr', nI (f' 5), nI (f' 4), nI (f' 3), nI (f' 7), nI (f' 2), nI (f' 6), nI (f' 10), nI (f' 8), nI (f' 1), um_nv ph', um_nv pr', um_nv ps', nI la', nI (f' 9), um_nv rd', um_nv rh', um_nv rr', um_nv rs', um_nv rg', nI (f' 0), um_nv oa', um_nv od', um_nv oi', um_nv om', um_nv op', um_nv ou') ∧ ufX9_does d 0 w (um_nv f) (nI 101) (nI a) (nI b) (nI e) = some (z, d', fl, w', um_nv f') ∧ um_RS lr' ld' w' d' ∧ um_I f' (c + 1) ∧ um_D f' la' ph' pr' ps' rd' rh' rr' rs' rg' oa' od' oi' om' op' ou' ∧ um_E y z fl f f' := by
  obtain ⟨rg', om', ou', e1, hT'⟩ := um_endDay (x := nI (f 2)) hI hT
  have hb : ∀ k, k < f 1 → f (83 + 3 * k) < 12 := fun k hk => by
    have h1 := (hI.2.2.2.2.2.2.2.2.2.2.2.2.2.2.1 k hk).1
    have h2 := hI.2.1
    omega
  obtain ⟨x0, x1, x2, x3, x4, x5, x6, x7, x8, x9, x10, xR, xA, xH⟩ := um_end_read hI.2.1 hb
  have i3 : nI i * (3 : Int32) = nI (3 * i) := by rw [show (3 : Int32) = nI 3 from rfl, pk_mul, Nat.mul_comm]
  have n0 : ufX3_numberAt (um_nv N) (nI i) 0 = some (nI (N (3 * i))) := by
    unfold ufX3_numberAt
    rw [i3, show (0 : Int32) = nI 0 from rfl, nI_add, Nat.add_zero, um_at (by omega) (by decide), um_b1]
  have n1 : ufX3_numberAt (um_nv N) (nI i) 1 = some (nI (N (3 * i + 1))) := by
    unfold ufX3_numberAt
    rw [i3, nI_1, um_at (by omega) (by decide), um_b1]
  refine ⟨nI (f 1), nI (f 1), 0, lr, ld, w, d, um_endF f, la, ph, pr, ps, rd, rh, rr, rs, rg', oa, od, oi, om', op, ou', ?_, ?_, hR, um_I_end hI hc, hT', Or.inl ⟨rfl, rfl, nI_pos (by have := hI.2.2.1; omega)⟩⟩
  · unfold ufX8_carryOut
    rw [n0, n1, um_b1, um_b1, um_atI hi (by decide), um_b1, hk, if_neg (show ¬ nI 101 = (99 : Int32) by decide), if_neg (show ¬ nI 101 = (100 : Int32) by decide), if_pos (show nI 101 = (101 : Int32) from rfl), e1, um_b8, x0, x1, x2, x4, x5, x7, x8, x9, x10]
    rfl
  · unfold ufX9_does
    rw [if_neg (show ¬ nI 101 = (99 : Int32) by decide), if_neg (show ¬ nI 101 = (100 : Int32) by decide), if_pos (show nI 101 = (101 : Int32) from rfl), um_endsDay hI, um_b2]
theorem um_k_h (hi : i < 60) (hk : kd i = nI 104) (har : um_ar N i 104 a b e) (hI : um_I f c) (hT : um_D f la ph pr ps rd rh rr rs rg oa od oi om op ou) (hc : c + 1 ≤ 2 ^ 20) (hR : um_RS lr ld w d) :
    ∃ (y z fl lr' ld' w' d' : Int32) (f' : Nat → Nat) (la' : Nat) (ph' pr' ps' rd' rh' rr' rs' rg' oa' od' oi' om' op' ou' : Nat → Nat), ufX8_carryOut ld lr (nI (f 5)) (nI (f 4)) (nI (f 3)) (nI (f 7)) (nI (f 2)) (nI (f 6)) (nI (f 10)) (nI (f 8)) (nI (f 1)) (um_nv ph) (um_nv pr) (um_nv ps) (nI la) (nI (f 9)) (um_nv rd) (um_nv rh) (um_nv rr) (um_nv rs) (um_nv rg) (nI (f 0)) (um_nv oa) (um_nv od) (um_nv oi) (um_nv om) (um_nv op) (um_nv ou) kd (um_nv N) (nI i) = some (y, ld', lr', nI (f' 5), nI (f' 4), nI (f' 3), nI (f' 7), nI (f' 2), nI (f' 6), nI (f' 10), nI (f' 8), nI (f' 1), um_nv ph', um_nv pr', um_nv ps', nI la', nI (f' 9), um_nv rd', um_nv rh', um_nv rr', um_nv rs', um_nv rg', nI (f' 0), um_nv oa', um_nv od', um_nv oi', um_nv om', um_nv op', um_nv ou') ∧ ufX9_does d 0 w (um_nv f) (nI 104) (nI a) (nI b) (nI e) = some (z, d', fl, w', um_nv f') ∧ um_RS lr' ld' w' d' ∧ um_I f' (c + 1) ∧ um_D f' la' ph' pr' ps' rd' rh' rr' rs' rg' oa' od' oi' om' op' ou' ∧ um_E y z fl f f' := by
  obtain ⟨y, z, fl, lr', ld', w', d', f', la', ph', pr', ps', rd', rh', rr', rs', rg', oa', od', om', ou', e1, e2, hR', hI', hT', hE, keep⟩ := um_o_hour hI hT hc hR
  have k0 : f' 0 = f 0 := by apply keep <;> omega
  have k3 : f' 3 = f 3 := by apply keep <;> omega
  have k4 : f' 4 = f 4 := by apply keep <;> omega
  have k8 : f' 8 = f 8 := by apply keep <;> omega
  have i3 : nI i * (3 : Int32) = nI (3 * i) := by rw [show (3 : Int32) = nI 3 from rfl, pk_mul, Nat.mul_comm]
  have n0 : ufX3_numberAt (um_nv N) (nI i) 0 = some (nI (N (3 * i))) := by
    unfold ufX3_numberAt
    rw [i3, show (0 : Int32) = nI 0 from rfl, nI_add, Nat.add_zero, um_at (by omega) (by decide), um_b1]
  have n1 : ufX3_numberAt (um_nv N) (nI i) 1 = some (nI (N (3 * i + 1))) := by
    unfold ufX3_numberAt
    rw [i3, nI_1, um_at (by omega) (by decide), um_b1]
  refine ⟨y, z, fl, lr', ld', w', d', f', la', ph', pr', ps', rd', rh', rr', rs', rg', oa', od', oi, om', op, ou', ?_, ?_, hR', hI', hT', hE⟩
  · unfold ufX8_carryOut
    rw [n0, n1, um_b1, um_b1, um_atI hi (by decide), um_b1, hk, if_neg (show ¬ nI 104 = (99 : Int32) by decide), if_neg (show ¬ nI 104 = (100 : Int32) by decide), if_neg (show ¬ nI 104 = (101 : Int32) by decide), if_neg (show ¬ nI 104 = (102 : Int32) by decide), if_neg (show ¬ nI 104 = (103 : Int32) by decide), if_pos (show nI 104 = (104 : Int32) from rfl), e1, um_b23, k0, k3, k4, k8]
  · unfold ufX9_does
    rw [if_neg (show ¬ nI 104 = (99 : Int32) by decide), if_neg (show ¬ nI 104 = (100 : Int32) by decide), if_neg (show ¬ nI 104 = (101 : Int32) by decide), if_neg (show ¬ nI 104 = (102 : Int32) by decide), if_neg (show ¬ nI 104 = (103 : Int32) by decide), if_pos (show nI 104 = (104 : Int32) from rfl), e2, um_b5]
theorem um_k_n (hi : i < 60) (hk : kd i = nI 110) (har : um_ar N i 110 a b e) (hI : um_I f c) (hT : um_D f la ph pr ps rd rh rr rs rg oa od oi om op ou) (hc : c + 1 ≤ 2 ^ 20) (hR : um_RS lr ld w d) :
    ∃ (y z fl lr' ld' w' d' : Int32) (f' : Nat → Nat) (la' : Nat) (ph' pr' ps' rd' rh' rr' rs' rg' oa' od' oi' om' op' ou' : Nat → Nat), ufX8_carryOut ld lr (nI (f 5)) (nI (f 4)) (nI (f 3)) (nI (f 7)) (nI (f 2)) (nI (f 6)) (nI (f 10)) (nI (f 8)) (nI (f 1)) (um_nv ph) (um_nv pr) (um_nv ps) (nI la) (nI (f 9)) (um_nv rd) (um_nv rh) (um_nv rr) (um_nv rs) (um_nv rg) (nI (f 0)) (um_nv oa) (um_nv od) (um_nv oi) (um_nv om) (um_nv op) (um_nv ou) kd (um_nv N) (nI i) = some (y, ld', lr', nI (f' 5), nI (f' 4), nI (f' 3), nI (f' 7), nI (f' 2), nI (f' 6), nI (f' 10), nI (f' 8), nI (f' 1), um_nv ph', um_nv pr', um_nv ps', nI la', nI (f' 9), um_nv rd', um_nv rh', um_nv rr', um_nv rs', um_nv rg', nI (f' 0), um_nv oa', um_nv od', um_nv oi', um_nv om', um_nv op', um_nv ou') ∧ ufX9_does d 0 w (um_nv f) (nI 110) (nI a) (nI b) (nI e) = some (z, d', fl, w', um_nv f') ∧ um_RS lr' ld' w' d' ∧ um_I f' (c + 1) ∧ um_D f' la' ph' pr' ps' rd' rh' rr' rs' rg' oa' od' oi' om' op' ou' ∧ um_E y z fl f f' := by
  obtain ⟨y, z, fl, lr', ld', w', d', f', la', ph', pr', ps', rd', rh', rr', rs', rg', oa', od', om', ou', e1, e2, hR', hI', hT', hE, keep⟩ := um_o_ring hI hT hc hR
  have k0 : f' 0 = f 0 := by apply keep <;> omega
  have k3 : f' 3 = f 3 := by apply keep <;> omega
  have k4 : f' 4 = f 4 := by apply keep <;> omega
  have k8 : f' 8 = f 8 := by apply keep <;> omega
  have i3 : nI i * (3 : Int32) = nI (3 * i) := by rw [show (3 : Int32) = nI 3 from rfl, pk_mul, Nat.mul_comm]
  have n0 : ufX3_numberAt (um_nv N) (nI i) 0 = some (nI (N (3 * i))) := by
    unfold ufX3_numberAt
    rw [i3, show (0 : Int32) = nI 0 from rfl, nI_add, Nat.add_zero, um_at (by omega) (by decide), um_b1]
  have n1 : ufX3_numberAt (um_nv N) (nI i) 1 = some (nI (N (3 * i + 1))) := by
    unfold ufX3_numberAt
    rw [i3, nI_1, um_at (by omega) (by decide), um_b1]
  refine ⟨y, z, fl, lr', ld', w', d', f', la', ph', pr', ps', rd', rh', rr', rs', rg', oa', od', oi, om', op, ou', ?_, ?_, hR', hI', hT', hE⟩
  · unfold ufX8_carryOut
    rw [n0, n1, um_b1, um_b1, um_atI hi (by decide), um_b1, hk, if_neg (show ¬ nI 110 = (99 : Int32) by decide), if_neg (show ¬ nI 110 = (100 : Int32) by decide), if_neg (show ¬ nI 110 = (101 : Int32) by decide), if_neg (show ¬ nI 110 = (102 : Int32) by decide), if_neg (show ¬ nI 110 = (103 : Int32) by decide), if_neg (show ¬ nI 110 = (104 : Int32) by decide), if_neg (show ¬ nI 110 = (105 : Int32) by decide), if_neg (show ¬ nI 110 = (106 : Int32) by decide), if_neg (show ¬ nI 110 = (107 : Int32) by decide), if_neg (show ¬ nI 110 = (108 : Int32) by decide), if_neg (show ¬ nI 110 = (109 : Int32) by decide), if_pos (show nI 110 = (110 : Int32) from rfl), e1, um_b23, k0, k3, k4, k8]
  · unfold ufX9_does
    rw [if_neg (show ¬ nI 110 = (99 : Int32) by decide), if_neg (show ¬ nI 110 = (100 : Int32) by decide), if_neg (show ¬ nI 110 = (101 : Int32) by decide), if_neg (show ¬ nI 110 = (102 : Int32) by decide), if_neg (show ¬ nI 110 = (103 : Int32) by decide), if_neg (show ¬ nI 110 = (104 : Int32) by decide), if_neg (show ¬ nI 110 = (105 : Int32) by decide), if_neg (show ¬ nI 110 = (106 : Int32) by decide), if_neg (show ¬ nI 110 = (107 : Int32) by decide), if_neg (show ¬ nI 110 = (108 : Int32) by decide), if_neg (show ¬ nI 110 = (109 : Int32) by decide), if_pos (show nI 110 = (110 : Int32) from rfl), e2, um_b5]
theorem um_k_o (hi : i < 60) (hk : kd i = nI 111) (har : um_ar N i 111 a b e) (hI : um_I f c) (hT : um_D f la ph pr ps rd rh rr rs rg oa od oi om op ou) (hc : c + 1 ≤ 2 ^ 20) (hR : um_RS lr ld w d) :
    ∃ (y z fl lr' ld' w' d' : Int32) (f' : Nat → Nat) (la' : Nat) (ph' pr' ps' rd' rh' rr' rs' rg' oa' od' oi' om' op' ou' : Nat → Nat), ufX8_carryOut ld lr (nI (f 5)) (nI (f 4)) (nI (f 3)) (nI (f 7)) (nI (f 2)) (nI (f 6)) (nI (f 10)) (nI (f 8)) (nI (f 1)) (um_nv ph) (um_nv pr) (um_nv ps) (nI la) (nI (f 9)) (um_nv rd) (um_nv rh) (um_nv rr) (um_nv rs) (um_nv rg) (nI (f 0)) (um_nv oa) (um_nv od) (um_nv oi) (um_nv om) (um_nv op) (um_nv ou) kd (um_nv N) (nI i) = some (y, ld', lr', nI (f' 5), nI (f' 4), nI (f' 3), nI (f' 7), nI (f' 2), nI (f' 6), nI (f' 10), nI (f' 8), nI (f' 1), um_nv ph', um_nv pr', um_nv ps', nI la', nI (f' 9), um_nv rd', um_nv rh', um_nv rr', um_nv rs', um_nv rg', nI (f' 0), um_nv oa', um_nv od', um_nv oi', um_nv om', um_nv op', um_nv ou') ∧ ufX9_does d 0 w (um_nv f) (nI 111) (nI a) (nI b) (nI e) = some (z, d', fl, w', um_nv f') ∧ um_RS lr' ld' w' d' ∧ um_I f' (c + 1) ∧ um_D f' la' ph' pr' ps' rd' rh' rr' rs' rg' oa' od' oi' om' op' ou' ∧ um_E y z fl f f' := by
  obtain ⟨y, z, fl, lr', ld', w', d', f', ou', e1, e2, hR', hI', hT', hE, keep⟩ := um_o_oil (x := nI a) (m := nI b) hI hT hc hR
  have k0 : f' 0 = f 0 := by apply keep <;> omega
  have k1 : f' 1 = f 1 := by apply keep <;> omega
  have k2 : f' 2 = f 2 := by apply keep <;> omega
  have k3 : f' 3 = f 3 := by apply keep <;> omega
  have k4 : f' 4 = f 4 := by apply keep <;> omega
  have k5 : f' 5 = f 5 := by apply keep <;> omega
  have k6 : f' 6 = f 6 := by apply keep <;> omega
  have k7 : f' 7 = f 7 := by apply keep <;> omega
  have k8 : f' 8 = f 8 := by apply keep <;> omega
  have k9 : f' 9 = f 9 := by apply keep <;> omega
  have k10 : f' 10 = f 10 := by apply keep <;> omega
  have i3 : nI i * (3 : Int32) = nI (3 * i) := by rw [show (3 : Int32) = nI 3 from rfl, pk_mul, Nat.mul_comm]
  have n0 : ufX3_numberAt (um_nv N) (nI i) 0 = some (nI (N (3 * i))) := by
    unfold ufX3_numberAt
    rw [i3, show (0 : Int32) = nI 0 from rfl, nI_add, Nat.add_zero, um_at (by omega) (by decide), um_b1]
  have n1 : ufX3_numberAt (um_nv N) (nI i) 1 = some (nI (N (3 * i + 1))) := by
    unfold ufX3_numberAt
    rw [i3, nI_1, um_at (by omega) (by decide), um_b1]
  have g0 : N (3 * i) = a := har.1 (by decide)
  have g1 : N (3 * i + 1) = b := har.2.1 (by decide)
  refine ⟨y, z, fl, lr', ld', w', d', f', la, ph, pr, ps, rd, rh, rr, rs, rg, oa, od, oi, om, op, ou', ?_, ?_, hR', hI', hT', hE⟩
  · unfold ufX8_carryOut
    rw [n0, n1, um_b1, um_b1, um_atI hi (by decide), um_b1, hk, if_neg (show ¬ nI 111 = (99 : Int32) by decide), if_neg (show ¬ nI 111 = (100 : Int32) by decide), if_neg (show ¬ nI 111 = (101 : Int32) by decide), if_neg (show ¬ nI 111 = (102 : Int32) by decide), if_neg (show ¬ nI 111 = (103 : Int32) by decide), if_neg (show ¬ nI 111 = (104 : Int32) by decide), if_neg (show ¬ nI 111 = (105 : Int32) by decide), if_neg (show ¬ nI 111 = (106 : Int32) by decide), if_neg (show ¬ nI 111 = (107 : Int32) by decide), if_neg (show ¬ nI 111 = (108 : Int32) by decide), if_neg (show ¬ nI 111 = (109 : Int32) by decide), if_neg (show ¬ nI 111 = (110 : Int32) by decide), if_pos (show nI 111 = (111 : Int32) from rfl), g0, g1, e1, um_b4, k0, k1, k2, k3, k4, k5, k6, k7, k8, k9, k10]
  · unfold ufX9_does
    rw [if_neg (show ¬ nI 111 = (99 : Int32) by decide), if_neg (show ¬ nI 111 = (100 : Int32) by decide), if_neg (show ¬ nI 111 = (101 : Int32) by decide), if_neg (show ¬ nI 111 = (102 : Int32) by decide), if_neg (show ¬ nI 111 = (103 : Int32) by decide), if_neg (show ¬ nI 111 = (104 : Int32) by decide), if_neg (show ¬ nI 111 = (105 : Int32) by decide), if_neg (show ¬ nI 111 = (106 : Int32) by decide), if_neg (show ¬ nI 111 = (107 : Int32) by decide), if_neg (show ¬ nI 111 = (108 : Int32) by decide), if_neg (show ¬ nI 111 = (109 : Int32) by decide), if_neg (show ¬ nI 111 = (110 : Int32) by decide), if_pos (show nI 111 = (111 : Int32) from rfl), e2, um_b5]
theorem um_k_p (hi : i < 60) (hk : kd i = nI 112) (har : um_ar N i 112 a b e) (hI : um_I f c) (hT : um_D f la ph pr ps rd rh rr rs rg oa od oi om op ou) (hc : c + 1 ≤ 2 ^ 20) (hR : um_RS lr ld w d) :
    ∃ (y z fl lr' ld' w' d' : Int32) (f' : Nat → Nat) (la' : Nat) (ph' pr' ps' rd' rh' rr' rs' rg' oa' od' oi' om' op' ou' : Nat → Nat), ufX8_carryOut ld lr (nI (f 5)) (nI (f 4)) (nI (f 3)) (nI (f 7)) (nI (f 2)) (nI (f 6)) (nI (f 10)) (nI (f 8)) (nI (f 1)) (um_nv ph) (um_nv pr) (um_nv ps) (nI la) (nI (f 9)) (um_nv rd) (um_nv rh) (um_nv rr) (um_nv rs) (um_nv rg) (nI (f 0)) (um_nv oa) (um_nv od) (um_nv oi) (um_nv om) (um_nv op) (um_nv ou) kd (um_nv N) (nI i) = some (y, ld', lr', nI (f' 5), nI (f' 4), nI (f' 3), nI (f' 7), nI (f' 2), nI (f' 6), nI (f' 10), nI (f' 8), nI (f' 1), um_nv ph', um_nv pr', um_nv ps', nI la', nI (f' 9), um_nv rd', um_nv rh', um_nv rr', um_nv rs', um_nv rg', nI (f' 0), um_nv oa', um_nv od', um_nv oi', um_nv om', um_nv op', um_nv ou') ∧ ufX9_does d 0 w (um_nv f) (nI 112) (nI a) (nI b) (nI e) = some (z, d', fl, w', um_nv f') ∧ um_RS lr' ld' w' d' ∧ um_I f' (c + 1) ∧ um_D f' la' ph' pr' ps' rd' rh' rr' rs' rg' oa' od' oi' om' op' ou' ∧ um_E y z fl f f' := by
  obtain ⟨y, z, fl, lr', ld', w', d', f', ph', pr', ps', e1, e2, hR', hI', hT', hE, keep⟩ := um_o_pull (x := nI a) (h := nI b) (s := nI e) hI hT hc hR
  have k0 : f' 0 = f 0 := by apply keep <;> omega
  have k2 : f' 2 = f 2 := by apply keep <;> omega
  have k3 : f' 3 = f 3 := by apply keep <;> omega
  have k5 : f' 5 = f 5 := by apply keep <;> omega
  have k6 : f' 6 = f 6 := by apply keep <;> omega
  have k7 : f' 7 = f 7 := by apply keep <;> omega
  have k8 : f' 8 = f 8 := by apply keep <;> omega
  have k9 : f' 9 = f 9 := by apply keep <;> omega
  have k10 : f' 10 = f 10 := by apply keep <;> omega
  have i3 : nI i * (3 : Int32) = nI (3 * i) := by rw [show (3 : Int32) = nI 3 from rfl, pk_mul, Nat.mul_comm]
  have n0 : ufX3_numberAt (um_nv N) (nI i) 0 = some (nI (N (3 * i))) := by
    unfold ufX3_numberAt
    rw [i3, show (0 : Int32) = nI 0 from rfl, nI_add, Nat.add_zero, um_at (by omega) (by decide), um_b1]
  have n1 : ufX3_numberAt (um_nv N) (nI i) 1 = some (nI (N (3 * i + 1))) := by
    unfold ufX3_numberAt
    rw [i3, nI_1, um_at (by omega) (by decide), um_b1]
  have n2 : ufX3_numberAt (um_nv N) (nI i) 2 = some (nI (N (3 * i + 2))) := by
    unfold ufX3_numberAt
    rw [i3, show (2 : Int32) = nI 2 from rfl, nI_add, um_at (by omega) (by decide), um_b1]
  have g0 : N (3 * i) = a := har.1 (by decide)
  have g1 : N (3 * i + 1) = b := har.2.1 (by decide)
  have g2 : N (3 * i + 2) = e := har.2.2 rfl
  refine ⟨y, z, fl, lr', ld', w', d', f', la, ph', pr', ps', rd, rh, rr, rs, rg, oa, od, oi, om, op, ou, ?_, ?_, hR', hI', hT', hE⟩
  · unfold ufX8_carryOut
    rw [n0, n1, um_b1, um_b1, um_atI hi (by decide), um_b1, hk, if_neg (show ¬ nI 112 = (99 : Int32) by decide), if_neg (show ¬ nI 112 = (100 : Int32) by decide), if_neg (show ¬ nI 112 = (101 : Int32) by decide), if_neg (show ¬ nI 112 = (102 : Int32) by decide), if_neg (show ¬ nI 112 = (103 : Int32) by decide), if_neg (show ¬ nI 112 = (104 : Int32) by decide), if_neg (show ¬ nI 112 = (105 : Int32) by decide), if_neg (show ¬ nI 112 = (106 : Int32) by decide), if_neg (show ¬ nI 112 = (107 : Int32) by decide), if_neg (show ¬ nI 112 = (108 : Int32) by decide), if_neg (show ¬ nI 112 = (109 : Int32) by decide), if_neg (show ¬ nI 112 = (110 : Int32) by decide), if_neg (show ¬ nI 112 = (111 : Int32) by decide), if_pos (show nI 112 = (112 : Int32) from rfl), n2, um_b1, g0, g1, g2, e1, um_b8, k0, k2, k3, k5, k6, k7, k8, k9, k10]
  · unfold ufX9_does
    rw [if_neg (show ¬ nI 112 = (99 : Int32) by decide), if_neg (show ¬ nI 112 = (100 : Int32) by decide), if_neg (show ¬ nI 112 = (101 : Int32) by decide), if_neg (show ¬ nI 112 = (102 : Int32) by decide), if_neg (show ¬ nI 112 = (103 : Int32) by decide), if_neg (show ¬ nI 112 = (104 : Int32) by decide), if_neg (show ¬ nI 112 = (105 : Int32) by decide), if_neg (show ¬ nI 112 = (106 : Int32) by decide), if_neg (show ¬ nI 112 = (107 : Int32) by decide), if_neg (show ¬ nI 112 = (108 : Int32) by decide), if_neg (show ¬ nI 112 = (109 : Int32) by decide), if_neg (show ¬ nI 112 = (110 : Int32) by decide), if_neg (show ¬ nI 112 = (111 : Int32) by decide), if_pos (show nI 112 = (112 : Int32) from rfl), e2, um_b5]
theorem um_k_r (hi : i < 60) (hk : kd i = nI 114) (har : um_ar N i 114 a b e) (hI : um_I f c) (hT : um_D f la ph pr ps rd rh rr rs rg oa od oi om op ou) (hc : c + 1 ≤ 2 ^ 20) (hR : um_RS lr ld w d) :
    ∃ (y z fl lr' ld' w' d' : Int32) (f' : Nat → Nat) (la' : Nat) (ph' pr' ps' rd' rh' rr' rs' rg' oa' od' oi' om' op' ou' : Nat → Nat), ufX8_carryOut ld lr (nI (f 5)) (nI (f 4)) (nI (f 3)) (nI (f 7)) (nI (f 2)) (nI (f 6)) (nI (f 10)) (nI (f 8)) (nI (f 1)) (um_nv ph) (um_nv pr) (um_nv ps) (nI la) (nI (f 9)) (um_nv rd) (um_nv rh) (um_nv rr) (um_nv rs) (um_nv rg) (nI (f 0)) (um_nv oa) (um_nv od) (um_nv oi) (um_nv om) (um_nv op) (um_nv ou) kd (um_nv N) (nI i) = some (y, ld', lr', nI (f' 5), nI (f' 4), nI (f' 3), nI (f' 7), nI (f' 2), nI (f' 6), nI (f' 10), nI (f' 8), nI (f' 1), um_nv ph', um_nv pr', um_nv ps', nI la', nI (f' 9), um_nv rd', um_nv rh', um_nv rr', um_nv rs', um_nv rg', nI (f' 0), um_nv oa', um_nv od', um_nv oi', um_nv om', um_nv op', um_nv ou') ∧ ufX9_does d 0 w (um_nv f) (nI 114) (nI a) (nI b) (nI e) = some (z, d', fl, w', um_nv f') ∧ um_RS lr' ld' w' d' ∧ um_I f' (c + 1) ∧ um_D f' la' ph' pr' ps' rd' rh' rr' rs' rg' oa' od' oi' om' op' ou' ∧ um_E y z fl f f' := by
  obtain ⟨y, z, fl, lr', ld', w', d', f', oi', op', e1, e2, hR', hI', hT', hE, keep⟩ := um_o_rope (x := nI a) hI hT hc hR
  have k1 : f' 1 = f 1 := by apply keep <;> omega
  have k2 : f' 2 = f 2 := by apply keep <;> omega
  have k3 : f' 3 = f 3 := by apply keep <;> omega
  have k4 : f' 4 = f 4 := by apply keep <;> omega
  have k5 : f' 5 = f 5 := by apply keep <;> omega
  have k6 : f' 6 = f 6 := by apply keep <;> omega
  have k7 : f' 7 = f 7 := by apply keep <;> omega
  have k8 : f' 8 = f 8 := by apply keep <;> omega
  have k9 : f' 9 = f 9 := by apply keep <;> omega
  have k10 : f' 10 = f 10 := by apply keep <;> omega
  have i3 : nI i * (3 : Int32) = nI (3 * i) := by rw [show (3 : Int32) = nI 3 from rfl, pk_mul, Nat.mul_comm]
  have n0 : ufX3_numberAt (um_nv N) (nI i) 0 = some (nI (N (3 * i))) := by
    unfold ufX3_numberAt
    rw [i3, show (0 : Int32) = nI 0 from rfl, nI_add, Nat.add_zero, um_at (by omega) (by decide), um_b1]
  have n1 : ufX3_numberAt (um_nv N) (nI i) 1 = some (nI (N (3 * i + 1))) := by
    unfold ufX3_numberAt
    rw [i3, nI_1, um_at (by omega) (by decide), um_b1]
  have g0 : N (3 * i) = a := har.1 (by decide)
  refine ⟨y, z, fl, lr', ld', w', d', f', la, ph, pr, ps, rd, rh, rr, rs, rg, oa, od, oi', om, op', ou, ?_, ?_, hR', hI', hT', hE⟩
  · unfold ufX8_carryOut
    rw [n0, n1, um_b1, um_b1, um_atI hi (by decide), um_b1, hk, if_neg (show ¬ nI 114 = (99 : Int32) by decide), if_neg (show ¬ nI 114 = (100 : Int32) by decide), if_neg (show ¬ nI 114 = (101 : Int32) by decide), if_neg (show ¬ nI 114 = (102 : Int32) by decide), if_neg (show ¬ nI 114 = (103 : Int32) by decide), if_neg (show ¬ nI 114 = (104 : Int32) by decide), if_neg (show ¬ nI 114 = (105 : Int32) by decide), if_neg (show ¬ nI 114 = (106 : Int32) by decide), if_neg (show ¬ nI 114 = (107 : Int32) by decide), if_neg (show ¬ nI 114 = (108 : Int32) by decide), if_neg (show ¬ nI 114 = (109 : Int32) by decide), if_neg (show ¬ nI 114 = (110 : Int32) by decide), if_neg (show ¬ nI 114 = (111 : Int32) by decide), if_neg (show ¬ nI 114 = (112 : Int32) by decide), if_neg (show ¬ nI 114 = (113 : Int32) by decide), if_pos (show nI 114 = (114 : Int32) from rfl), g0, e1, um_b6, k1, k2, k3, k4, k5, k6, k7, k8, k9, k10]
  · unfold ufX9_does
    rw [if_neg (show ¬ nI 114 = (99 : Int32) by decide), if_neg (show ¬ nI 114 = (100 : Int32) by decide), if_neg (show ¬ nI 114 = (101 : Int32) by decide), if_neg (show ¬ nI 114 = (102 : Int32) by decide), if_neg (show ¬ nI 114 = (103 : Int32) by decide), if_neg (show ¬ nI 114 = (104 : Int32) by decide), if_neg (show ¬ nI 114 = (105 : Int32) by decide), if_neg (show ¬ nI 114 = (106 : Int32) by decide), if_neg (show ¬ nI 114 = (107 : Int32) by decide), if_neg (show ¬ nI 114 = (108 : Int32) by decide), if_neg (show ¬ nI 114 = (109 : Int32) by decide), if_neg (show ¬ nI 114 = (110 : Int32) by decide), if_neg (show ¬ nI 114 = (111 : Int32) by decide), if_neg (show ¬ nI 114 = (112 : Int32) by decide), if_neg (show ¬ nI 114 = (113 : Int32) by decide), if_pos (show nI 114 = (114 : Int32) from rfl), e2, um_b5]
theorem um_k_s (hi : i < 60) (hk : kd i = nI 115) (har : um_ar N i 115 a b e) (hI : um_I f c) (hT : um_D f la ph pr ps rd rh rr rs rg oa od oi om op ou) (hc : c + 1 ≤ 2 ^ 20) (hR : um_RS lr ld w d) :
    ∃ (y z fl lr' ld' w' d' : Int32) (f' : Nat → Nat) (la' : Nat) (ph' pr' ps' rd' rh' rr' rs' rg' oa' od' oi' om' op' ou' : Nat → Nat), ufX8_carryOut ld lr (nI (f 5)) (nI (f 4)) (nI (f 3)) (nI (f 7)) (nI (f 2)) (nI (f 6)) (nI (f 10)) (nI (f 8)) (nI (f 1)) (um_nv ph) (um_nv pr) (um_nv ps) (nI la) (nI (f 9)) (um_nv rd) (um_nv rh) (um_nv rr) (um_nv rs) (um_nv rg) (nI (f 0)) (um_nv oa) (um_nv od) (um_nv oi) (um_nv om) (um_nv op) (um_nv ou) kd (um_nv N) (nI i) = some (y, ld', lr', nI (f' 5), nI (f' 4), nI (f' 3), nI (f' 7), nI (f' 2), nI (f' 6), nI (f' 10), nI (f' 8), nI (f' 1), um_nv ph', um_nv pr', um_nv ps', nI la', nI (f' 9), um_nv rd', um_nv rh', um_nv rr', um_nv rs', um_nv rg', nI (f' 0), um_nv oa', um_nv od', um_nv oi', um_nv om', um_nv op', um_nv ou') ∧ ufX9_does d 0 w (um_nv f) (nI 115) (nI a) (nI b) (nI e) = some (z, d', fl, w', um_nv f') ∧ um_RS lr' ld' w' d' ∧ um_I f' (c + 1) ∧ um_D f' la' ph' pr' ps' rd' rh' rr' rs' rg' oa' od' oi' om' op' ou' ∧ um_E y z fl f f' := by
  obtain ⟨y, z, fl, lr', ld', w', d', f', oi', e1, e2, hR', hI', hT', hE, keep⟩ := um_o_sensor (x := nI a) (b := nI b) hI hT hc hR
  have k0 : f' 0 = f 0 := by apply keep <;> omega
  have k1 : f' 1 = f 1 := by apply keep <;> omega
  have k2 : f' 2 = f 2 := by apply keep <;> omega
  have k3 : f' 3 = f 3 := by apply keep <;> omega
  have k4 : f' 4 = f 4 := by apply keep <;> omega
  have k5 : f' 5 = f 5 := by apply keep <;> omega
  have k6 : f' 6 = f 6 := by apply keep <;> omega
  have k7 : f' 7 = f 7 := by apply keep <;> omega
  have k8 : f' 8 = f 8 := by apply keep <;> omega
  have k9 : f' 9 = f 9 := by apply keep <;> omega
  have k10 : f' 10 = f 10 := by apply keep <;> omega
  have i3 : nI i * (3 : Int32) = nI (3 * i) := by rw [show (3 : Int32) = nI 3 from rfl, pk_mul, Nat.mul_comm]
  have n0 : ufX3_numberAt (um_nv N) (nI i) 0 = some (nI (N (3 * i))) := by
    unfold ufX3_numberAt
    rw [i3, show (0 : Int32) = nI 0 from rfl, nI_add, Nat.add_zero, um_at (by omega) (by decide), um_b1]
  have n1 : ufX3_numberAt (um_nv N) (nI i) 1 = some (nI (N (3 * i + 1))) := by
    unfold ufX3_numberAt
    rw [i3, nI_1, um_at (by omega) (by decide), um_b1]
  have g0 : N (3 * i) = a := har.1 (by decide)
  have g1 : N (3 * i + 1) = b := har.2.1 (by decide)
  refine ⟨y, z, fl, lr', ld', w', d', f', la, ph, pr, ps, rd, rh, rr, rs, rg, oa, od, oi', om, op, ou, ?_, ?_, hR', hI', hT', hE⟩
  · unfold ufX8_carryOut
    rw [n0, n1, um_b1, um_b1, um_atI hi (by decide), um_b1, hk, if_neg (show ¬ nI 115 = (99 : Int32) by decide), if_neg (show ¬ nI 115 = (100 : Int32) by decide), if_neg (show ¬ nI 115 = (101 : Int32) by decide), if_neg (show ¬ nI 115 = (102 : Int32) by decide), if_neg (show ¬ nI 115 = (103 : Int32) by decide), if_neg (show ¬ nI 115 = (104 : Int32) by decide), if_neg (show ¬ nI 115 = (105 : Int32) by decide), if_neg (show ¬ nI 115 = (106 : Int32) by decide), if_neg (show ¬ nI 115 = (107 : Int32) by decide), if_neg (show ¬ nI 115 = (108 : Int32) by decide), if_neg (show ¬ nI 115 = (109 : Int32) by decide), if_neg (show ¬ nI 115 = (110 : Int32) by decide), if_neg (show ¬ nI 115 = (111 : Int32) by decide), if_neg (show ¬ nI 115 = (112 : Int32) by decide), if_neg (show ¬ nI 115 = (113 : Int32) by decide), if_neg (show ¬ nI 115 = (114 : Int32) by decide), if_pos (show nI 115 = (115 : Int32) from rfl), g0, g1, e1, um_b4, k0, k1, k2, k3, k4, k5, k6, k7, k8, k9, k10]
  · unfold ufX9_does
    rw [if_neg (show ¬ nI 115 = (99 : Int32) by decide), if_neg (show ¬ nI 115 = (100 : Int32) by decide), if_neg (show ¬ nI 115 = (101 : Int32) by decide), if_neg (show ¬ nI 115 = (102 : Int32) by decide), if_neg (show ¬ nI 115 = (103 : Int32) by decide), if_neg (show ¬ nI 115 = (104 : Int32) by decide), if_neg (show ¬ nI 115 = (105 : Int32) by decide), if_neg (show ¬ nI 115 = (106 : Int32) by decide), if_neg (show ¬ nI 115 = (107 : Int32) by decide), if_neg (show ¬ nI 115 = (108 : Int32) by decide), if_neg (show ¬ nI 115 = (109 : Int32) by decide), if_neg (show ¬ nI 115 = (110 : Int32) by decide), if_neg (show ¬ nI 115 = (111 : Int32) by decide), if_neg (show ¬ nI 115 = (112 : Int32) by decide), if_neg (show ¬ nI 115 = (113 : Int32) by decide), if_neg (show ¬ nI 115 = (114 : Int32) by decide), if_pos (show nI 115 = (115 : Int32) from rfl), e2, um_b5]
theorem um_k_v (hi : i < 60) (hk : kd i = nI 118) (har : um_ar N i 118 a b e) (hI : um_I f c) (hT : um_D f la ph pr ps rd rh rr rs rg oa od oi om op ou) (hc : c + 1 ≤ 2 ^ 20) (hR : um_RS lr ld w d) :
    ∃ (y z fl lr' ld' w' d' : Int32) (f' : Nat → Nat) (la' : Nat) (ph' pr' ps' rd' rh' rr' rs' rg' oa' od' oi' om' op' ou' : Nat → Nat), ufX8_carryOut ld lr (nI (f 5)) (nI (f 4)) (nI (f 3)) (nI (f 7)) (nI (f 2)) (nI (f 6)) (nI (f 10)) (nI (f 8)) (nI (f 1)) (um_nv ph) (um_nv pr) (um_nv ps) (nI la) (nI (f 9)) (um_nv rd) (um_nv rh) (um_nv rr) (um_nv rs) (um_nv rg) (nI (f 0)) (um_nv oa) (um_nv od) (um_nv oi) (um_nv om) (um_nv op) (um_nv ou) kd (um_nv N) (nI i) = some (y, ld', lr', nI (f' 5), nI (f' 4), nI (f' 3), nI (f' 7), nI (f' 2), nI (f' 6), nI (f' 10), nI (f' 8), nI (f' 1), um_nv ph', um_nv pr', um_nv ps', nI la', nI (f' 9), um_nv rd', um_nv rh', um_nv rr', um_nv rs', um_nv rg', nI (f' 0), um_nv oa', um_nv od', um_nv oi', um_nv om', um_nv op', um_nv ou') ∧ ufX9_does d 0 w (um_nv f) (nI 118) (nI a) (nI b) (nI e) = some (z, d', fl, w', um_nv f') ∧ um_RS lr' ld' w' d' ∧ um_I f' (c + 1) ∧ um_D f' la' ph' pr' ps' rd' rh' rr' rs' rg' oa' od' oi' om' op' ou' ∧ um_E y z fl f f' := by
  obtain ⟨y, z, fl, lr', ld', w', d', f', op', e1, e2, hR', hI', hT', hE, keep⟩ := um_o_move (x := nI a) (p := nI b) hI hT hc hR
  have k0 : f' 0 = f 0 := by apply keep <;> omega
  have k1 : f' 1 = f 1 := by apply keep <;> omega
  have k2 : f' 2 = f 2 := by apply keep <;> omega
  have k3 : f' 3 = f 3 := by apply keep <;> omega
  have k4 : f' 4 = f 4 := by apply keep <;> omega
  have k5 : f' 5 = f 5 := by apply keep <;> omega
  have k6 : f' 6 = f 6 := by apply keep <;> omega
  have k7 : f' 7 = f 7 := by apply keep <;> omega
  have k8 : f' 8 = f 8 := by apply keep <;> omega
  have k9 : f' 9 = f 9 := by apply keep <;> omega
  have k10 : f' 10 = f 10 := by apply keep <;> omega
  have i3 : nI i * (3 : Int32) = nI (3 * i) := by rw [show (3 : Int32) = nI 3 from rfl, pk_mul, Nat.mul_comm]
  have n0 : ufX3_numberAt (um_nv N) (nI i) 0 = some (nI (N (3 * i))) := by
    unfold ufX3_numberAt
    rw [i3, show (0 : Int32) = nI 0 from rfl, nI_add, Nat.add_zero, um_at (by omega) (by decide), um_b1]
  have n1 : ufX3_numberAt (um_nv N) (nI i) 1 = some (nI (N (3 * i + 1))) := by
    unfold ufX3_numberAt
    rw [i3, nI_1, um_at (by omega) (by decide), um_b1]
  have g0 : N (3 * i) = a := har.1 (by decide)
  have g1 : N (3 * i + 1) = b := har.2.1 (by decide)
  refine ⟨y, z, fl, lr', ld', w', d', f', la, ph, pr, ps, rd, rh, rr, rs, rg, oa, od, oi, om, op', ou, ?_, ?_, hR', hI', hT', hE⟩
  · unfold ufX8_carryOut
    rw [n0, n1, um_b1, um_b1, um_atI hi (by decide), um_b1, hk, if_neg (show ¬ nI 118 = (99 : Int32) by decide), if_neg (show ¬ nI 118 = (100 : Int32) by decide), if_neg (show ¬ nI 118 = (101 : Int32) by decide), if_neg (show ¬ nI 118 = (102 : Int32) by decide), if_neg (show ¬ nI 118 = (103 : Int32) by decide), if_neg (show ¬ nI 118 = (104 : Int32) by decide), if_neg (show ¬ nI 118 = (105 : Int32) by decide), if_neg (show ¬ nI 118 = (106 : Int32) by decide), if_neg (show ¬ nI 118 = (107 : Int32) by decide), if_neg (show ¬ nI 118 = (108 : Int32) by decide), if_neg (show ¬ nI 118 = (109 : Int32) by decide), if_neg (show ¬ nI 118 = (110 : Int32) by decide), if_neg (show ¬ nI 118 = (111 : Int32) by decide), if_neg (show ¬ nI 118 = (112 : Int32) by decide), if_neg (show ¬ nI 118 = (113 : Int32) by decide), if_neg (show ¬ nI 118 = (114 : Int32) by decide), if_neg (show ¬ nI 118 = (115 : Int32) by decide), if_neg (show ¬ nI 118 = (116 : Int32) by decide), if_neg (show ¬ nI 118 = (117 : Int32) by decide), if_pos (show nI 118 = (118 : Int32) from rfl), g0, g1, e1, um_b4, k0, k1, k2, k3, k4, k5, k6, k7, k8, k9, k10]
  · unfold ufX9_does
    rw [if_neg (show ¬ nI 118 = (99 : Int32) by decide), if_neg (show ¬ nI 118 = (100 : Int32) by decide), if_neg (show ¬ nI 118 = (101 : Int32) by decide), if_neg (show ¬ nI 118 = (102 : Int32) by decide), if_neg (show ¬ nI 118 = (103 : Int32) by decide), if_neg (show ¬ nI 118 = (104 : Int32) by decide), if_neg (show ¬ nI 118 = (105 : Int32) by decide), if_neg (show ¬ nI 118 = (106 : Int32) by decide), if_neg (show ¬ nI 118 = (107 : Int32) by decide), if_neg (show ¬ nI 118 = (108 : Int32) by decide), if_neg (show ¬ nI 118 = (109 : Int32) by decide), if_neg (show ¬ nI 118 = (110 : Int32) by decide), if_neg (show ¬ nI 118 = (111 : Int32) by decide), if_neg (show ¬ nI 118 = (112 : Int32) by decide), if_neg (show ¬ nI 118 = (113 : Int32) by decide), if_neg (show ¬ nI 118 = (114 : Int32) by decide), if_neg (show ¬ nI 118 = (115 : Int32) by decide), if_neg (show ¬ nI 118 = (116 : Int32) by decide), if_neg (show ¬ nI 118 = (117 : Int32) by decide), if_pos (show nI 118 = (118 : Int32) from rfl), e2, um_b5]
theorem um_k_all {x : Nat} (hx : um_kn x) (hi : i < 60) (hk : kd i = nI x) (har : um_ar N i x a b e) (hI : um_I f c) (hT : um_D f la ph pr ps rd rh rr rs rg oa od oi om op ou) (hc : c + 1 ≤ 2 ^ 20) (hR : um_RS lr ld w d) :
    ∃ (y z fl lr' ld' w' d' : Int32) (f' : Nat → Nat) (la' : Nat) (ph' pr' ps' rd' rh' rr' rs' rg' oa' od' oi' om' op' ou' : Nat → Nat), ufX8_carryOut ld lr (nI (f 5)) (nI (f 4)) (nI (f 3)) (nI (f 7)) (nI (f 2)) (nI (f 6)) (nI (f 10)) (nI (f 8)) (nI (f 1)) (um_nv ph) (um_nv pr) (um_nv ps) (nI la) (nI (f 9)) (um_nv rd) (um_nv rh) (um_nv rr) (um_nv rs) (um_nv rg) (nI (f 0)) (um_nv oa) (um_nv od) (um_nv oi) (um_nv om) (um_nv op) (um_nv ou) kd (um_nv N) (nI i) = some (y, ld', lr', nI (f' 5), nI (f' 4), nI (f' 3), nI (f' 7), nI (f' 2), nI (f' 6), nI (f' 10), nI (f' 8), nI (f' 1), um_nv ph', um_nv pr', um_nv ps', nI la', nI (f' 9), um_nv rd', um_nv rh', um_nv rr', um_nv rs', um_nv rg', nI (f' 0), um_nv oa', um_nv od', um_nv oi', um_nv om', um_nv op', um_nv ou') ∧ ufX9_does d 0 w (um_nv f) (nI x) (nI a) (nI b) (nI e) = some (z, d', fl, w', um_nv f') ∧ um_RS lr' ld' w' d' ∧ um_I f' (c + 1) ∧ um_D f' la' ph' pr' ps' rd' rh' rr' rs' rg' oa' od' oi' om' op' ou' ∧ um_E y z fl f f' := by
  unfold um_kn at hx
  rcases hx with rfl | rfl | rfl | rfl | rfl | rfl | rfl | rfl | rfl
  · exact um_k_r hi hk har hI hT hc hR
  · exact um_k_v hi hk har hI hT hc hR
  · exact um_k_s hi hk har hI hT hc hR
  · exact um_k_p hi hk har hI hT hc hR
  · exact um_k_c hi hk har hI hT hc hR
  · exact um_k_n hi hk har hI hT hc hR
  · exact um_k_h hi hk har hI hT hc hR
  · exact um_k_o hi hk har hI hT hc hR
  · exact um_k_e hi hk har hI hT hc hR
end UM46
