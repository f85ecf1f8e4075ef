/-! ===== the changes one by one: the class and the reference do alike ===== -/
/-- the latest reason on either side -/
def um_RS (lr ld w d : Int32) : Prop := (w = 0 ∧ lr = -1015 ∧ ld = -1015) ∨ (w ≠ 0 ∧ lr = w ∧ ld = d)
theorem um_RS_put {w d : Int32} (h : w ≠ 0) : um_RS w d w d := Or.inr ⟨h, rfl, rfl⟩
/-- how a change ends: y what the class answers, z what the reference's inner call answers, fl its code -/
def um_E (y z fl : Int32) (f f' : Nat → Nat) : Prop := (fl = 0 ∧ z = y ∧ ¬ y < 0) ∨ (fl = y ∧ y < 0 ∧ f' = f)
theorem um_neg1011 : (-1011 : Int32) < 0 := by decide
theorem um_neg1012 : (-1012 : Int32) < 0 := by decide
theorem um_neg1014 : (-1014 : Int32) < 0 := by decide
theorem um_I_one {f g : Nat → Nat} {c r : Nat} (hI : um_I f c) (hr : r < f 0) (h : ∀ q, q ≠ 11 + 6 * r → q ≠ 12 + 6 * r → q ≠ 13 + 6 * r → g q = f q) (h1 : g (11 + 6 * r) < 4) (h2 : g (12 + 6 * r) ≤ 1) (h3 : g (13 + 6 * r) ≤ 9) : um_I g c := by
  obtain ⟨q0, q1, q2, q3, q4, q5, q6, q7, q8, q9, q10, q11, q12, q13, q14, q15⟩ := hI
  have A : ∀ q, (q < 11 ∨ 83 ≤ q) → g q = f q := fun q hq => h q (by omega) (by omega) (by omega)
  have a0 := A 0 (by omega)
  have a1 := A 1 (by omega)
  have a2 := A 2 (by omega)
  have a3 := A 3 (by omega)
  have a4 := A 4 (by omega)
  have a5 := A 5 (by omega)
  have a6 := A 6 (by omega)
  have a7 := A 7 (by omega)
  have a8 := A 8 (by omega)
  have a9 := A 9 (by omega)
  have a10 := A 10 (by omega)
  refine ⟨q0, by omega, by omega, by omega, by omega, by omega, by omega, by omega, by omega, fun r' hr' => ?_, fun r' hr' hr'' => ?_, ?_, ?_, ?_, fun k hk => ?_, fun t ht => ?_⟩
  · by_cases e : r' = r
    · rw [e]
      exact ⟨h1, h2, h3⟩
    · rw [h (11 + 6 * r') (by omega) (by omega) (by omega), h (12 + 6 * r') (by omega) (by omega) (by omega), h (13 + 6 * r') (by omega) (by omega) (by omega)]
      exact q9 r' hr'
  · rw [h (11 + 6 * r') (by omega) (by omega) (by omega), h (12 + 6 * r') (by omega) (by omega) (by omega), h (13 + 6 * r') (by omega) (by omega) (by omega), h (14 + 6 * r') (by omega) (by omega) (by omega), h (15 + 6 * r') (by omega) (by omega) (by omega), h (16 + 6 * r') (by omega) (by omega) (by omega)]
    exact q10 r' (by omega) hr''
  · rw [a5, ← q11]
    exact um_sum_congr (fun i hi => h _ (by omega) (by omega) (by omega))
  · rw [a6, ← q12]
    exact um_sum_congr (fun i hi => h _ (by omega) (by omega) (by omega))
  · rw [a7, ← q13]
    exact um_sum_congr (fun i hi => h _ (by omega) (by omega) (by omega))
  · rw [a0, A (83 + 3 * k) (by omega), A (84 + 3 * k) (by omega), A (85 + 3 * k) (by omega)]
    exact q14 k (by omega)
  · rw [a0, A (211 + t) (by omega)]
    exact q15 t ht
theorem um_I_up {f : Nat → Nat} {c d : Nat} (hcd : c ≤ d) (hd : d ≤ 2 ^ 20) (hI : um_I f c) : um_I f d := um_I_congr (fun _ _ => rfl) hcd hd hI
/-- the tower's other rows stand -/
theorem um_D_keep {f g : Nat → Nat} {la : Nat} {ph pr ps rd rh rr rs rg oa od oi om op ou oa' od' oi' om' op' ou' : Nat → Nat} (hT : um_D f la ph pr ps rd rh rr rs rg oa od oi om op ou) (h1 : f 1 ≤ 16) (h9 : f 9 ≤ 20) (h : ∀ q, (q = 1 ∨ q = 9 ∨ 83 ≤ q) → g q = f q) (hR : um_RP g oa' od' oi' om' op' ou') : um_D g la ph pr ps rd rh rr rs rg oa' od' oi' om' op' ou' := by
  obtain ⟨hPL, hAN, hHD, hRP⟩ := hT
  have a1 := h 1 (by omega)
  have a9 := h 9 (by omega)
  refine ⟨fun k hk => ?_, ⟨hAN.1, fun k hk => ?_⟩, fun t ht => ?_, hR⟩
  · rw [h (83 + 3 * k) (by omega), h (84 + 3 * k) (by omega), h (85 + 3 * k) (by omega)]
    exact hPL k (by omega)
  · rw [h (131 + 4 * k) (by omega), h (132 + 4 * k) (by omega), h (133 + 4 * k) (by omega), h (134 + 4 * k) (by omega)]
    exact hAN.2 k (by omega)
  · rw [h (211 + t) (by omega)]
    exact hHD t ht
/-! ===== what the operations do, in full ===== -/
def uq_ropeF (f : Nat → Nat) (p : Nat) : Nat → Nat := um_up (um_up (um_up f (11 + 6 * f 0) p) (12 + 6 * f 0) 1) 0 (f 0 + 1)
def uq_rope (f f' : Nat → Nat) (x y : Int32) : Prop := (um_in x 4 = false ∧ y = -1012 ∧ f' = f) ∨ ∃ p, p < 4 ∧ x = nI p ∧ ((f 0 = 12 ∧ y = -1014 ∧ f' = f) ∨ (¬ f 0 = 12 ∧ y = nI (f 0) ∧ f' = uq_ropeF f p))
def uq_move (f f' : Nat → Nat) (x p y : Int32) : Prop := (um_in x (f 0) = false ∧ y = -1011 ∧ f' = f) ∨ ∃ r, r < f 0 ∧ x = nI r ∧ ((um_in p 4 = false ∧ y = -1012 ∧ f' = f) ∨ ∃ k, k < 4 ∧ p = nI k ∧ ((f (11 + 6 * r) = k ∧ y = -1014 ∧ f' = f) ∨ (¬ f (11 + 6 * r) = k ∧ y = nI (f (11 + 6 * r)) ∧ f' = um_up f (11 + 6 * r) k)))
def uq_sensor (f f' : Nat → Nat) (x b y : Int32) : Prop := (um_in x (f 0) = false ∧ y = -1011 ∧ f' = f) ∨ ∃ r, r < f 0 ∧ x = nI r ∧ ((um_in b 2 = false ∧ y = -1012 ∧ f' = f) ∨ ∃ k, k < 2 ∧ b = nI k ∧ ((f (12 + 6 * r) = k ∧ y = -1014 ∧ f' = f) ∨ (¬ f (12 + 6 * r) = k ∧ y = nI (um_sum (fun r' => um_up f (12 + 6 * r) k (12 + 6 * r')) (f 0)) ∧ f' = um_up f (12 + 6 * r) k)))
def uq_oil (f f' : Nat → Nat) (x m y : Int32) : Prop := (um_in x (f 0) = false ∧ y = -1011 ∧ f' = f) ∨ ∃ r, r < f 0 ∧ x = nI r ∧ (((m < 1 ∨ 9 < m) ∧ y = -1012 ∧ f' = f) ∨ ∃ k, 1 ≤ k ∧ k ≤ 9 ∧ m = nI k ∧ ((¬ k ≤ f (13 + 6 * r) ∧ y = -1014 ∧ f' = f) ∨ (k ≤ f (13 + 6 * r) ∧ y = nI (f (13 + 6 * r) - k) ∧ f' = um_up f (13 + 6 * r) (f (13 + 6 * r) - k))))
def uq_pull (f f' : Nat → Nat) (x h s y : Int32) : Prop := (um_in x (f 0) = false ∧ y = -1011 ∧ f' = f) ∨ ∃ r, r < f 0 ∧ x = nI r ∧ ((um_in h 24 = false ∧ y = -1012 ∧ f' = f) ∨ ∃ t, t < 24 ∧ h = nI t ∧ ((ufX9_isIn s 1 9 = some 0 ∧ y = -1012 ∧ f' = f) ∨ ∃ k, 1 ≤ k ∧ k ≤ 9 ∧ s = nI k ∧ (((t < f 2 ∨ f 1 = 16) ∧ y = -1014 ∧ f' = f) ∨ (¬ t < f 2 ∧ ¬ f 1 = 16 ∧ y = nI (um_pos f r t k (f 1)) ∧ f' = um_insF f (um_pos f r t k (f 1)) r t k))))
def uq_cancel (f f' : Nat → Nat) (x y : Int32) : Prop := (um_in x (f 0) = false ∧ y = -1011 ∧ f' = f) ∨ ∃ r, r < f 0 ∧ x = nI r ∧ ((y = -1014 ∧ f' = f) ∨ (y = nI (um_canF f r 1) ∧ f' = um_canF f r))
def uq_ring (f f' : Nat → Nat) (y lr ld lr' ld' : Int32) : Prop := (f 1 = 0 ∧ y = -1014 ∧ f' = f ∧ lr' = 3 ∧ ld' = nI (f 10)) ∨ (0 < f 1 ∧ y = nI (um_ringR f) ∧ f' = um_ringF f ∧ lr' = lr ∧ ld' = ld)
def uq_hr (h : Nat) : Nat → (Nat → Nat) → (Nat → Nat) × Nat
  | 0, f => (f, 0)
  | k + 1, f => if f 84 = h then ((uq_hr h k (um_ringF f)).1, (uq_hr h k (um_ringF f)).2 + (if um_ringR f = 1 then 1 else 0)) else (f, 0)
def uq_hour (f f' : Nat → Nat) (y : Int32) : Prop := (f 1 = 0 ∧ y = -1014 ∧ f' = f) ∨ (0 < f 1 ∧ y = nI (uq_hr (f 84) (f 1) f).2 ∧ f' = (uq_hr (f 84) (f 1) f).1)
section UM38
variable {f ph pr ps rd rh rr rs rg oa od oi om op ou : Nat → Nat} {c la : Nat} {lr ld w d : Int32}
theorem um_o_rope {x : Int32} (hI : um_I f c) (hT : um_D f la ph pr ps rd rh rr rs rg oa od oi om op ou) (hc : c + 1 ≤ 2 ^ 20) (hR : um_RS lr ld w d) :
    ∃ (y z fl lr' ld' w' d' : Int32) (f' oi' op' : Nat → Nat), ufX8_bringRope ld lr (nI (f 0)) (um_nv oi) (um_nv op) x = some (y, ld', lr', nI (f' 0), um_nv oi', um_nv op') ∧ ufX9_comes d 0 w (um_nv f) x = some (z, d', fl, w', um_nv f') ∧
      um_RS lr' ld' w' d' ∧ um_I f' (c + 1) ∧ um_D f' la ph pr ps rd rh rr rs rg oa od oi' om op' ou ∧ um_E y z fl f f' ∧ (∀ q, q ≠ 0 → (q < 11 ∨ 83 ≤ q) → f' q = f q) ∧ uq_rope f f' x y := by
  have hI0 := hI
  have hI1 := um_I_up (Nat.le_succ c) hc hI
  obtain ⟨q0, q1, q2, q3, q4, q5, q6, q7, q8, q9, q10, q11, q12, q13, q14, q15⟩ := hI
  cases hx : um_in x 4
  · refine ⟨-1012, -1012, -1012, lr, ld, w, d, f, oi, op, ?_, ?_, hR, hI1, hT, Or.inr ⟨rfl, um_neg1012, rfl⟩, fun _ _ _ => rfl, Or.inl ⟨hx, rfl, rfl⟩⟩
    · unfold ufX8_bringRope
      rw [um_isParish8, hx]
      rfl
    · unfold ufX9_comes
      rw [um_isParish, hx]
      rfl
  · obtain ⟨p, hp, rfl⟩ := um_in_of (by decide) hx
    by_cases h12 : f 0 = 12
    · refine ⟨-1014, -1014, -1014, 1, 12, 1, 12, f, oi, op, ?_, ?_, um_RS_put (by decide), hI1, hT, Or.inr ⟨rfl, um_neg1014, rfl⟩, fun _ _ _ => rfl, Or.inr ⟨p, hp, rfl, Or.inl ⟨h12, rfl, rfl⟩⟩⟩
      · unfold ufX8_bringRope ufX8_refuse
        rw [um_isParish8, hx]
        simp -implicitDefEqProofs (disch := omega) only [um_l0, um_l1, um_l2, um_l3, um_l4, um_l5, um_l6, um_l7, um_l8, um_l9, um_l10, um_l11, um_l12, um_l16, um_l20, um_l23, um_l24, um_l31, um_l32, um_l35, um_l42, um_l43, um_l45, um_l48, um_l57, um_l58, um_l59, um_l60, um_l61, um_l63, um_l64, um_l68, um_l83, um_l99, um_l100, um_l101, um_l102, um_l103, um_l104, um_l105, um_l106, um_l107, um_l108, um_l109, um_l110, um_l111, um_l112, um_l113, um_l114, um_l115, um_l116, um_l117, um_l118, um_l126, um_l128, um_l130, um_l131, um_l132, um_l133, um_l134, um_l135, um_l180, um_l210, um_l211, um_l235, um_l1645, um_l1880, ↓um_nm, um_b1, um_b2, um_b3, um_b4, um_b5, um_b6, um_b7, um_b8, um_b9, um_b10, um_gd, um_bz0, um_bz1, um_m1, nI_add, pk_mul, um_sub_lt0, um_sub_gt0, um_sub_eq0, um_sub_le0, pk_sub, nI_ltI, nI_leI, nI_eq, nI_clamp, um_nv_at, um_nv_up, um_up_eq, um_up_ne, if_true, if_false, if_pos, if_neg, um_at, um_at0, um_put, um_add, um_b2n_t, h12, um_b3]
      · unfold ufX9_comes ufX9_refuses ufX9_fail
        rw [um_isParish, hx]
        simp -implicitDefEqProofs (disch := omega) only [um_l0, um_l1, um_l2, um_l3, um_l4, um_l5, um_l6, um_l7, um_l8, um_l9, um_l10, um_l11, um_l12, um_l16, um_l20, um_l23, um_l24, um_l31, um_l32, um_l35, um_l42, um_l43, um_l45, um_l48, um_l57, um_l58, um_l59, um_l60, um_l61, um_l63, um_l64, um_l68, um_l83, um_l99, um_l100, um_l101, um_l102, um_l103, um_l104, um_l105, um_l106, um_l107, um_l108, um_l109, um_l110, um_l111, um_l112, um_l113, um_l114, um_l115, um_l116, um_l117, um_l118, um_l126, um_l128, um_l130, um_l131, um_l132, um_l133, um_l134, um_l135, um_l180, um_l210, um_l211, um_l235, um_l1645, um_l1880, ↓um_nm, um_b1, um_b2, um_b3, um_b4, um_b5, um_b6, um_b7, um_b8, um_b9, um_b10, um_gd, um_bz0, um_bz1, um_m1, nI_add, pk_mul, um_sub_lt0, um_sub_gt0, um_sub_eq0, um_sub_le0, pk_sub, nI_ltI, nI_leI, nI_eq, nI_clamp, um_nv_at, um_nv_up, um_up_eq, um_up_ne, if_true, if_false, if_pos, if_neg, um_at, um_at0, um_put, um_add, um_b2n_t, h12, um_b2, um_b4]
    · refine ⟨nI (f 0), nI (f 0), 0, lr, ld, w, d, um_up (um_up (um_up f (11 + 6 * f 0) p) (12 + 6 * f 0) 1) 0 (f 0 + 1), um_up oi (f 0) 1, um_up op (f 0) p, ?_, ?_, hR, ?_, ?_, Or.inl ⟨rfl, rfl, nI_pos (by omega)⟩, fun q h1 h2 => ?_, Or.inr ⟨p, hp, rfl, Or.inr ⟨h12, rfl, rfl⟩⟩⟩
      · unfold ufX8_bringRope ufX5_bring
        rw [um_isParish8, hx]
        simp -implicitDefEqProofs (disch := omega) only [um_l0, um_l1, um_l2, um_l3, um_l4, um_l5, um_l6, um_l7, um_l8, um_l9, um_l10, um_l11, um_l12, um_l16, um_l20, um_l23, um_l24, um_l31, um_l32, um_l35, um_l42, um_l43, um_l45, um_l48, um_l57, um_l58, um_l59, um_l60, um_l61, um_l63, um_l64, um_l68, um_l83, um_l99, um_l100, um_l101, um_l102, um_l103, um_l104, um_l105, um_l106, um_l107, um_l108, um_l109, um_l110, um_l111, um_l112, um_l113, um_l114, um_l115, um_l116, um_l117, um_l118, um_l126, um_l128, um_l130, um_l131, um_l132, um_l133, um_l134, um_l135, um_l180, um_l210, um_l211, um_l235, um_l1645, um_l1880, ↓um_nm, um_b1, um_b2, um_b3, um_b4, um_b5, um_b6, um_b7, um_b8, um_b9, um_b10, um_gd, um_bz0, um_bz1, um_m1, nI_add, pk_mul, um_sub_lt0, um_sub_gt0, um_sub_eq0, um_sub_le0, pk_sub, nI_ltI, nI_leI, nI_eq, nI_clamp, um_nv_at, um_nv_up, um_up_eq, um_up_ne, if_true, if_false, if_pos, if_neg, um_at, um_at0, um_put, um_add, um_b2n_t]
      · have e1 : 11 + 6 * f 0 + 0 = 11 + 6 * f 0 := rfl
        have e2 : 11 + 6 * f 0 + 1 = 12 + 6 * f 0 := by omega
        unfold ufX9_comes
        rw [um_isParish, hx]
        simp -implicitDefEqProofs (disch := omega) only [um_l0, um_l1, um_l2, um_l3, um_l4, um_l5, um_l6, um_l7, um_l8, um_l9, um_l10, um_l11, um_l12, um_l16, um_l20, um_l23, um_l24, um_l31, um_l32, um_l35, um_l42, um_l43, um_l45, um_l48, um_l57, um_l58, um_l59, um_l60, um_l61, um_l63, um_l64, um_l68, um_l83, um_l99, um_l100, um_l101, um_l102, um_l103, um_l104, um_l105, um_l106, um_l107, um_l108, um_l109, um_l110, um_l111, um_l112, um_l113, um_l114, um_l115, um_l116, um_l117, um_l118, um_l126, um_l128, um_l130, um_l131, um_l132, um_l133, um_l134, um_l135, um_l180, um_l210, um_l211, um_l235, um_l1645, um_l1880, ↓um_nm, um_b1, um_b2, um_b3, um_b4, um_b5, um_b6, um_b7, um_b8, um_b9, um_b10, um_gd, um_bz0, um_bz1, um_m1, nI_add, pk_mul, um_sub_lt0, um_sub_gt0, um_sub_eq0, um_sub_le0, pk_sub, nI_ltI, nI_leI, nI_eq, nI_clamp, um_nv_at, um_nv_up, um_up_eq, um_up_ne, if_true, if_false, if_pos, if_neg, um_at, um_at0, um_put, um_add, um_b2n_t, um_x_at, Nat.add_zero, e2]
      · have G : ∀ q, q ≠ 0 → q ≠ 11 + 6 * f 0 → q ≠ 12 + 6 * f 0 → um_up (um_up (um_up f (11 + 6 * f 0) p) (12 + 6 * f 0) 1) 0 (f 0 + 1) q = f q := fun q h1 h2 h3 => by
          rw [um_up_ne h1, um_up_ne h3, um_up_ne h2]
        have G0 : um_up (um_up (um_up f (11 + 6 * f 0) p) (12 + 6 * f 0) 1) 0 (f 0 + 1) 0 = f 0 + 1 := um_up_eq rfl
        have G1 : um_up (um_up (um_up f (11 + 6 * f 0) p) (12 + 6 * f 0) 1) 0 (f 0 + 1) (11 + 6 * f 0) = p := by rw [um_up_ne (by omega), um_up_ne (by omega), um_up_eq rfl]
        have G2 : um_up (um_up (um_up f (11 + 6 * f 0) p) (12 + 6 * f 0) 1) 0 (f 0 + 1) (12 + 6 * f 0) = 1 := by rw [um_up_ne (by omega), um_up_eq rfl]
        generalize um_up (um_up (um_up f (11 + 6 * f 0) p) (12 + 6 * f 0) 1) 0 (f 0 + 1) = g at *
        have a1 := G 1 (by omega) (by omega) (by omega)
        have a2 := G 2 (by omega) (by omega) (by omega)
        have a3 := G 3 (by omega) (by omega) (by omega)
        have a4 := G 4 (by omega) (by omega) (by omega)
        have a5 := G 5 (by omega) (by omega) (by omega)
        have a6 := G 6 (by omega) (by omega) (by omega)
        have a7 := G 7 (by omega) (by omega) (by omega)
        have a8 := G 8 (by omega) (by omega) (by omega)
        have a9 := G 9 (by omega) (by omega) (by omega)
        have a10 := G 10 (by omega) (by omega) (by omega)
        have hz := q10 (f 0) (Nat.le_refl _) (by omega)
        refine ⟨hc, by omega, by omega, by omega, by omega, by omega, by omega, by omega, by omega, fun r hr => ?_, fun r hr hr' => ?_, ?_, ?_, ?_, fun k hk => ?_, fun t ht => ?_⟩
        · by_cases e : r = f 0
          · subst e
            rw [G1, G2, G (13 + 6 * f 0) (by omega) (by omega) (by omega)]
            omega
          · rw [G (11 + 6 * r) (by omega) (by omega) (by omega), G (12 + 6 * r) (by omega) (by omega) (by omega), G (13 + 6 * r) (by omega) (by omega) (by omega)]
            exact q9 r hr
        · rw [G (11 + 6 * r) (by omega) (by omega) (by omega), G (12 + 6 * r) (by omega) (by omega) (by omega), G (13 + 6 * r) (by omega) (by omega) (by omega), G (14 + 6 * r) (by omega) (by omega) (by omega), G (15 + 6 * r) (by omega) (by omega) (by omega), G (16 + 6 * r) (by omega) (by omega) (by omega)]
          exact q10 r (by omega) hr'
        · rw [a5, ← q11]
          exact um_sum_congr (fun i hi => G _ (by omega) (by omega) (by omega))
        · rw [a6, ← q12]
          exact um_sum_congr (fun i hi => G _ (by omega) (by omega) (by omega))
        · rw [a7, ← q13]
          exact um_sum_congr (fun i hi => G _ (by omega) (by omega) (by omega))
        · rw [G0, G (83 + 3 * k) (by omega) (by omega) (by omega), G (84 + 3 * k) (by omega) (by omega) (by omega), G (85 + 3 * k) (by omega) (by omega) (by omega)]
          have := q14 k (by omega)
          omega
        · rw [G0, G (211 + t) (by omega) (by omega) (by omega), Nat.pow_succ]
          have := q15 t ht
          omega
      · refine um_D_keep hT q2 q8 (fun q hq => by rw [um_up_ne (by omega), um_up_ne (by omega), um_up_ne (by omega)]) (fun r hr => ?_)
        obtain ⟨s1, s2, s3, s4, s5, s6⟩ := hT.2.2.2 r hr
        by_cases e : r = f 0
        · rw [e] at s3 s4 s5 s6 ⊢
          rw [um_up_eq rfl, um_up_eq rfl]
          refine ⟨?_, ?_, ?_, ?_, ?_, ?_⟩ <;> simp (disch := omega) only [um_up_ne, um_up_eq, s3, s4, s5, s6]
        · rw [um_up_ne e, um_up_ne e]
          refine ⟨?_, ?_, ?_, ?_, ?_, ?_⟩ <;> simp (disch := omega) only [um_up_ne, um_up_eq, s1, s2, s3, s4, s5, s6]
      · rw [um_up_ne h1, um_up_ne (by omega), um_up_ne (by omega)]
theorem um_o_move {x p : Int32} (hI : um_I f c) (hT : um_D f la ph pr ps rd rh rr rs rg oa od oi om op ou) (hc : c + 1 ≤ 2 ^ 20) (hR : um_RS lr ld w d) :
    ∃ (y z fl lr' ld' w' d' : Int32) (f' op' : Nat → Nat), ufX8_giveRope ld lr (nI (f 0)) (um_nv op) x p = some (y, ld', lr', um_nv op') ∧ ufX9_moves d 0 w (um_nv f) x p = some (z, d', fl, w', um_nv f') ∧
      um_RS lr' ld' w' d' ∧ um_I f' (c + 1) ∧ um_D f' la ph pr ps rd rh rr rs rg oa od oi om op' ou ∧ um_E y z fl f f' ∧ (∀ q, (q < 11 ∨ 83 ≤ q) → f' q = f q) ∧ uq_move f f' x p y := by
  have hI0 := hI
  have hI1 := um_I_up (Nat.le_succ c) hc hI
  obtain ⟨q0, q1, q2, q3, q4, q5, q6, q7, q8, q9, q10, q11, q12, q13, q14, q15⟩ := hI
  cases hx : um_in x (f 0)
  · refine ⟨-1011, -1011, -1011, lr, ld, w, d, f, op, ?_, ?_, hR, hI1, hT, Or.inr ⟨rfl, um_neg1011, rfl⟩, fun _ _ => rfl, Or.inl ⟨hx, rfl, rfl⟩⟩
    · unfold ufX8_giveRope
      rw [um_has5 (by omega), hx]
      rfl
    · unfold ufX9_moves
      rw [um_isRope (by omega), hx]
      rfl
  · obtain ⟨r, hr, rfl⟩ := um_in_of (by omega) hx
    obtain ⟨s1, s2, s3, s4, s5, s6⟩ := hT.2.2.2 r (by omega)
    have hq := q9 r (by omega)
    cases hp : um_in p 4
    · refine ⟨-1012, -1012, -1012, lr, ld, w, d, f, op, ?_, ?_, hR, hI1, hT, Or.inr ⟨rfl, um_neg1012, rfl⟩, fun _ _ => rfl, Or.inr ⟨r, hr, rfl, Or.inl ⟨hp, rfl, rfl⟩⟩⟩
      · unfold ufX8_giveRope
        rw [um_has5 (by omega), hx, um_isParish8, hp]
        rfl
      · unfold ufX9_moves
        rw [um_isRope (by omega), hx, um_isParish, hp]
        rfl
    · obtain ⟨k, hk, rfl⟩ := um_in_of (by decide) hp
      have e1 : 11 + 6 * r + 0 = 11 + 6 * r := rfl
      by_cases e : f (11 + 6 * r) = k
      · refine ⟨-1014, -1014, -1014, 4, nI k, 4, nI k, f, op, ?_, ?_, um_RS_put (by decide), hI1, hT, Or.inr ⟨rfl, um_neg1014, rfl⟩, fun _ _ => rfl, Or.inr ⟨r, hr, rfl, Or.inr ⟨k, hk, rfl, Or.inl ⟨e, rfl, rfl⟩⟩⟩⟩
        · unfold ufX8_giveRope ufX8_refuse
          rw [um_has5 (by omega), hx, um_isParish8, hp]
          simp -implicitDefEqProofs (disch := omega) only [um_l0, um_l1, um_l2, um_l3, um_l4, um_l5, um_l6, um_l7, um_l8, um_l9, um_l10, um_l11, um_l12, um_l16, um_l20, um_l23, um_l24, um_l31, um_l32, um_l35, um_l42, um_l43, um_l45, um_l48, um_l57, um_l58, um_l59, um_l60, um_l61, um_l63, um_l64, um_l68, um_l83, um_l99, um_l100, um_l101, um_l102, um_l103, um_l104, um_l105, um_l106, um_l107, um_l108, um_l109, um_l110, um_l111, um_l112, um_l113, um_l114, um_l115, um_l116, um_l117, um_l118, um_l126, um_l128, um_l130, um_l131, um_l132, um_l133, um_l134, um_l135, um_l180, um_l210, um_l211, um_l235, um_l1645, um_l1880, ↓um_nm, um_b1, um_b2, um_b3, um_b4, um_b5, um_b6, um_b7, um_b8, um_b9, um_b10, um_gd, um_bz0, um_bz1, um_m1, nI_add, pk_mul, um_sub_lt0, um_sub_gt0, um_sub_eq0, um_sub_le0, pk_sub, nI_ltI, nI_leI, nI_eq, nI_clamp, um_nv_at, um_nv_up, um_up_eq, um_up_ne, if_true, if_false, if_pos, if_neg, um_at, um_at0, um_put, um_add, um_b2n_t, s1, e]
        · unfold ufX9_moves ufX9_sets ufX9_refuses ufX9_fail
          rw [um_isRope (by omega), hx, um_isParish, hp]
          simp -implicitDefEqProofs (disch := omega) only [um_l0, um_l1, um_l2, um_l3, um_l4, um_l5, um_l6, um_l7, um_l8, um_l9, um_l10, um_l11, um_l12, um_l16, um_l20, um_l23, um_l24, um_l31, um_l32, um_l35, um_l42, um_l43, um_l45, um_l48, um_l57, um_l58, um_l59, um_l60, um_l61, um_l63, um_l64, um_l68, um_l83, um_l99, um_l100, um_l101, um_l102, um_l103, um_l104, um_l105, um_l106, um_l107, um_l108, um_l109, um_l110, um_l111, um_l112, um_l113, um_l114, um_l115, um_l116, um_l117, um_l118, um_l126, um_l128, um_l130, um_l131, um_l132, um_l133, um_l134, um_l135, um_l180, um_l210, um_l211, um_l235, um_l1645, um_l1880, ↓um_nm, um_b1, um_b2, um_b3, um_b4, um_b5, um_b6, um_b7, um_b8, um_b9, um_b10, um_gd, um_bz0, um_bz1, um_m1, nI_add, pk_mul, um_sub_lt0, um_sub_gt0, um_sub_eq0, um_sub_le0, pk_sub, nI_ltI, nI_leI, nI_eq, nI_clamp, um_nv_at, um_nv_up, um_up_eq, um_up_ne, if_true, if_false, if_pos, if_neg, um_at, um_at0, um_put, um_add, um_b2n_t, um_x_at, Nat.add_zero, e]
      · refine ⟨nI (f (11 + 6 * r)), nI (f (11 + 6 * r)), 0, lr, ld, w, d, um_up f (11 + 6 * r) k, um_up op r k, ?_, ?_, hR, ?_, ?_, Or.inl ⟨rfl, rfl, nI_pos (by omega)⟩, fun q hq => um_up_ne (by omega), Or.inr ⟨r, hr, rfl, Or.inr ⟨k, hk, rfl, Or.inr ⟨e, rfl, rfl⟩⟩⟩⟩
        · unfold ufX8_giveRope
          rw [um_has5 (by omega), hx, um_isParish8, hp]
          simp -implicitDefEqProofs (disch := omega) only [um_l0, um_l1, um_l2, um_l3, um_l4, um_l5, um_l6, um_l7, um_l8, um_l9, um_l10, um_l11, um_l12, um_l16, um_l20, um_l23, um_l24, um_l31, um_l32, um_l35, um_l42, um_l43, um_l45, um_l48, um_l57, um_l58, um_l59, um_l60, um_l61, um_l63, um_l64, um_l68, um_l83, um_l99, um_l100, um_l101, um_l102, um_l103, um_l104, um_l105, um_l106, um_l107, um_l108, um_l109, um_l110, um_l111, um_l112, um_l113, um_l114, um_l115, um_l116, um_l117, um_l118, um_l126, um_l128, um_l130, um_l131, um_l132, um_l133, um_l134, um_l135, um_l180, um_l210, um_l211, um_l235, um_l1645, um_l1880, ↓um_nm, um_b1, um_b2, um_b3, um_b4, um_b5, um_b6, um_b7, um_b8, um_b9, um_b10, um_gd, um_bz0, um_bz1, um_m1, nI_add, pk_mul, um_sub_lt0, um_sub_gt0, um_sub_eq0, um_sub_le0, pk_sub, nI_ltI, nI_leI, nI_eq, nI_clamp, um_nv_at, um_nv_up, um_up_eq, um_up_ne, if_true, if_false, if_pos, if_neg, um_at, um_at0, um_put, um_add, um_b2n_t, s1]
        · unfold ufX9_moves ufX9_sets
          rw [um_isRope (by omega), hx, um_isParish, hp]
          simp -implicitDefEqProofs (disch := omega) only [um_l0, um_l1, um_l2, um_l3, um_l4, um_l5, um_l6, um_l7, um_l8, um_l9, um_l10, um_l11, um_l12, um_l16, um_l20, um_l23, um_l24, um_l31, um_l32, um_l35, um_l42, um_l43, um_l45, um_l48, um_l57, um_l58, um_l59, um_l60, um_l61, um_l63, um_l64, um_l68, um_l83, um_l99, um_l100, um_l101, um_l102, um_l103, um_l104, um_l105, um_l106, um_l107, um_l108, um_l109, um_l110, um_l111, um_l112, um_l113, um_l114, um_l115, um_l116, um_l117, um_l118, um_l126, um_l128, um_l130, um_l131, um_l132, um_l133, um_l134, um_l135, um_l180, um_l210, um_l211, um_l235, um_l1645, um_l1880, ↓um_nm, um_b1, um_b2, um_b3, um_b4, um_b5, um_b6, um_b7, um_b8, um_b9, um_b10, um_gd, um_bz0, um_bz1, um_m1, nI_add, pk_mul, um_sub_lt0, um_sub_gt0, um_sub_eq0, um_sub_le0, pk_sub, nI_ltI, nI_leI, nI_eq, nI_clamp, um_nv_at, um_nv_up, um_up_eq, um_up_ne, if_true, if_false, if_pos, if_neg, um_at, um_at0, um_put, um_add, um_b2n_t, um_x_at, Nat.add_zero]
        · exact um_I_one hI1 hr (fun q h1 h2 h3 => um_up_ne h1) (by rw [um_up_eq rfl]; exact hk) (by rw [um_up_ne (by omega)]; exact hq.2.1) (by rw [um_up_ne (by omega)]; exact hq.2.2)
        · refine um_D_keep hT q2 q8 (fun q hq => um_up_ne (by omega)) (fun r' hr' => ?_)
          obtain ⟨s1, s2, s3, s4, s5, s6⟩ := hT.2.2.2 r' hr'
          by_cases e : r' = r
          · rw [e] at s2 s3 s4 s5 s6 ⊢
            rw [um_up_eq rfl]
            refine ⟨?_, ?_, ?_, ?_, ?_, ?_⟩ <;> simp (disch := omega) only [um_up_ne, um_up_eq, s2, s3, s4, s5, s6]
          · rw [um_up_ne e]
            refine ⟨?_, ?_, ?_, ?_, ?_, ?_⟩ <;> simp (disch := omega) only [um_up_ne, um_up_eq, s1, s2, s3, s4, s5, s6]
theorem um_switches50 {g : Nat → Nat} {fl : Int32} (h0 : g 0 ≤ 12) : ulX9_switches_50 d fl w (um_nv g) ub_F (nI 0) (nI 0) = some (nI (um_sum (fun r => g (12 + 6 * r)) (g 0)), d, fl, w, um_nv g) := by
  refine um_loop (fun k (s : Int32 × Int32) => ulX9_switches_50 d fl w (um_nv g) k s.1 s.2) (fun i => (nI (um_sum (fun r => g (12 + 6 * r)) i), nI i)) 0 (g 0) (by omega) (by omega) ?_ ?_
  · intro i k _ hi
    show ulX9_switches_50 d fl w (um_nv g) (k + 1) _ _ = ulX9_switches_50 d fl w (um_nv g) k _ _
    have e1 : 11 + 6 * i + 1 = 12 + 6 * i := by omega
    rw [ulX9_switches_50, um_sum]
    simp -implicitDefEqProofs (disch := omega) only [um_l0, um_l1, um_l2, um_l3, um_l4, um_l5, um_l6, um_l7, um_l8, um_l9, um_l10, um_l11, um_l12, um_l16, um_l20, um_l23, um_l24, um_l31, um_l32, um_l35, um_l42, um_l43, um_l45, um_l48, um_l57, um_l58, um_l59, um_l60, um_l61, um_l63, um_l64, um_l68, um_l83, um_l99, um_l100, um_l101, um_l102, um_l103, um_l104, um_l105, um_l106, um_l107, um_l108, um_l109, um_l110, um_l111, um_l112, um_l113, um_l114, um_l115, um_l116, um_l117, um_l118, um_l126, um_l128, um_l130, um_l131, um_l132, um_l133, um_l134, um_l135, um_l180, um_l210, um_l211, um_l235, um_l1645, um_l1880, ↓um_nm, um_b1, um_b2, um_b3, um_b4, um_b5, um_b6, um_b7, um_b8, um_b9, um_b10, um_gd, um_bz0, um_bz1, um_m1, nI_add, pk_mul, um_sub_lt0, um_sub_gt0, um_sub_eq0, um_sub_le0, pk_sub, nI_ltI, nI_leI, nI_eq, nI_clamp, um_nv_at, um_nv_up, um_up_eq, um_up_ne, if_true, if_false, if_pos, if_neg, um_at, um_at0, um_put, um_add, um_x_at, e1]
  · intro k
    show ulX9_switches_50 d fl w (um_nv g) (k + 1) _ _ = _
    rw [ulX9_switches_50]
    simp -implicitDefEqProofs (disch := omega) only [um_l0, um_l1, um_l2, um_l3, um_l4, um_l5, um_l6, um_l7, um_l8, um_l9, um_l10, um_l11, um_l12, um_l16, um_l20, um_l23, um_l24, um_l31, um_l32, um_l35, um_l42, um_l43, um_l45, um_l48, um_l57, um_l58, um_l59, um_l60, um_l61, um_l63, um_l64, um_l68, um_l83, um_l99, um_l100, um_l101, um_l102, um_l103, um_l104, um_l105, um_l106, um_l107, um_l108, um_l109, um_l110, um_l111, um_l112, um_l113, um_l114, um_l115, um_l116, um_l117, um_l118, um_l126, um_l128, um_l130, um_l131, um_l132, um_l133, um_l134, um_l135, um_l180, um_l210, um_l211, um_l235, um_l1645, um_l1880, ↓um_nm, um_b1, um_b2, um_b3, um_b4, um_b5, um_b6, um_b7, um_b8, um_b9, um_b10, um_gd, um_bz0, um_bz1, um_m1, nI_add, pk_mul, um_sub_lt0, um_sub_gt0, um_sub_eq0, um_sub_le0, pk_sub, nI_ltI, nI_leI, nI_eq, nI_clamp, um_nv_at, um_nv_up, um_up_eq, um_up_ne, if_true, if_false, if_pos, if_neg, um_at, um_at0, um_put, um_add]
theorem um_o_sensor {x b : Int32} (hI : um_I f c) (hT : um_D f la ph pr ps rd rh rr rs rg oa od oi om op ou) (hc : c + 1 ≤ 2 ^ 20) (hR : um_RS lr ld w d) :
    ∃ (y z fl lr' ld' w' d' : Int32) (f' oi' : Nat → Nat), ufX8_switchSensor ld lr (nI (f 0)) (um_nv oi) x b = some (y, ld', lr', um_nv oi') ∧ ufX9_switches d 0 w (um_nv f) x b = some (z, d', fl, w', um_nv f') ∧
      um_RS lr' ld' w' d' ∧ um_I f' (c + 1) ∧ um_D f' la ph pr ps rd rh rr rs rg oa od oi' om op ou ∧ um_E y z fl f f' ∧ (∀ q, (q < 11 ∨ 83 ≤ q) → f' q = f q) ∧ uq_sensor f f' x b y := by
  have hI0 := hI
  have hI1 := um_I_up (Nat.le_succ c) hc hI
  obtain ⟨q0, q1, q2, q3, q4, q5, q6, q7, q8, q9, q10, q11, q12, q13, q14, q15⟩ := hI
  cases hx : um_in x (f 0)
  · refine ⟨-1011, -1011, -1011, lr, ld, w, d, f, oi, ?_, ?_, hR, hI1, hT, Or.inr ⟨rfl, um_neg1011, rfl⟩, fun _ _ => rfl, Or.inl ⟨hx, rfl, rfl⟩⟩
    · unfold ufX8_switchSensor
      rw [um_has5 (by omega), hx]
      rfl
    · unfold ufX9_switches
      rw [um_isRope (by omega), hx]
      rfl
  · obtain ⟨r, hr, rfl⟩ := um_in_of (by omega) hx
    obtain ⟨s1, s2, s3, s4, s5, s6⟩ := hT.2.2.2 r (by omega)
    have hq := q9 r (by omega)
    cases hp : um_in b 2
    · have hne := um_in_ne (by decide) hp
      refine ⟨-1012, -1012, -1012, lr, ld, w, d, f, oi, ?_, ?_, hR, hI1, hT, Or.inr ⟨rfl, um_neg1012, rfl⟩, fun _ _ => rfl, Or.inr ⟨r, hr, rfl, Or.inl ⟨hp, rfl, rfl⟩⟩⟩
      · unfold ufX8_switchSensor
        rw [um_has5 (by omega), hx]
        simp -implicitDefEqProofs (disch := omega) only [um_l0, um_l1, um_l2, um_l3, um_l4, um_l5, um_l6, um_l7, um_l8, um_l9, um_l10, um_l11, um_l12, um_l16, um_l20, um_l23, um_l24, um_l31, um_l32, um_l35, um_l42, um_l43, um_l45, um_l48, um_l57, um_l58, um_l59, um_l60, um_l61, um_l63, um_l64, um_l68, um_l83, um_l99, um_l100, um_l101, um_l102, um_l103, um_l104, um_l105, um_l106, um_l107, um_l108, um_l109, um_l110, um_l111, um_l112, um_l113, um_l114, um_l115, um_l116, um_l117, um_l118, um_l126, um_l128, um_l130, um_l131, um_l132, um_l133, um_l134, um_l135, um_l180, um_l210, um_l211, um_l235, um_l1645, um_l1880, ↓um_nm, um_b1, um_b2, um_b3, um_b4, um_b5, um_b6, um_b7, um_b8, um_b9, um_b10, um_gd, um_bz0, um_bz1, um_m1, nI_add, pk_mul, um_sub_lt0, um_sub_gt0, um_sub_eq0, um_sub_le0, pk_sub, nI_ltI, nI_leI, nI_eq, nI_clamp, um_nv_at, um_nv_up, um_up_eq, um_up_ne, if_true, if_false, if_pos, if_neg, um_at, um_at0, um_put, um_add, um_b2n_t, hne 0 (by decide), hne 1 (by decide)]
      · unfold ufX9_switches ufX9_fail
        rw [um_isRope (by omega), hx]
        simp -implicitDefEqProofs (disch := omega) only [um_l0, um_l1, um_l2, um_l3, um_l4, um_l5, um_l6, um_l7, um_l8, um_l9, um_l10, um_l11, um_l12, um_l16, um_l20, um_l23, um_l24, um_l31, um_l32, um_l35, um_l42, um_l43, um_l45, um_l48, um_l57, um_l58, um_l59, um_l60, um_l61, um_l63, um_l64, um_l68, um_l83, um_l99, um_l100, um_l101, um_l102, um_l103, um_l104, um_l105, um_l106, um_l107, um_l108, um_l109, um_l110, um_l111, um_l112, um_l113, um_l114, um_l115, um_l116, um_l117, um_l118, um_l126, um_l128, um_l130, um_l131, um_l132, um_l133, um_l134, um_l135, um_l180, um_l210, um_l211, um_l235, um_l1645, um_l1880, ↓um_nm, um_b1, um_b2, um_b3, um_b4, um_b5, um_b6, um_b7, um_b8, um_b9, um_b10, um_gd, um_bz0, um_bz1, um_m1, nI_add, pk_mul, um_sub_lt0, um_sub_gt0, um_sub_eq0, um_sub_le0, pk_sub, nI_ltI, nI_leI, nI_eq, nI_clamp, um_nv_at, um_nv_up, um_up_eq, um_up_ne, if_true, if_false, if_pos, if_neg, um_at, um_at0, um_put, um_add, um_b2n_t, @um_isInK b 1 2, hp, um_b2n_f]
    · obtain ⟨k, hk, rfl⟩ := um_in_of (by decide) hp
      have e1 : 11 + 6 * r + 1 = 12 + 6 * r := by omega
      have hsw : ∀ ld' lr' : Int32, ufX8_switchSensor ld lr (nI (f 0)) (um_nv oi) (nI r) (nI k) = ujX8_switchSensor_31 ld lr (um_nv oi) (nI r) (nI k) := fun _ _ => by
        unfold ufX8_switchSensor
        rw [um_has5 (by omega), hx]
        rcases (show k = 0 ∨ k = 1 by omega) with rfl | rfl
        · simp -implicitDefEqProofs (disch := omega) only [um_l0, um_l1, um_l2, um_l3, um_l4, um_l5, um_l6, um_l7, um_l8, um_l9, um_l10, um_l11, um_l12, um_l16, um_l20, um_l23, um_l24, um_l31, um_l32, um_l35, um_l42, um_l43, um_l45, um_l48, um_l57, um_l58, um_l59, um_l60, um_l61, um_l63, um_l64, um_l68, um_l83, um_l99, um_l100, um_l101, um_l102, um_l103, um_l104, um_l105, um_l106, um_l107, um_l108, um_l109, um_l110, um_l111, um_l112, um_l113, um_l114, um_l115, um_l116, um_l117, um_l118, um_l126, um_l128, um_l130, um_l131, um_l132, um_l133, um_l134, um_l135, um_l180, um_l210, um_l211, um_l235, um_l1645, um_l1880, ↓um_nm, um_b1, um_b2, um_b3, um_b4, um_b5, um_b6, um_b7, um_b8, um_b9, um_b10, um_gd, um_bz0, um_bz1, um_m1, nI_add, pk_mul, um_sub_lt0, um_sub_gt0, um_sub_eq0, um_sub_le0, pk_sub, nI_ltI, nI_leI, nI_eq, nI_clamp, um_nv_at, um_nv_up, um_up_eq, um_up_ne, if_true, if_false, if_pos, if_neg, um_at, um_at0, um_put, um_add, um_b2n_t]
        · simp -implicitDefEqProofs (disch := omega) only [um_l0, um_l1, um_l2, um_l3, um_l4, um_l5, um_l6, um_l7, um_l8, um_l9, um_l10, um_l11, um_l12, um_l16, um_l20, um_l23, um_l24, um_l31, um_l32, um_l35, um_l42, um_l43, um_l45, um_l48, um_l57, um_l58, um_l59, um_l60, um_l61, um_l63, um_l64, um_l68, um_l83, um_l99, um_l100, um_l101, um_l102, um_l103, um_l104, um_l105, um_l106, um_l107, um_l108, um_l109, um_l110, um_l111, um_l112, um_l113, um_l114, um_l115, um_l116, um_l117, um_l118, um_l126, um_l128, um_l130, um_l131, um_l132, um_l133, um_l134, um_l135, um_l180, um_l210, um_l211, um_l235, um_l1645, um_l1880, ↓um_nm, um_b1, um_b2, um_b3, um_b4, um_b5, um_b6, um_b7, um_b8, um_b9, um_b10, um_gd, um_bz0, um_bz1, um_m1, nI_add, pk_mul, um_sub_lt0, um_sub_gt0, um_sub_eq0, um_sub_le0, pk_sub, nI_ltI, nI_leI, nI_eq, nI_clamp, um_nv_at, um_nv_up, um_up_eq, um_up_ne, if_true, if_false, if_pos, if_neg, um_at, um_at0, um_put, um_add, um_b2n_t]
      by_cases e : f (12 + 6 * r) = k
      · refine ⟨-1014, nI (um_sum (fun r => f (12 + 6 * r)) (f 0)), -1014, 4, nI k, 4, nI k, f, oi, ?_, ?_, um_RS_put (by decide), hI1, hT, Or.inr ⟨rfl, um_neg1014, rfl⟩, fun _ _ => rfl, Or.inr ⟨r, hr, rfl, Or.inr ⟨k, hk, rfl, Or.inl ⟨e, rfl, rfl⟩⟩⟩⟩
        · rw [hsw ld lr]
          unfold ujX8_switchSensor_31 ufX8_refuse
          simp -implicitDefEqProofs (disch := omega) only [um_l0, um_l1, um_l2, um_l3, um_l4, um_l5, um_l6, um_l7, um_l8, um_l9, um_l10, um_l11, um_l12, um_l16, um_l20, um_l23, um_l24, um_l31, um_l32, um_l35, um_l42, um_l43, um_l45, um_l48, um_l57, um_l58, um_l59, um_l60, um_l61, um_l63, um_l64, um_l68, um_l83, um_l99, um_l100, um_l101, um_l102, um_l103, um_l104, um_l105, um_l106, um_l107, um_l108, um_l109, um_l110, um_l111, um_l112, um_l113, um_l114, um_l115, um_l116, um_l117, um_l118, um_l126, um_l128, um_l130, um_l131, um_l132, um_l133, um_l134, um_l135, um_l180, um_l210, um_l211, um_l235, um_l1645, um_l1880, ↓um_nm, um_b1, um_b2, um_b3, um_b4, um_b5, um_b6, um_b7, um_b8, um_b9, um_b10, um_gd, um_bz0, um_bz1, um_m1, nI_add, pk_mul, um_sub_lt0, um_sub_gt0, um_sub_eq0, um_sub_le0, pk_sub, nI_ltI, nI_leI, nI_eq, nI_clamp, um_nv_at, um_nv_up, um_up_eq, um_up_ne, if_true, if_false, if_pos, if_neg, um_at, um_at0, um_put, um_add, s2, e]
        · unfold ufX9_switches ufX9_sets ufX9_refuses ufX9_fail
          rw [um_isRope (by omega), hx]
          simp -implicitDefEqProofs (disch := omega) only [um_l0, um_l1, um_l2, um_l3, um_l4, um_l5, um_l6, um_l7, um_l8, um_l9, um_l10, um_l11, um_l12, um_l16, um_l20, um_l23, um_l24, um_l31, um_l32, um_l35, um_l42, um_l43, um_l45, um_l48, um_l57, um_l58, um_l59, um_l60, um_l61, um_l63, um_l64, um_l68, um_l83, um_l99, um_l100, um_l101, um_l102, um_l103, um_l104, um_l105, um_l106, um_l107, um_l108, um_l109, um_l110, um_l111, um_l112, um_l113, um_l114, um_l115, um_l116, um_l117, um_l118, um_l126, um_l128, um_l130, um_l131, um_l132, um_l133, um_l134, um_l135, um_l180, um_l210, um_l211, um_l235, um_l1645, um_l1880, ↓um_nm, um_b1, um_b2, um_b3, um_b4, um_b5, um_b6, um_b7, um_b8, um_b9, um_b10, um_gd, um_bz0, um_bz1, um_m1, nI_add, pk_mul, um_sub_lt0, um_sub_gt0, um_sub_eq0, um_sub_le0, pk_sub, nI_ltI, nI_leI, nI_eq, nI_clamp, um_nv_at, um_nv_up, um_up_eq, um_up_ne, if_true, if_false, if_pos, if_neg, um_at, um_at0, um_put, um_add, um_b2n_t, @um_isInK _ 1 2, hp, um_x_at, e1, e, um_switches50]
      · have hsum : um_sum (um_up oi r k) 12 = um_sum (fun r' => um_up f (12 + 6 * r) k (12 + 6 * r')) (f 0) := by
          rw [um_sum_congr (g := fun r' => um_up f (12 + 6 * r) k (12 + 6 * r')) (fun i hi => by
            by_cases hir : i = r
            · rw [um_up_eq hir, um_up_eq (by omega)]
            · rw [um_up_ne hir, um_up_ne (by omega)]
              exact (hT.2.2.2 i hi).2.1), um_sum_tail q1 (fun i h1 h2 => by rw [um_up_ne (by omega)]; exact (q10 i h1 h2).2.1)]
        have hu0 : um_up f (12 + 6 * r) k 0 = f 0 := um_up_ne (by omega)
        have hle : um_sum (fun r' => um_up f (12 + 6 * r) k (12 + 6 * r')) (f 0) ≤ f 0 * 1 := um_sum_le (fun i hi => by
          by_cases hir : i = r
          · rw [um_up_eq (by omega)]; omega
          · rw [um_up_ne (by omega)]; exact (q9 i (by omega)).2.1)
        have h50 := um_switches50 (d := d) (w := w) (g := um_up f (12 + 6 * r) k) (fl := 0) (by rw [hu0]; exact q1)
        rw [hu0] at h50
        refine ⟨nI (um_sum (fun r' => um_up f (12 + 6 * r) k (12 + 6 * r')) (f 0)), nI (um_sum (fun r' => um_up f (12 + 6 * r) k (12 + 6 * r')) (f 0)), 0, lr, ld, w, d, um_up f (12 + 6 * r) k, um_up oi r k, ?_, ?_, hR, ?_, ?_, Or.inl ⟨rfl, rfl, nI_pos (by omega)⟩, fun q hq => um_up_ne (by omega), Or.inr ⟨r, hr, rfl, Or.inr ⟨k, hk, rfl, Or.inr ⟨e, rfl, rfl⟩⟩⟩⟩
        · rw [hsw ld lr]
          unfold ujX8_switchSensor_31
          simp -implicitDefEqProofs (disch := omega) only [um_l0, um_l1, um_l2, um_l3, um_l4, um_l5, um_l6, um_l7, um_l8, um_l9, um_l10, um_l11, um_l12, um_l16, um_l20, um_l23, um_l24, um_l31, um_l32, um_l35, um_l42, um_l43, um_l45, um_l48, um_l57, um_l58, um_l59, um_l60, um_l61, um_l63, um_l64, um_l68, um_l83, um_l99, um_l100, um_l101, um_l102, um_l103, um_l104, um_l105, um_l106, um_l107, um_l108, um_l109, um_l110, um_l111, um_l112, um_l113, um_l114, um_l115, um_l116, um_l117, um_l118, um_l126, um_l128, um_l130, um_l131, um_l132, um_l133, um_l134, um_l135, um_l180, um_l210, um_l211, um_l235, um_l1645, um_l1880, ↓um_nm, um_b1, um_b2, um_b3, um_b4, um_b5, um_b6, um_b7, um_b8, um_b9, um_b10, um_gd, um_bz0, um_bz1, um_m1, nI_add, pk_mul, um_sub_lt0, um_sub_gt0, um_sub_eq0, um_sub_le0, pk_sub, nI_ltI, nI_leI, nI_eq, nI_clamp, um_nv_at, um_nv_up, um_up_eq, um_up_ne, if_true, if_false, if_pos, if_neg, um_at, um_at0, um_put, um_add, s2, um_sum8, hsum]
        · unfold ufX9_switches ufX9_sets
          rw [um_isRope (by omega), hx]
          simp -implicitDefEqProofs (disch := omega) only [um_l0, um_l1, um_l2, um_l3, um_l4, um_l5, um_l6, um_l7, um_l8, um_l9, um_l10, um_l11, um_l12, um_l16, um_l20, um_l23, um_l24, um_l31, um_l32, um_l35, um_l42, um_l43, um_l45, um_l48, um_l57, um_l58, um_l59, um_l60, um_l61, um_l63, um_l64, um_l68, um_l83, um_l99, um_l100, um_l101, um_l102, um_l103, um_l104, um_l105, um_l106, um_l107, um_l108, um_l109, um_l110, um_l111, um_l112, um_l113, um_l114, um_l115, um_l116, um_l117, um_l118, um_l126, um_l128, um_l130, um_l131, um_l132, um_l133, um_l134, um_l135, um_l180, um_l210, um_l211, um_l235, um_l1645, um_l1880, ↓um_nm, um_b1, um_b2, um_b3, um_b4, um_b5, um_b6, um_b7, um_b8, um_b9, um_b10, um_gd, um_bz0, um_bz1, um_m1, nI_add, pk_mul, um_sub_lt0, um_sub_gt0, um_sub_eq0, um_sub_le0, pk_sub, nI_ltI, nI_leI, nI_eq, nI_clamp, um_nv_at, um_nv_up, um_up_eq, um_up_ne, if_true, if_false, if_pos, if_neg, um_at, um_at0, um_put, um_add, um_b2n_t, @um_isInK _ 1 2, hp, um_x_at, e1]
          exact h50
        · exact um_I_one hI1 hr (fun q h1 h2 h3 => um_up_ne h2) (by rw [um_up_ne (by omega)]; exact hq.1) (by rw [um_up_eq rfl]; omega) (by rw [um_up_ne (by omega)]; exact hq.2.2)
        · refine um_D_keep hT q2 q8 (fun q hq => um_up_ne (by omega)) (fun r' hr' => ?_)
          obtain ⟨s1, s2, s3, s4, s5, s6⟩ := hT.2.2.2 r' hr'
          by_cases e : r' = r
          · rw [e] at s1 s3 s4 s5 s6 ⊢
            rw [um_up_eq rfl]
            refine ⟨?_, ?_, ?_, ?_, ?_, ?_⟩ <;> simp (disch := omega) only [um_up_ne, um_up_eq, s1, s3, s4, s5, s6]
          · rw [um_up_ne e]
            refine ⟨?_, ?_, ?_, ?_, ?_, ?_⟩ <;> simp (disch := omega) only [um_up_ne, um_up_eq, s1, s2, s3, s4, s5, s6]
theorem um_o_oil {x m : Int32} (hI : um_I f c) (hT : um_D f la ph pr ps rd rh rr rs rg oa od oi om op ou) (hc : c + 1 ≤ 2 ^ 20) (hR : um_RS lr ld w d) :
    ∃ (y z fl lr' ld' w' d' : Int32) (f' ou' : Nat → Nat), ufX8_oilRope ld lr (nI (f 0)) (um_nv ou) x m = some (y, ld', lr', um_nv ou') ∧ ufX9_oils d 0 w (um_nv f) x m = some (z, d', fl, w', um_nv f') ∧
      um_RS lr' ld' w' d' ∧ um_I f' (c + 1) ∧ um_D f' la ph pr ps rd rh rr rs rg oa od oi om op ou' ∧ um_E y z fl f f' ∧ (∀ q, (q < 11 ∨ 83 ≤ q) → f' q = f q) ∧ uq_oil f f' x m y := by
  have hI0 := hI
  have hI1 := um_I_up (Nat.le_succ c) hc hI
  obtain ⟨q0, q1, q2, q3, q4, q5, q6, q7, q8, q9, q10, q11, q12, q13, q14, q15⟩ := hI
  cases hx : um_in x (f 0)
  · refine ⟨-1011, -1011, -1011, lr, ld, w, d, f, ou, ?_, ?_, hR, hI1, hT, Or.inr ⟨rfl, um_neg1011, rfl⟩, fun _ _ => rfl, Or.inl ⟨hx, rfl, rfl⟩⟩
    · unfold ufX8_oilRope
      rw [um_has5 (by omega), hx]
      rfl
    · unfold ufX9_oils
      rw [um_isRope (by omega), hx]
      rfl
  · obtain ⟨r, hr, rfl⟩ := um_in_of (by omega) hx
    obtain ⟨s1, s2, s3, s4, s5, s6⟩ := hT.2.2.2 r (by omega)
    have hq := q9 r (by omega)
    have e1 : 11 + 6 * r + 2 = 13 + 6 * r := by omega
    by_cases h1 : m < 1
    · refine ⟨-1012, -1012, -1012, lr, ld, w, d, f, ou, ?_, ?_, hR, hI1, hT, Or.inr ⟨rfl, um_neg1012, rfl⟩, fun _ _ => rfl, Or.inr ⟨r, hr, rfl, Or.inl ⟨Or.inl h1, rfl, rfl⟩⟩⟩
      · unfold ufX8_oilRope
        rw [um_has5 (by omega), hx, um_b1, if_neg (by decide), if_pos h1]
      · unfold ufX9_oils ufX9_isIn
        rw [um_isRope (by omega), hx, um_b1, if_neg (by decide), if_pos h1]
        rfl
    · by_cases h9 : 9 < m
      · refine ⟨-1012, -1012, -1012, lr, ld, w, d, f, ou, ?_, ?_, hR, hI1, hT, Or.inr ⟨rfl, um_neg1012, rfl⟩, fun _ _ => rfl, Or.inr ⟨r, hr, rfl, Or.inl ⟨Or.inr h9, rfl, rfl⟩⟩⟩
        · unfold ufX8_oilRope
          rw [um_has5 (by omega), hx, um_b1, if_neg (by decide), if_neg h1, if_neg (Int32.not_le.mpr h9)]
        · unfold ufX9_oils ufX9_isIn
          rw [um_isRope (by omega), hx, um_b1, if_neg (by decide), if_neg h1, if_pos h9]
          rfl
      · obtain ⟨k, hk1, hk9, rfl⟩ : ∃ k, 1 ≤ k ∧ k ≤ 9 ∧ m = nI k := by
          rcases um_19 (x := m) with e | ⟨_, h⟩
          · unfold ufX9_isIn at e
            rw [if_neg h1, if_neg h9] at e
            exact absurd (Option.some.inj e) (by decide)
          · exact h
        have eM : ufX9_isIn (nI k) (nI 1) (nI 9) = some (nI 1) := by
          unfold ufX9_isIn
          simp -implicitDefEqProofs (disch := omega) only [um_l0, um_l1, um_l2, um_l3, um_l4, um_l5, um_l6, um_l7, um_l8, um_l9, um_l10, um_l11, um_l12, um_l16, um_l20, um_l23, um_l24, um_l31, um_l32, um_l35, um_l42, um_l43, um_l45, um_l48, um_l57, um_l58, um_l59, um_l60, um_l61, um_l63, um_l64, um_l68, um_l83, um_l99, um_l100, um_l101, um_l102, um_l103, um_l104, um_l105, um_l106, um_l107, um_l108, um_l109, um_l110, um_l111, um_l112, um_l113, um_l114, um_l115, um_l116, um_l117, um_l118, um_l126, um_l128, um_l130, um_l131, um_l132, um_l133, um_l134, um_l135, um_l180, um_l210, um_l211, um_l235, um_l1645, um_l1880, ↓um_nm, um_b1, um_b2, um_b3, um_b4, um_b5, um_b6, um_b7, um_b8, um_b9, um_b10, um_gd, um_bz0, um_bz1, um_m1, nI_add, pk_mul, um_sub_lt0, um_sub_gt0, um_sub_eq0, um_sub_le0, pk_sub, nI_ltI, nI_leI, nI_eq, nI_clamp, um_nv_at, um_nv_up, um_up_eq, um_up_ne, if_true, if_false, if_pos, if_neg, um_at, um_at0, um_put, um_add]
        by_cases e : k ≤ f (13 + 6 * r)
        · refine ⟨nI (f (13 + 6 * r) - k), nI (f (13 + 6 * r) - k), 0, lr, ld, w, d, um_up f (13 + 6 * r) (f (13 + 6 * r) - k), um_up ou r (f (13 + 6 * r) - k), ?_, ?_, hR, ?_, ?_, Or.inl ⟨rfl, rfl, nI_pos (by omega)⟩, fun q hq => um_up_ne (by omega), Or.inr ⟨r, hr, rfl, Or.inr ⟨k, hk1, hk9, rfl, Or.inr ⟨e, rfl, rfl⟩⟩⟩⟩
          · unfold ufX8_oilRope
            rw [um_has5 (by omega), hx]
            simp -implicitDefEqProofs (disch := omega) only [um_l0, um_l1, um_l2, um_l3, um_l4, um_l5, um_l6, um_l7, um_l8, um_l9, um_l10, um_l11, um_l12, um_l16, um_l20, um_l23, um_l24, um_l31, um_l32, um_l35, um_l42, um_l43, um_l45, um_l48, um_l57, um_l58, um_l59, um_l60, um_l61, um_l63, um_l64, um_l68, um_l83, um_l99, um_l100, um_l101, um_l102, um_l103, um_l104, um_l105, um_l106, um_l107, um_l108, um_l109, um_l110, um_l111, um_l112, um_l113, um_l114, um_l115, um_l116, um_l117, um_l118, um_l126, um_l128, um_l130, um_l131, um_l132, um_l133, um_l134, um_l135, um_l180, um_l210, um_l211, um_l235, um_l1645, um_l1880, ↓um_nm, um_b1, um_b2, um_b3, um_b4, um_b5, um_b6, um_b7, um_b8, um_b9, um_b10, um_gd, um_bz0, um_bz1, um_m1, nI_add, pk_mul, um_sub_lt0, um_sub_gt0, um_sub_eq0, um_sub_le0, pk_sub, nI_ltI, nI_leI, nI_eq, nI_clamp, um_nv_at, um_nv_up, um_up_eq, um_up_ne, if_true, if_false, if_pos, if_neg, um_at, um_at0, um_put, um_add, um_b2n_t, s3]
          · unfold ufX9_oils
            rw [um_isRope (by omega), hx]
            simp -implicitDefEqProofs (disch := omega) only [um_l0, um_l1, um_l2, um_l3, um_l4, um_l5, um_l6, um_l7, um_l8, um_l9, um_l10, um_l11, um_l12, um_l16, um_l20, um_l23, um_l24, um_l31, um_l32, um_l35, um_l42, um_l43, um_l45, um_l48, um_l57, um_l58, um_l59, um_l60, um_l61, um_l63, um_l64, um_l68, um_l83, um_l99, um_l100, um_l101, um_l102, um_l103, um_l104, um_l105, um_l106, um_l107, um_l108, um_l109, um_l110, um_l111, um_l112, um_l113, um_l114, um_l115, um_l116, um_l117, um_l118, um_l126, um_l128, um_l130, um_l131, um_l132, um_l133, um_l134, um_l135, um_l180, um_l210, um_l211, um_l235, um_l1645, um_l1880, ↓um_nm, um_b1, um_b2, um_b3, um_b4, um_b5, um_b6, um_b7, um_b8, um_b9, um_b10, um_gd, um_bz0, um_bz1, um_m1, nI_add, pk_mul, um_sub_lt0, um_sub_gt0, um_sub_eq0, um_sub_le0, pk_sub, nI_ltI, nI_leI, nI_eq, nI_clamp, um_nv_at, um_nv_up, um_up_eq, um_up_ne, if_true, if_false, if_pos, if_neg, um_at, um_at0, um_put, um_add, um_b2n_t, eM, um_x_at, e1]
          · exact um_I_one hI1 hr (fun q h1 h2 h3 => um_up_ne h3) (by rw [um_up_ne (by omega)]; exact hq.1) (by rw [um_up_ne (by omega)]; exact hq.2.1) (by rw [um_up_eq rfl]; omega)
          · refine um_D_keep hT q2 q8 (fun q hq => um_up_ne (by omega)) (fun r' hr' => ?_)
            obtain ⟨s1, s2, s3, s4, s5, s6⟩ := hT.2.2.2 r' hr'
            by_cases e : r' = r
            · rw [e] at s1 s2 s4 s5 s6 ⊢
              rw [um_up_eq rfl]
              refine ⟨?_, ?_, ?_, ?_, ?_, ?_⟩ <;> simp (disch := omega) only [um_up_ne, um_up_eq, s1, s2, s4, s5, s6]
            · rw [um_up_ne e]
              refine ⟨?_, ?_, ?_, ?_, ?_, ?_⟩ <;> simp (disch := omega) only [um_up_ne, um_up_eq, s1, s2, s3, s4, s5, s6]
        · refine ⟨-1014, -1014, -1014, 5, nI (f (13 + 6 * r)), 5, nI (f (13 + 6 * r)), f, ou, ?_, ?_, um_RS_put (by decide), hI1, hT, Or.inr ⟨rfl, um_neg1014, rfl⟩, fun _ _ => rfl, Or.inr ⟨r, hr, rfl, Or.inr ⟨k, hk1, hk9, rfl, Or.inl ⟨e, rfl, rfl⟩⟩⟩⟩
          · unfold ufX8_oilRope ufX8_refuse
            rw [um_has5 (by omega), hx]
            simp -implicitDefEqProofs (disch := omega) only [um_l0, um_l1, um_l2, um_l3, um_l4, um_l5, um_l6, um_l7, um_l8, um_l9, um_l10, um_l11, um_l12, um_l16, um_l20, um_l23, um_l24, um_l31, um_l32, um_l35, um_l42, um_l43, um_l45, um_l48, um_l57, um_l58, um_l59, um_l60, um_l61, um_l63, um_l64, um_l68, um_l83, um_l99, um_l100, um_l101, um_l102, um_l103, um_l104, um_l105, um_l106, um_l107, um_l108, um_l109, um_l110, um_l111, um_l112, um_l113, um_l114, um_l115, um_l116, um_l117, um_l118, um_l126, um_l128, um_l130, um_l131, um_l132, um_l133, um_l134, um_l135, um_l180, um_l210, um_l211, um_l235, um_l1645, um_l1880, ↓um_nm, um_b1, um_b2, um_b3, um_b4, um_b5, um_b6, um_b7, um_b8, um_b9, um_b10, um_gd, um_bz0, um_bz1, um_m1, nI_add, pk_mul, um_sub_lt0, um_sub_gt0, um_sub_eq0, um_sub_le0, pk_sub, nI_ltI, nI_leI, nI_eq, nI_clamp, um_nv_at, um_nv_up, um_up_eq, um_up_ne, if_true, if_false, if_pos, if_neg, um_at, um_at0, um_put, um_add, um_b2n_t, s3]
          · unfold ufX9_oils ufX9_refuses ufX9_fail
            rw [um_isRope (by omega), hx]
            simp -implicitDefEqProofs (disch := omega) only [um_l0, um_l1, um_l2, um_l3, um_l4, um_l5, um_l6, um_l7, um_l8, um_l9, um_l10, um_l11, um_l12, um_l16, um_l20, um_l23, um_l24, um_l31, um_l32, um_l35, um_l42, um_l43, um_l45, um_l48, um_l57, um_l58, um_l59, um_l60, um_l61, um_l63, um_l64, um_l68, um_l83, um_l99, um_l100, um_l101, um_l102, um_l103, um_l104, um_l105, um_l106, um_l107, um_l108, um_l109, um_l110, um_l111, um_l112, um_l113, um_l114, um_l115, um_l116, um_l117, um_l118, um_l126, um_l128, um_l130, um_l131, um_l132, um_l133, um_l134, um_l135, um_l180, um_l210, um_l211, um_l235, um_l1645, um_l1880, ↓um_nm, um_b1, um_b2, um_b3, um_b4, um_b5, um_b6, um_b7, um_b8, um_b9, um_b10, um_gd, um_bz0, um_bz1, um_m1, nI_add, pk_mul, um_sub_lt0, um_sub_gt0, um_sub_eq0, um_sub_le0, pk_sub, nI_ltI, nI_leI, nI_eq, nI_clamp, um_nv_at, um_nv_up, um_up_eq, um_up_ne, if_true, if_false, if_pos, if_neg, um_at, um_at0, um_put, um_add, um_b2n_t, eM, um_x_at, e1]
theorem um_o_pull {x h s : Int32} (hI : um_I f c) (hT : um_D f la ph pr ps rd rh rr rs rg oa od oi om op ou) (hc : c + 1 ≤ 2 ^ 20) (hR : um_RS lr ld w d) :
    ∃ (y z fl lr' ld' w' d' : Int32) (f' ph' pr' ps' : Nat → Nat), ufX8_letWait ld lr (nI (f 4)) (nI (f 2)) (nI (f 1)) (um_nv ph) (um_nv pr) (um_nv ps) (nI (f 0)) x h s = some (y, ld', lr', nI (f' 4), nI (f' 1), um_nv ph', um_nv pr', um_nv ps') ∧ ufX9_waits d 0 w (um_nv f) x h s = some (z, d', fl, w', um_nv f') ∧
      um_RS lr' ld' w' d' ∧ um_I f' (c + 1) ∧ um_D f' la ph' pr' ps' rd rh rr rs rg oa od oi om op ou ∧ um_E y z fl f f' ∧ (∀ q, q ≠ 1 → q ≠ 4 → (q < 83 ∨ 131 ≤ q) → f' q = f q) ∧ uq_pull f f' x h s y := by
  have hI0 := hI
  have hI1 := um_I_up (Nat.le_succ c) hc hI
  obtain ⟨q0, q1, q2, q3, q4, q5, q6, q7, q8, q9, q10, q11, q12, q13, q14, q15⟩ := hI
  cases hx : um_in x (f 0)
  · refine ⟨-1011, -1011, -1011, lr, ld, w, d, f, ph, pr, ps, ?_, ?_, hR, hI1, hT, Or.inr ⟨rfl, um_neg1011, rfl⟩, fun _ _ _ _ => rfl, Or.inl ⟨hx, rfl, rfl⟩⟩
    · unfold ufX8_letWait
      rw [um_has5 (by omega), hx]
      rfl
    · unfold ufX9_waits
      rw [um_isRope (by omega), hx]
      rfl
  · obtain ⟨r, hr, rfl⟩ := um_in_of (by omega) hx
    cases hh : um_in h 24
    · refine ⟨-1012, -1012, -1012, lr, ld, w, d, f, ph, pr, ps, ?_, ?_, hR, hI1, hT, Or.inr ⟨rfl, um_neg1012, rfl⟩, fun _ _ _ _ => rfl, Or.inr ⟨r, hr, rfl, Or.inl ⟨hh, rfl, rfl⟩⟩⟩
      · unfold ufX8_letWait
        rw [um_has5 (by omega), hx, um_isHour8, hh]
        rfl
      · unfold ufX9_waits
        rw [um_isRope (by omega), hx]
        simp -implicitDefEqProofs (disch := omega) only [um_l0, um_l1, um_l2, um_l3, um_l4, um_l5, um_l6, um_l7, um_l8, um_l9, um_l10, um_l11, um_l12, um_l16, um_l20, um_l23, um_l24, um_l31, um_l32, um_l35, um_l42, um_l43, um_l45, um_l48, um_l57, um_l58, um_l59, um_l60, um_l61, um_l63, um_l64, um_l68, um_l83, um_l99, um_l100, um_l101, um_l102, um_l103, um_l104, um_l105, um_l106, um_l107, um_l108, um_l109, um_l110, um_l111, um_l112, um_l113, um_l114, um_l115, um_l116, um_l117, um_l118, um_l126, um_l128, um_l130, um_l131, um_l132, um_l133, um_l134, um_l135, um_l180, um_l210, um_l211, um_l235, um_l1645, um_l1880, ↓um_nm, um_b1, um_b2, um_b3, um_b4, um_b5, um_b6, um_b7, um_b8, um_b9, um_b10, um_gd, um_bz0, um_bz1, um_m1, nI_add, pk_mul, um_sub_lt0, um_sub_gt0, um_sub_eq0, um_sub_le0, pk_sub, nI_ltI, nI_leI, nI_eq, nI_clamp, um_nv_at, um_nv_up, um_up_eq, um_up_ne, if_true, if_false, if_pos, if_neg, um_at, um_at0, um_put, um_add, um_b2n_t, @um_isInK h 23 24, hh, um_b2n_f]
        rfl
    · obtain ⟨t, ht, rfl⟩ := um_in_of (by decide) hh
      rcases um_19 (x := s) with e9 | ⟨e9, k, hk1, hk9, rfl⟩
      · refine ⟨-1012, -1012, -1012, lr, ld, w, d, f, ph, pr, ps, ?_, ?_, hR, hI1, hT, Or.inr ⟨rfl, um_neg1012, rfl⟩, fun _ _ _ _ => rfl, Or.inr ⟨r, hr, rfl, Or.inr ⟨t, ht, rfl, Or.inl ⟨e9, rfl, rfl⟩⟩⟩⟩
        · unfold ufX8_letWait
          rw [um_has5 (by omega), hx, um_isHour8, hh, um_isStr, e9]
          rfl
        · have e9' : ufX9_isIn s (nI 1) (nI 9) = some (nI 0) := e9
          unfold ufX9_waits
          rw [um_isRope (by omega), hx]
          simp -implicitDefEqProofs (disch := omega) only [um_l0, um_l1, um_l2, um_l3, um_l4, um_l5, um_l6, um_l7, um_l8, um_l9, um_l10, um_l11, um_l12, um_l16, um_l20, um_l23, um_l24, um_l31, um_l32, um_l35, um_l42, um_l43, um_l45, um_l48, um_l57, um_l58, um_l59, um_l60, um_l61, um_l63, um_l64, um_l68, um_l83, um_l99, um_l100, um_l101, um_l102, um_l103, um_l104, um_l105, um_l106, um_l107, um_l108, um_l109, um_l110, um_l111, um_l112, um_l113, um_l114, um_l115, um_l116, um_l117, um_l118, um_l126, um_l128, um_l130, um_l131, um_l132, um_l133, um_l134, um_l135, um_l180, um_l210, um_l211, um_l235, um_l1645, um_l1880, ↓um_nm, um_b1, um_b2, um_b3, um_b4, um_b5, um_b6, um_b7, um_b8, um_b9, um_b10, um_gd, um_bz0, um_bz1, um_m1, nI_add, pk_mul, um_sub_lt0, um_sub_gt0, um_sub_eq0, um_sub_le0, pk_sub, nI_ltI, nI_leI, nI_eq, nI_clamp, um_nv_at, um_nv_up, um_up_eq, um_up_ne, if_true, if_false, if_pos, if_neg, um_at, um_at0, um_put, um_add, um_b2n_t, @um_isInK _ 23 24, hh, e9']
          rfl
      · have e9' : ufX9_isIn (nI k) (nI 1) (nI 9) = some (nI 1) := e9
        by_cases hp : t < f 2
        · refine ⟨-1014, -1014, -1014, 2, nI (f 2), 2, nI (f 2), f, ph, pr, ps, ?_, ?_, um_RS_put (by decide), hI1, hT, Or.inr ⟨rfl, um_neg1014, rfl⟩, fun _ _ _ _ => rfl, Or.inr ⟨r, hr, rfl, Or.inr ⟨t, ht, rfl, Or.inr ⟨k, hk1, hk9, rfl, Or.inl ⟨Or.inl hp, rfl, rfl⟩⟩⟩⟩⟩
          · unfold ufX8_letWait ufX8_refuse
            rw [um_has5 (by omega), hx, um_isHour8, hh, um_isStr]
            simp -implicitDefEqProofs (disch := omega) only [um_l0, um_l1, um_l2, um_l3, um_l4, um_l5, um_l6, um_l7, um_l8, um_l9, um_l10, um_l11, um_l12, um_l16, um_l20, um_l23, um_l24, um_l31, um_l32, um_l35, um_l42, um_l43, um_l45, um_l48, um_l57, um_l58, um_l59, um_l60, um_l61, um_l63, um_l64, um_l68, um_l83, um_l99, um_l100, um_l101, um_l102, um_l103, um_l104, um_l105, um_l106, um_l107, um_l108, um_l109, um_l110, um_l111, um_l112, um_l113, um_l114, um_l115, um_l116, um_l117, um_l118, um_l126, um_l128, um_l130, um_l131, um_l132, um_l133, um_l134, um_l135, um_l180, um_l210, um_l211, um_l235, um_l1645, um_l1880, ↓um_nm, um_b1, um_b2, um_b3, um_b4, um_b5, um_b6, um_b7, um_b8, um_b9, um_b10, um_gd, um_bz0, um_bz1, um_m1, nI_add, pk_mul, um_sub_lt0, um_sub_gt0, um_sub_eq0, um_sub_le0, pk_sub, nI_ltI, nI_leI, nI_eq, nI_clamp, um_nv_at, um_nv_up, um_up_eq, um_up_ne, if_true, if_false, if_pos, if_neg, um_at, um_at0, um_put, um_add, um_b2n_t, e9']
          · unfold ufX9_waits ufX9_refuses ufX9_fail
            rw [um_isRope (by omega), hx]
            simp -implicitDefEqProofs (disch := omega) only [um_l0, um_l1, um_l2, um_l3, um_l4, um_l5, um_l6, um_l7, um_l8, um_l9, um_l10, um_l11, um_l12, um_l16, um_l20, um_l23, um_l24, um_l31, um_l32, um_l35, um_l42, um_l43, um_l45, um_l48, um_l57, um_l58, um_l59, um_l60, um_l61, um_l63, um_l64, um_l68, um_l83, um_l99, um_l100, um_l101, um_l102, um_l103, um_l104, um_l105, um_l106, um_l107, um_l108, um_l109, um_l110, um_l111, um_l112, um_l113, um_l114, um_l115, um_l116, um_l117, um_l118, um_l126, um_l128, um_l130, um_l131, um_l132, um_l133, um_l134, um_l135, um_l180, um_l210, um_l211, um_l235, um_l1645, um_l1880, ↓um_nm, um_b1, um_b2, um_b3, um_b4, um_b5, um_b6, um_b7, um_b8, um_b9, um_b10, um_gd, um_bz0, um_bz1, um_m1, nI_add, pk_mul, um_sub_lt0, um_sub_gt0, um_sub_eq0, um_sub_le0, pk_sub, nI_ltI, nI_leI, nI_eq, nI_clamp, um_nv_at, um_nv_up, um_up_eq, um_up_ne, if_true, if_false, if_pos, if_neg, um_at, um_at0, um_put, um_add, um_b2n_t, @um_isInK _ 23 24, hh, e9']
        · by_cases h16 : f 1 = 16
          · refine ⟨-1014, -1014, -1014, 1, 16, 1, 16, f, ph, pr, ps, ?_, ?_, um_RS_put (by decide), hI1, hT, Or.inr ⟨rfl, um_neg1014, rfl⟩, fun _ _ _ _ => rfl, Or.inr ⟨r, hr, rfl, Or.inr ⟨t, ht, rfl, Or.inr ⟨k, hk1, hk9, rfl, Or.inl ⟨Or.inr h16, rfl, rfl⟩⟩⟩⟩⟩
            · unfold ufX8_letWait ufX8_refuse
              rw [um_has5 (by omega), hx, um_isHour8, hh, um_isStr]
              simp -implicitDefEqProofs (disch := omega) only [um_l0, um_l1, um_l2, um_l3, um_l4, um_l5, um_l6, um_l7, um_l8, um_l9, um_l10, um_l11, um_l12, um_l16, um_l20, um_l23, um_l24, um_l31, um_l32, um_l35, um_l42, um_l43, um_l45, um_l48, um_l57, um_l58, um_l59, um_l60, um_l61, um_l63, um_l64, um_l68, um_l83, um_l99, um_l100, um_l101, um_l102, um_l103, um_l104, um_l105, um_l106, um_l107, um_l108, um_l109, um_l110, um_l111, um_l112, um_l113, um_l114, um_l115, um_l116, um_l117, um_l118, um_l126, um_l128, um_l130, um_l131, um_l132, um_l133, um_l134, um_l135, um_l180, um_l210, um_l211, um_l235, um_l1645, um_l1880, ↓um_nm, um_b1, um_b2, um_b3, um_b4, um_b5, um_b6, um_b7, um_b8, um_b9, um_b10, um_gd, um_bz0, um_bz1, um_m1, nI_add, pk_mul, um_sub_lt0, um_sub_gt0, um_sub_eq0, um_sub_le0, pk_sub, nI_ltI, nI_leI, nI_eq, nI_clamp, um_nv_at, um_nv_up, um_up_eq, um_up_ne, if_true, if_false, if_pos, if_neg, um_at, um_at0, um_put, um_add, um_b2n_t, e9', h16]
            · unfold ufX9_waits ufX9_refuses ufX9_fail
              rw [um_isRope (by omega), hx]
              simp -implicitDefEqProofs (disch := omega) only [um_l0, um_l1, um_l2, um_l3, um_l4, um_l5, um_l6, um_l7, um_l8, um_l9, um_l10, um_l11, um_l12, um_l16, um_l20, um_l23, um_l24, um_l31, um_l32, um_l35, um_l42, um_l43, um_l45, um_l48, um_l57, um_l58, um_l59, um_l60, um_l61, um_l63, um_l64, um_l68, um_l83, um_l99, um_l100, um_l101, um_l102, um_l103, um_l104, um_l105, um_l106, um_l107, um_l108, um_l109, um_l110, um_l111, um_l112, um_l113, um_l114, um_l115, um_l116, um_l117, um_l118, um_l126, um_l128, um_l130, um_l131, um_l132, um_l133, um_l134, um_l135, um_l180, um_l210, um_l211, um_l235, um_l1645, um_l1880, ↓um_nm, um_b1, um_b2, um_b3, um_b4, um_b5, um_b6, um_b7, um_b8, um_b9, um_b10, um_gd, um_bz0, um_bz1, um_m1, nI_add, pk_mul, um_sub_lt0, um_sub_gt0, um_sub_eq0, um_sub_le0, pk_sub, nI_ltI, nI_leI, nI_eq, nI_clamp, um_nv_at, um_nv_up, um_up_eq, um_up_ne, if_true, if_false, if_pos, if_neg, um_at, um_at0, um_put, um_add, um_b2n_t, @um_isInK _ 23 24, hh, e9', h16]
          · have hb : ∀ k, k < f 1 → f (83 + 3 * k) < 12 ∧ f (84 + 3 * k) < 24 ∧ f (85 + 3 * k) < 10 := fun k hk => by
              have := q14 k hk
              omega
            have hle := um_pos_le (f := f) (r := r) (h := t) (s := k) (f 1)
            have eW := um_waits89 (d := d) (a := 0) (w := w) (f := f) (r := r) (h := t) (s := k) (by omega) (by omega) ht (by omega) hb (f 1) ub_F (Nat.le_refl _) (by unfold ub_F; omega)
            rw [um_sh_0] at eW
            have eC := um_insert (f := f) (ph := ph) (pr := pr) (ps := ps) (n := f 1) (r := r) (h := t) (s := k) (by omega) (by omega) ht (by omega) hT.1 hb (nI (f 1 + 1)) (f 1) ub_F (Nat.le_refl _) (by unfold ub_F; omega)
            have es : ∀ a : Nat → Nat, um_sh1 a (f 1) (f 1) = a := fun a => um_mix_0
            rw [es, es, es] at eC
            have g1 : um_insF f (um_pos f r t k (f 1)) r t k 1 = f 1 + 1 := by
              unfold um_insF
              rw [um_up_ne (by omega), um_up_eq rfl]
            have g4 : um_insF f (um_pos f r t k (f 1)) r t k 4 = f 4 + 1 := by
              unfold um_insF
              rw [um_up_eq rfl]
            refine ⟨nI (um_pos f r t k (f 1)), nI (um_pos f r t k (f 1)), 0, lr, ld, w, d, um_insF f (um_pos f r t k (f 1)) r t k, um_up (um_sh1 ph (um_pos f r t k (f 1)) (f 1)) (um_pos f r t k (f 1)) t, um_up (um_sh1 pr (um_pos f r t k (f 1)) (f 1)) (um_pos f r t k (f 1)) r, um_up (um_sh1 ps (um_pos f r t k (f 1)) (f 1)) (um_pos f r t k (f 1)) k, ?_, ?_, hR, ?_, ?_, Or.inl ⟨rfl, rfl, nI_pos (by omega)⟩, fun q h1 h4 hq => um_insF_at hle (by omega) ⟨h1, h4, hq⟩, Or.inr ⟨r, hr, rfl, Or.inr ⟨t, ht, rfl, Or.inr ⟨k, hk1, hk9, rfl, Or.inr ⟨hp, h16, rfl, rfl⟩⟩⟩⟩⟩
            · rw [g1, g4]
              unfold ufX8_letWait ufX4_insert
              rw [um_has5 (by omega), hx, um_isHour8, hh, um_isStr]
              simp -implicitDefEqProofs (disch := omega) only [um_l0, um_l1, um_l2, um_l3, um_l4, um_l5, um_l6, um_l7, um_l8, um_l9, um_l10, um_l11, um_l12, um_l16, um_l20, um_l23, um_l24, um_l31, um_l32, um_l35, um_l42, um_l43, um_l45, um_l48, um_l57, um_l58, um_l59, um_l60, um_l61, um_l63, um_l64, um_l68, um_l83, um_l99, um_l100, um_l101, um_l102, um_l103, um_l104, um_l105, um_l106, um_l107, um_l108, um_l109, um_l110, um_l111, um_l112, um_l113, um_l114, um_l115, um_l116, um_l117, um_l118, um_l126, um_l128, um_l130, um_l131, um_l132, um_l133, um_l134, um_l135, um_l180, um_l210, um_l211, um_l235, um_l1645, um_l1880, ↓um_nm, um_b1, um_b2, um_b3, um_b4, um_b5, um_b6, um_b7, um_b8, um_b9, um_b10, um_gd, um_bz0, um_bz1, um_m1, nI_add, pk_mul, um_sub_lt0, um_sub_gt0, um_sub_eq0, um_sub_le0, pk_sub, nI_ltI, nI_leI, nI_eq, nI_clamp, um_nv_at, um_nv_up, um_up_eq, um_up_ne, if_true, if_false, if_pos, if_neg, um_at, um_at0, um_put, um_add, um_b2n_t, e9', eC]
            · unfold ufX9_waits
              rw [um_isRope (by omega), hx]
              simp -implicitDefEqProofs (disch := omega) only [um_l0, um_l1, um_l2, um_l3, um_l4, um_l5, um_l6, um_l7, um_l8, um_l9, um_l10, um_l11, um_l12, um_l16, um_l20, um_l23, um_l24, um_l31, um_l32, um_l35, um_l42, um_l43, um_l45, um_l48, um_l57, um_l58, um_l59, um_l60, um_l61, um_l63, um_l64, um_l68, um_l83, um_l99, um_l100, um_l101, um_l102, um_l103, um_l104, um_l105, um_l106, um_l107, um_l108, um_l109, um_l110, um_l111, um_l112, um_l113, um_l114, um_l115, um_l116, um_l117, um_l118, um_l126, um_l128, um_l130, um_l131, um_l132, um_l133, um_l134, um_l135, um_l180, um_l210, um_l211, um_l235, um_l1645, um_l1880, ↓um_nm, um_b1, um_b2, um_b3, um_b4, um_b5, um_b6, um_b7, um_b8, um_b9, um_b10, um_gd, um_bz0, um_bz1, um_m1, nI_add, pk_mul, um_sub_lt0, um_sub_gt0, um_sub_eq0, um_sub_le0, pk_sub, nI_ltI, nI_leI, nI_eq, nI_clamp, um_nv_at, um_nv_up, um_up_eq, um_up_ne, if_true, if_false, if_pos, if_neg, um_at, um_at0, um_put, um_add, um_b2n_t, @um_isInK _ 23 24, hh, e9']
              exact eW
            · exact um_I_ins hI0 hc hle (by omega) hr ht hk1 hk9
            · obtain ⟨hPL, hAN, hHD, hRP⟩ := hT
              have A : ∀ q, q ≠ 1 → q ≠ 4 → (q < 83 ∨ 131 ≤ q) → um_insF f (um_pos f r t k (f 1)) r t k q = f q := fun q h1 h4 hq => um_insF_at hle (by omega) ⟨h1, h4, hq⟩
              have PL := um_insF_PL (r := r) (h := t) (s := k) hPL hle (by omega)
              generalize um_insF f (um_pos f r t k (f 1)) r t k = g at *
              have a9 := A 9 (by omega) (by omega) (by omega)
              refine ⟨PL, ⟨hAN.1, fun j hj => ?_⟩, fun j hj => ?_, fun j hj => ?_⟩
              · rw [A (131 + 4 * j) (by omega) (by omega) (by omega), A (132 + 4 * j) (by omega) (by omega) (by omega), A (133 + 4 * j) (by omega) (by omega) (by omega), A (134 + 4 * j) (by omega) (by omega) (by omega)]
                exact hAN.2 j (by omega)
              · rw [A (211 + j) (by omega) (by omega) (by omega)]
                exact hHD j hj
              · rw [A (11 + 6 * j) (by omega) (by omega) (by omega), A (12 + 6 * j) (by omega) (by omega) (by omega), A (13 + 6 * j) (by omega) (by omega) (by omega), A (14 + 6 * j) (by omega) (by omega) (by omega), A (15 + 6 * j) (by omega) (by omega) (by omega), A (16 + 6 * j) (by omega) (by omega) (by omega)]
                exact hRP j hj
theorem um_o_cancel {x : Int32} (hI : um_I f c) (hT : um_D f la ph pr ps rd rh rr rs rg oa od oi om op ou) (hc : c + 1 ≤ 2 ^ 20) (hR : um_RS lr ld w d) :
    ∃ (y z fl lr' ld' w' d' : Int32) (f' ph' pr' ps' : Nat → Nat), ufX8_takeAway ld lr (nI (f 8)) (nI (f 1)) (um_nv ph) (um_nv pr) (um_nv ps) (nI (f 0)) x = some (y, ld', lr', nI (f' 8), nI (f' 1), um_nv ph', um_nv pr', um_nv ps') ∧ ufX9_cancels d 0 w (um_nv f) x = some (z, d', fl, w', um_nv f') ∧
      um_RS lr' ld' w' d' ∧ um_I f' (c + 1) ∧ um_D f' la ph' pr' ps' rd rh rr rs rg oa od oi om op ou ∧ um_E y z fl f f' ∧ (∀ q, q ≠ 1 → q ≠ 8 → (q < 83 ∨ 131 ≤ q) → f' q = f q) ∧ uq_cancel f f' x y := by
  have hI0 := hI
  have hI1 := um_I_up (Nat.le_succ c) hc hI
  obtain ⟨q0, q1, q2, q3, q4, q5, q6, q7, q8, q9, q10, q11, q12, q13, q14, q15⟩ := hI
  cases hx : um_in x (f 0)
  · refine ⟨-1011, -1011, -1011, lr, ld, w, d, f, ph, pr, ps, ?_, ?_, hR, hI1, hT, Or.inr ⟨rfl, um_neg1011, rfl⟩, fun _ _ _ _ => rfl, Or.inl ⟨hx, rfl, rfl⟩⟩
    · unfold ufX8_takeAway
      rw [um_has5 (by omega), hx]
      rfl
    · unfold ufX9_cancels
      rw [um_isRope (by omega), hx]
      rfl
  · obtain ⟨r, hr, rfl⟩ := um_in_of (by omega) hx
    obtain ⟨hPL, hAN, hHD, hRP⟩ := hT
    have hb : ∀ k, k < f 1 → f (83 + 3 * k) < 12 := fun k hk => by have := (q14 k hk).1; omega
    have hb8 : ∀ k, k < f 1 → pr k < 12 := fun k hk => by rw [(hPL k hk).1]; exact hb k hk
    have hbs : ∀ k, k < f 1 → f (83 + 3 * k) < 2 ^ 31 := fun k hk => by have := hb k hk; omega
    have e2 : um_cnt (fun k => decide (pr k = r)) (f 1) = um_cnt (fun k => decide (f (83 + 3 * k) = r)) (f 1) := um_cnt_congr (fun k hk => by rw [(hPL k hk).1])
    have eN := um_numberOf q2 (show r < 12 by omega) hb8
    rw [e2] at eN
    have eW := um_waitingOf (f := f) (r := r) q2 (by omega) hbs
    have hcl : um_cnt (fun k => decide (f (83 + 3 * k) = r)) (f 1) ≤ f 1 := um_cnt_le
    by_cases h0 : um_cnt (fun k => decide (f (83 + 3 * k) = r)) (f 1) = 0
    · refine ⟨-1014, -1014, -1014, 6, nI (f 1), 6, nI (f 1), f, ph, pr, ps, ?_, ?_, um_RS_put (by decide), hI1, ⟨hPL, hAN, hHD, hRP⟩, Or.inr ⟨rfl, um_neg1014, rfl⟩, fun _ _ _ _ => rfl, Or.inr ⟨r, hr, rfl, Or.inl ⟨rfl, rfl⟩⟩⟩
      · rw [h0] at eN
        unfold ufX8_takeAway ufX8_refuse
        rw [um_has5 (by omega), hx]
        simp -implicitDefEqProofs (disch := omega) only [um_l0, um_l1, um_l2, um_l3, um_l4, um_l5, um_l6, um_l7, um_l8, um_l9, um_l10, um_l11, um_l12, um_l16, um_l20, um_l23, um_l24, um_l31, um_l32, um_l35, um_l42, um_l43, um_l45, um_l48, um_l57, um_l58, um_l59, um_l60, um_l61, um_l63, um_l64, um_l68, um_l83, um_l99, um_l100, um_l101, um_l102, um_l103, um_l104, um_l105, um_l106, um_l107, um_l108, um_l109, um_l110, um_l111, um_l112, um_l113, um_l114, um_l115, um_l116, um_l117, um_l118, um_l126, um_l128, um_l130, um_l131, um_l132, um_l133, um_l134, um_l135, um_l180, um_l210, um_l211, um_l235, um_l1645, um_l1880, ↓um_nm, um_b1, um_b2, um_b3, um_b4, um_b5, um_b6, um_b7, um_b8, um_b9, um_b10, um_gd, um_bz0, um_bz1, um_m1, nI_add, pk_mul, um_sub_lt0, um_sub_gt0, um_sub_eq0, um_sub_le0, pk_sub, nI_ltI, nI_leI, nI_eq, nI_clamp, um_nv_at, um_nv_up, um_up_eq, um_up_ne, if_true, if_false, if_pos, if_neg, um_at, um_at0, um_put, um_add, um_b2n_t, eN]
      · rw [h0] at eW
        unfold ufX9_cancels ufX9_refuses ufX9_fail
        rw [um_isRope (by omega), hx]
        simp -implicitDefEqProofs (disch := omega) only [um_l0, um_l1, um_l2, um_l3, um_l4, um_l5, um_l6, um_l7, um_l8, um_l9, um_l10, um_l11, um_l12, um_l16, um_l20, um_l23, um_l24, um_l31, um_l32, um_l35, um_l42, um_l43, um_l45, um_l48, um_l57, um_l58, um_l59, um_l60, um_l61, um_l63, um_l64, um_l68, um_l83, um_l99, um_l100, um_l101, um_l102, um_l103, um_l104, um_l105, um_l106, um_l107, um_l108, um_l109, um_l110, um_l111, um_l112, um_l113, um_l114, um_l115, um_l116, um_l117, um_l118, um_l126, um_l128, um_l130, um_l131, um_l132, um_l133, um_l134, um_l135, um_l180, um_l210, um_l211, um_l235, um_l1645, um_l1880, ↓um_nm, um_b1, um_b2, um_b3, um_b4, um_b5, um_b6, um_b7, um_b8, um_b9, um_b10, um_gd, um_bz0, um_bz1, um_m1, nI_add, pk_mul, um_sub_lt0, um_sub_gt0, um_sub_eq0, um_sub_le0, pk_sub, nI_ltI, nI_leI, nI_eq, nI_clamp, um_nv_at, um_nv_up, um_up_eq, um_up_ne, if_true, if_false, if_pos, if_neg, um_at, um_at0, um_put, um_add, um_b2n_t, eW]
    · obtain ⟨ph', pr', ps', eR, PL⟩ := um_removeAllOf (r := r) (by omega) q2 hPL hb
      obtain ⟨i1, i2, i3, i4⟩ := um_canF_lst (f := f) (r := r) q2
      have e48 := um_cancels48 (d := d) (a := 0) (w := w) (r := r) (n := um_cnt (fun k => decide (f (83 + 3 * k) = r)) (f 1)) (by omega) ub_F (f 1) f (by unfold ub_F; omega) (Nat.le_refl _) q2 hb
      have ec1 : um_can r (f 1) f 1 = um_canF f r 1 := by
        unfold um_canF
        rw [um_up_ne (by omega)]
      rw [ec1] at e48
      refine ⟨nI (um_canF f r 1), nI (um_canF f r 1), 0, lr, ld, w, d, um_canF f r, ph', pr', ps', ?_, ?_, hR, ?_, ?_, Or.inl ⟨rfl, rfl, nI_pos (by omega)⟩, fun q h1 h8 hq => i2 q h1 h8 hq, Or.inr ⟨r, hr, rfl, Or.inr ⟨rfl, rfl⟩⟩⟩
      · rw [i4]
        generalize um_cnt (fun k => decide (f (83 + 3 * k) = r)) (f 1) = n at *
        unfold ufX8_takeAway
        rw [um_has5 (by omega), hx]
        simp -implicitDefEqProofs (disch := omega) only [um_l0, um_l1, um_l2, um_l3, um_l4, um_l5, um_l6, um_l7, um_l8, um_l9, um_l10, um_l11, um_l12, um_l16, um_l20, um_l23, um_l24, um_l31, um_l32, um_l35, um_l42, um_l43, um_l45, um_l48, um_l57, um_l58, um_l59, um_l60, um_l61, um_l63, um_l64, um_l68, um_l83, um_l99, um_l100, um_l101, um_l102, um_l103, um_l104, um_l105, um_l106, um_l107, um_l108, um_l109, um_l110, um_l111, um_l112, um_l113, um_l114, um_l115, um_l116, um_l117, um_l118, um_l126, um_l128, um_l130, um_l131, um_l132, um_l133, um_l134, um_l135, um_l180, um_l210, um_l211, um_l235, um_l1645, um_l1880, ↓um_nm, um_b1, um_b2, um_b3, um_b4, um_b5, um_b6, um_b7, um_b8, um_b9, um_b10, um_gd, um_bz0, um_bz1, um_m1, nI_add, pk_mul, um_sub_lt0, um_sub_gt0, um_sub_eq0, um_sub_le0, pk_sub, nI_ltI, nI_leI, nI_eq, nI_clamp, um_nv_at, um_nv_up, um_up_eq, um_up_ne, if_true, if_false, if_pos, if_neg, um_at, um_at0, um_put, um_add, um_b2n_t, eN, eR]
      · have eq : um_nv (um_canF f r) = um_nv (um_up (um_can r (f 1) f) 8 (f 8 + um_cnt (fun k => decide (f (83 + 3 * k) = r)) (f 1))) := rfl
        rw [eq]
        generalize um_cnt (fun k => decide (f (83 + 3 * k) = r)) (f 1) = n at *
        unfold ufX9_cancels
        rw [um_isRope (by omega), hx, um_b1, if_neg (by decide), eW, um_b1, if_neg (nI_ne0 (by omega) (by omega)), show (1 : Int32) = nI 1 from rfl, um_gd (by decide) (by decide), nI_clamp (by decide), um_nv_at]
        exact e48
      · exact um_I_up (Nat.le_succ c) hc (um_I_can hI0)
      · have A : ∀ q, q ≠ 1 → q ≠ 8 → (q < 83 ∨ 131 ≤ q) → um_canF f r q = f q := i2
        generalize um_canF f r = g at *
        have a9 := A 9 (by omega) (by omega) (by omega)
        refine ⟨PL, ⟨hAN.1, fun j hj => ?_⟩, fun j hj => ?_, fun j hj => ?_⟩
        · rw [A (131 + 4 * j) (by omega) (by omega) (by omega), A (132 + 4 * j) (by omega) (by omega) (by omega), A (133 + 4 * j) (by omega) (by omega) (by omega), A (134 + 4 * j) (by omega) (by omega) (by omega)]
          exact hAN.2 j (by omega)
        · rw [A (211 + j) (by omega) (by omega) (by omega)]
          exact hHD j hj
        · rw [A (11 + 6 * j) (by omega) (by omega) (by omega), A (12 + 6 * j) (by omega) (by omega) (by omega), A (13 + 6 * j) (by omega) (by omega) (by omega), A (14 + 6 * j) (by omega) (by omega) (by omega), A (15 + 6 * j) (by omega) (by omega) (by omega), A (16 + 6 * j) (by omega) (by omega) (by omega)]
          exact hRP j hj
end UM38
