/-! ===== what holds of a state speaks of its 235 numbers alone ===== -/
theorem um_I_congr {f g : Nat → Nat} {c d : Nat} (h : ∀ q, q < 235 → g q = f q) (hcd : c ≤ d) (hd : d ≤ 2 ^ 20) (hI : um_I f c) : um_I g d := by
  obtain ⟨q0, q1, q2, q3, q4, q5, q6, q7, q8, q9, q10, q11, q12, q13, q14, q15⟩ := hI
  have a0 := h 0 (by omega)
  have a1 := h 1 (by omega)
  have a2 := h 2 (by omega)
  have a3 := h 3 (by omega)
  have a4 := h 4 (by omega)
  have a5 := h 5 (by omega)
  have a6 := h 6 (by omega)
  have a7 := h 7 (by omega)
  have a8 := h 8 (by omega)
  have a9 := h 9 (by omega)
  have a10 := h 10 (by omega)
  refine ⟨hd, by omega, by omega, by omega, by omega, by omega, by omega, by omega, by omega, fun r hr => ?_, fun r hr hr' => ?_, ?_, ?_, ?_, fun k hk => ?_, fun t ht => ?_⟩
  · rw [h _ (by omega), h _ (by omega), h _ (by omega)]
    exact q9 r hr
  · rw [h _ (by omega), h _ (by omega), h _ (by omega), h _ (by omega), h _ (by omega), h _ (by omega)]
    exact q10 r (by omega) hr'
  · rw [a5, ← q11]
    exact um_sum_congr (fun i hi => h _ (by omega))
  · rw [a6, ← q12]
    exact um_sum_congr (fun i hi => h _ (by omega))
  · rw [a7, ← q13]
    exact um_sum_congr (fun i hi => h _ (by omega))
  · rw [a0, h (83 + 3 * k) (by omega), h (84 + 3 * k) (by omega), h (85 + 3 * k) (by omega)]
    exact q14 k (by omega)
  · rw [a0, h (211 + t) (by omega)]
    exact q15 t ht
theorem um_D_congr {f g : Nat → Nat} {la : Nat} {ph pr ps rd rh rr rs rg oa od oi om op ou : Nat → Nat} (h : ∀ q, q < 235 → g q = f q) (h1 : f 1 ≤ 16) (h9 : f 9 ≤ 20) (hT : um_D f la ph pr ps rd rh rr rs rg oa od oi om op ou) : um_D g la ph pr ps rd rh rr rs rg oa od oi om op ou := by
  obtain ⟨hPL, hAN, hHD, hRP⟩ := hT
  have a1 := h 1 (by omega)
  have a9 := h 9 (by omega)
  refine ⟨fun k hk => ?_, ⟨hAN.1, fun k hk => ?_⟩, fun t ht => ?_, fun r hr => ?_⟩
  · rw [h _ (by omega), h _ (by omega), h _ (by omega)]
    exact hPL k (by omega)
  · rw [h _ (by omega), h _ (by omega), h _ (by omega), h _ (by omega)]
    exact hAN.2 k (by omega)
  · rw [h _ (by omega)]
    exact hHD t ht
  · rw [h _ (by omega), h _ (by omega), h _ (by omega), h _ (by omega), h _ (by omega), h _ (by omega)]
    exact hRP r hr
/-! ===== copies ===== -/
theorem um_any (y : Nat → Int32) : ∃ g : Nat → Nat, y = um_nv g := ⟨fun k => (y k).toBitVec.toNat, by
  funext k
  unfold um_nv
  apply Int32.toBitVec_inj.mp
  apply BitVec.eq_of_toNat_eq
  show (y k).toBitVec.toNat = (BitVec.ofNat 32 (y k).toBitVec.toNat).toNat
  rw [BitVec.toNat_ofNat, Nat.mod_eq_of_lt (BitVec.isLt _)]⟩
theorem um_copy {a b : Nat → Nat} {n : Nat} (hn : n < 2 ^ 31) : ufX8_copy n n (um_nv a) (um_nv b) = some (um_nv (um_mix 0 n a b)) := by
  unfold ufX8_copy
  rw [um_nm, if_neg (show ¬ Int32.ofNat n < Int32.ofNat n from Int32.lt_irrefl), show Int32.ofNat n = nI n from rfl, ub_cg_of (nI_pos hn) (by rw [nI_clamp hn]; exact Nat.le_refl _) (by rw [nI_clamp hn]; exact Nat.le_refl _), um_nm, nI_clamp hn]
  congr 1
  funext k
  unfold va_cpy um_nv um_mix
  by_cases h : 0 ≤ k ∧ k < n
  · rw [if_pos (by omega), if_pos h, show 0 + (k - 0) = k by omega]
  · rw [if_neg (by omega), if_neg h]
theorem um_copyFrom {f : Nat → Nat} {la : Nat} {ph pr ps rd rh rr rs rg oa od oi om op ou : Nat → Nat} {t_answers t_came t_day t_doubles t_hour t_misses t_rung t_takenAway t_pulls_number t_remembered_latest t_remembered_number t_ropes_number : Int32} {t_pulls_hour t_pulls_rope t_pulls_strength t_remembered_day t_remembered_hour t_remembered_rope t_remembered_strength t_ringers t_ropes_answers t_ropes_doubles t_ropes_isOn t_ropes_misses t_ropes_parish t_ropes_rust : Nat → Int32} (h1 : f 1 ≤ 16) (h9 : f 9 ≤ 20) (hT : um_D f la ph pr ps rd rh rr rs rg oa od oi om op ou) :
    ∃ ph' pr' ps' rd' rh' rr' rs' rg' oa' od' oi' om' op' ou' : Nat → Nat, ufX7_copyFrom t_answers t_came t_day t_doubles t_hour t_misses t_rung t_takenAway t_pulls_number t_pulls_hour t_pulls_rope t_pulls_strength t_remembered_latest t_remembered_number t_remembered_day t_remembered_hour t_remembered_rope t_remembered_strength t_ringers t_ropes_number t_ropes_answers t_ropes_doubles t_ropes_isOn t_ropes_misses t_ropes_parish t_ropes_rust (nI (f 5)) (nI (f 4)) (nI (f 3)) (nI (f 7)) (nI (f 2)) (nI (f 6)) (nI (f 10)) (nI (f 8)) (nI (f 1)) (um_nv ph) (um_nv pr) (um_nv ps) (nI la) (nI (f 9)) (um_nv rd) (um_nv rh) (um_nv rr) (um_nv rs) (um_nv rg) (nI (f 0)) (um_nv oa) (um_nv od) (um_nv oi) (um_nv om) (um_nv op) (um_nv ou) = some (nI (f 5), nI (f 4), nI (f 3), nI (f 7), nI (f 2), nI (f 6), nI (f 10), nI (f 8), nI (f 1), um_nv ph', um_nv pr', um_nv ps', nI la, nI (f 9), um_nv rd', um_nv rh', um_nv rr', um_nv rs', um_nv rg', nI (f 0), um_nv oa', um_nv od', um_nv oi', um_nv om', um_nv op', um_nv ou') ∧ um_D f la ph' pr' ps' rd' rh' rr' rs' rg' oa' od' oi' om' op' ou' := by
  obtain ⟨g_ph, rfl⟩ := um_any t_pulls_hour
  obtain ⟨g_pr, rfl⟩ := um_any t_pulls_rope
  obtain ⟨g_ps, rfl⟩ := um_any t_pulls_strength
  obtain ⟨g_rd, rfl⟩ := um_any t_remembered_day
  obtain ⟨g_rh, rfl⟩ := um_any t_remembered_hour
  obtain ⟨g_rr, rfl⟩ := um_any t_remembered_rope
  obtain ⟨g_rs, rfl⟩ := um_any t_remembered_strength
  obtain ⟨g_rg, rfl⟩ := um_any t_ringers
  obtain ⟨g_oa, rfl⟩ := um_any t_ropes_answers
  obtain ⟨g_od, rfl⟩ := um_any t_ropes_doubles
  obtain ⟨g_oi, rfl⟩ := um_any t_ropes_isOn
  obtain ⟨g_om, rfl⟩ := um_any t_ropes_misses
  obtain ⟨g_op, rfl⟩ := um_any t_ropes_parish
  obtain ⟨g_ou, rfl⟩ := um_any t_ropes_rust
  obtain ⟨hPL, hAN, hHD, hRP⟩ := hT
  refine ⟨um_mix 0 16 ph g_ph, um_mix 0 16 pr g_pr, um_mix 0 16 ps g_ps, um_mix 0 20 rd g_rd, um_mix 0 20 rh g_rh, um_mix 0 20 rr g_rr, um_mix 0 20 rs g_rs, um_mix 0 24 rg g_rg, um_mix 0 12 oa g_oa, um_mix 0 12 od g_od, um_mix 0 12 oi g_oi, um_mix 0 12 om g_om, um_mix 0 12 op g_op, um_mix 0 12 ou g_ou, ?_, fun k hk => ?_, ⟨hAN.1, fun k hk => ?_⟩, fun h hh => ?_, fun r hr => ?_⟩
  · unfold ufX7_copyFrom ufX5_copyFrom ufX4_copyFrom ufX0_copyFrom
    simp (disch := omega) only [um_copy, um_b1, um_b4, um_b6, um_b7]
  · rw [um_mix_in (by omega), um_mix_in (by omega), um_mix_in (by omega)]
    exact hPL k hk
  · have hm : (la + 20 - k) % 20 < 20 := Nat.mod_lt _ (by decide)
    rw [um_mix_in (by omega), um_mix_in (by omega), um_mix_in (by omega), um_mix_in (by omega)]
    exact hAN.2 k hk
  · rw [um_mix_in (by omega)]
    exact hHD h hh
  · rw [um_mix_in (by omega), um_mix_in (by omega), um_mix_in (by omega), um_mix_in (by omega), um_mix_in (by omega), um_mix_in (by omega)]
    exact hRP r hr
/-! ===== the forecast: how many of the next rings are answers ===== -/
def um_fc : Nat → (Nat → Nat) → Nat
  | 0, _ => 0
  | n + 1, f => um_b2n (decide (um_ringR f = 1)) + um_fc n (um_ringF f)
def um_rings : Nat → (Nat → Nat) → (Nat → Nat)
  | 0, f => f
  | n + 1, f => um_rings n (um_ringF f)
theorem um_forecast13 {kf : Nat → Nat} {c : Nat} : ∀ (n k a : Nat) (f : Nat → Nat), um_I f c → f 1 = n → n < k → ulX9_forecast_13 (um_nv kf) k (um_nv f) (nI a) = some (nI (a + um_fc n f), um_nv kf, um_nv (um_mix 0 235 kf (um_rings n f)))
  | _, 0, _, _, _, _, h => absurd h (Nat.not_lt_zero _)
  | 0, k + 1, a, f, hI, hn, _ => by
    rw [ulX9_forecast_13]
    simp -implicitDefEqProofs (disch := omega) only [um_l0, um_l1, um_l2, um_l3, um_l4, um_l5, um_l6, um_l7, um_l8, um_l9, um_l10, um_l11, um_l12, um_l16, um_l20, um_l23, um_l24, um_l31, um_l32, um_l35, um_l42, um_l43, um_l45, um_l48, um_l57, um_l58, um_l59, um_l60, um_l61, um_l63, um_l64, um_l68, um_l83, um_l99, um_l100, um_l101, um_l102, um_l103, um_l104, um_l105, um_l106, um_l107, um_l108, um_l109, um_l110, um_l111, um_l112, um_l113, um_l114, um_l115, um_l116, um_l117, um_l118, um_l126, um_l128, um_l130, um_l131, um_l132, um_l133, um_l134, um_l135, um_l180, um_l210, um_l211, um_l235, um_l1645, um_l1880, ↓um_nm, um_b1, um_b2, um_b3, um_b4, um_b5, um_b6, um_b7, um_b8, um_b9, um_b10, um_gd, um_bz0, um_bz1, um_m1, nI_add, pk_mul, um_sub_lt0, um_sub_gt0, um_sub_eq0, um_sub_le0, pk_sub, nI_ltI, nI_leI, nI_eq, nI_clamp, um_nv_at, um_nv_up, um_up_eq, um_up_ne, if_true, if_false, if_pos, if_neg, um_at, um_at0, um_put, um_add, hn, um_lays]
    rfl
  | n + 1, k + 1, a, f, hI, hn, hk => by
    have hI' := um_I_ring hI (by omega)
    have h16 := hI.2.2.1
    have e1 := um_ringF_1 (f := f)
    have ih := fun a => um_forecast13 (kf := kf) n k a (um_ringF f) hI' (by omega) (by omega)
    have hlt := um_ringR_lt (f := f)
    rw [ulX9_forecast_13, um_fc, um_rings]
    by_cases h : um_ringR f = 1
    · rw [decide_eq_true h, um_b2n_t, show a + (1 + um_fc n (um_ringF f)) = (a + 1) + um_fc n (um_ringF f) by omega]
      simp -implicitDefEqProofs (disch := omega) only [um_l0, um_l1, um_l2, um_l3, um_l4, um_l5, um_l6, um_l7, um_l8, um_l9, um_l10, um_l11, um_l12, um_l16, um_l20, um_l23, um_l24, um_l31, um_l32, um_l35, um_l42, um_l43, um_l45, um_l48, um_l57, um_l58, um_l59, um_l60, um_l61, um_l63, um_l64, um_l68, um_l83, um_l99, um_l100, um_l101, um_l102, um_l103, um_l104, um_l105, um_l106, um_l107, um_l108, um_l109, um_l110, um_l111, um_l112, um_l113, um_l114, um_l115, um_l116, um_l117, um_l118, um_l126, um_l128, um_l130, um_l131, um_l132, um_l133, um_l134, um_l135, um_l180, um_l210, um_l211, um_l235, um_l1645, um_l1880, ↓um_nm, um_b1, um_b2, um_b3, um_b4, um_b5, um_b6, um_b7, um_b8, um_b9, um_b10, um_gd, um_bz0, um_bz1, um_m1, nI_add, pk_mul, um_sub_lt0, um_sub_gt0, um_sub_eq0, um_sub_le0, pk_sub, nI_ltI, nI_leI, nI_eq, nI_clamp, um_nv_at, um_nv_up, um_up_eq, um_up_ne, if_true, if_false, if_pos, if_neg, um_at, um_at0, um_put, um_add, hn, um_ringsNext hI (by omega), h]
      exact ih (a + 1)
    · rw [decide_eq_false h, um_b2n_f, Nat.zero_add]
      simp -implicitDefEqProofs (disch := omega) only [um_l0, um_l1, um_l2, um_l3, um_l4, um_l5, um_l6, um_l7, um_l8, um_l9, um_l10, um_l11, um_l12, um_l16, um_l20, um_l23, um_l24, um_l31, um_l32, um_l35, um_l42, um_l43, um_l45, um_l48, um_l57, um_l58, um_l59, um_l60, um_l61, um_l63, um_l64, um_l68, um_l83, um_l99, um_l100, um_l101, um_l102, um_l103, um_l104, um_l105, um_l106, um_l107, um_l108, um_l109, um_l110, um_l111, um_l112, um_l113, um_l114, um_l115, um_l116, um_l117, um_l118, um_l126, um_l128, um_l130, um_l131, um_l132, um_l133, um_l134, um_l135, um_l180, um_l210, um_l211, um_l235, um_l1645, um_l1880, ↓um_nm, um_b1, um_b2, um_b3, um_b4, um_b5, um_b6, um_b7, um_b8, um_b9, um_b10, um_gd, um_bz0, um_bz1, um_m1, nI_add, pk_mul, um_sub_lt0, um_sub_gt0, um_sub_eq0, um_sub_le0, pk_sub, nI_ltI, nI_leI, nI_eq, nI_clamp, um_nv_at, um_nv_up, um_up_eq, um_up_ne, if_true, if_false, if_pos, if_neg, um_at, um_at0, um_put, um_add, hn, um_ringsNext hI (by omega), Nat.add_zero]
      exact ih a
theorem um_forecast9 {f g : Nat → Nat} {c : Nat} (hI : um_I f c) : ∃ kf vf, ufX9_forecast (um_nv g) (um_nv f) = some (nI (um_fc (f 1) f), um_nv kf, um_nv vf) ∧ ∀ q, q < 235 → vf q = f q := by
  refine ⟨um_mix 0 235 f g, um_mix 0 235 (um_mix 0 235 f g) (um_rings (f 1) f), ?_, fun q hq => ?_⟩
  · have h16 := hI.2.2.1
    have e := um_forecast13 (kf := um_mix 0 235 f g) (f 1) ub_F 0 f hI rfl (by unfold ub_F; omega)
    rw [Nat.zero_add] at e
    unfold ufX9_forecast
    rw [um_lays, um_b1]
    exact e
  · rw [um_mix_in (by omega), um_mix_in (by omega)]
theorem um_forecast15 {c : Nat} {op : Nat → Nat} : ∀ (n k a t : Nat) (f : Nat → Nat) (la : Nat) (ph pr ps rd rh rr rs rg oa od oi om ou : Nat → Nat), um_I f c → f 1 = n → t + n ≤ 16 → n < k → um_D f la ph pr ps rd rh rr rs rg oa od oi om op ou →
    ∃ (g : Nat → Nat) (la' : Nat) (ph' pr' ps' rd' rh' rr' rs' rg' oa' od' om' ou' : Nat → Nat), ulX8_forecast_15 (nI (f 4)) (nI (f 3)) (nI (f 8)) (nI (f 0)) (um_nv oi) (um_nv op) k (nI (f 5)) (nI (f 7)) (nI (f 2)) (nI (f 6)) (nI (f 10)) (nI (f 1)) (um_nv ph) (um_nv pr) (um_nv ps) (nI la) (nI (f 9)) (um_nv rd) (um_nv rh) (um_nv rr) (um_nv rs) (um_nv rg) (um_nv oa) (um_nv od) (um_nv om) (um_nv ou) (nI a) (nI t) = some (nI (a + um_fc n f), nI (g 5), nI (f 4), nI (f 3), nI (g 7), nI (g 2), nI (g 6), nI (g 10), nI (f 8), nI (g 1), um_nv ph', um_nv pr', um_nv ps', nI la', nI (g 9), um_nv rd', um_nv rh', um_nv rr', um_nv rs', um_nv rg', nI (f 0), um_nv oa', um_nv od', um_nv oi, um_nv om', um_nv op, um_nv ou')
  | _, 0, _, _, _, _, _, _, _, _, _, _, _, _, _, _, _, _, _, _, _, _, h, _ => absurd h (Nat.not_lt_zero _)
  | 0, k + 1, a, t, f, la, ph, pr, ps, rd, rh, rr, rs, rg, oa, od, oi, om, ou, hI, hn, ht, _, hT => by
    refine ⟨f, la, ph, pr, ps, rd, rh, rr, rs, rg, oa, od, om, ou, ?_⟩
    rw [ulX8_forecast_15]
    by_cases h16 : 16 ≤ t
    · simp -implicitDefEqProofs (disch := omega) only [um_l0, um_l1, um_l2, um_l3, um_l4, um_l5, um_l6, um_l7, um_l8, um_l9, um_l10, um_l11, um_l12, um_l16, um_l20, um_l23, um_l24, um_l31, um_l32, um_l35, um_l42, um_l43, um_l45, um_l48, um_l57, um_l58, um_l59, um_l60, um_l61, um_l63, um_l64, um_l68, um_l83, um_l99, um_l100, um_l101, um_l102, um_l103, um_l104, um_l105, um_l106, um_l107, um_l108, um_l109, um_l110, um_l111, um_l112, um_l113, um_l114, um_l115, um_l116, um_l117, um_l118, um_l126, um_l128, um_l130, um_l131, um_l132, um_l133, um_l134, um_l135, um_l180, um_l210, um_l211, um_l235, um_l1645, um_l1880, ↓um_nm, um_b1, um_b2, um_b3, um_b4, um_b5, um_b6, um_b7, um_b8, um_b9, um_b10, um_gd, um_bz0, um_bz1, um_m1, nI_add, pk_mul, um_sub_lt0, um_sub_gt0, um_sub_eq0, um_sub_le0, pk_sub, nI_ltI, nI_leI, nI_eq, nI_clamp, um_nv_at, um_nv_up, um_up_eq, um_up_ne, if_true, if_false, if_pos, if_neg, um_at, um_at0, um_put, um_add, hn]
      rfl
    · simp -implicitDefEqProofs (disch := omega) only [um_l0, um_l1, um_l2, um_l3, um_l4, um_l5, um_l6, um_l7, um_l8, um_l9, um_l10, um_l11, um_l12, um_l16, um_l20, um_l23, um_l24, um_l31, um_l32, um_l35, um_l42, um_l43, um_l45, um_l48, um_l57, um_l58, um_l59, um_l60, um_l61, um_l63, um_l64, um_l68, um_l83, um_l99, um_l100, um_l101, um_l102, um_l103, um_l104, um_l105, um_l106, um_l107, um_l108, um_l109, um_l110, um_l111, um_l112, um_l113, um_l114, um_l115, um_l116, um_l117, um_l118, um_l126, um_l128, um_l130, um_l131, um_l132, um_l133, um_l134, um_l135, um_l180, um_l210, um_l211, um_l235, um_l1645, um_l1880, ↓um_nm, um_b1, um_b2, um_b3, um_b4, um_b5, um_b6, um_b7, um_b8, um_b9, um_b10, um_gd, um_bz0, um_bz1, um_m1, nI_add, pk_mul, um_sub_lt0, um_sub_gt0, um_sub_eq0, um_sub_le0, pk_sub, nI_ltI, nI_leI, nI_eq, nI_clamp, um_nv_at, um_nv_up, um_up_eq, um_up_ne, if_true, if_false, if_pos, if_neg, um_at, um_at0, um_put, um_add, hn]
      rfl
  | n + 1, k + 1, a, t, f, la, ph, pr, ps, rd, rh, rr, rs, rg, oa, od, oi, om, ou, hI, hn, ht, hk, hT => by
    have hI' := um_I_ring hI (by omega)
    have h16 := hI.2.2.1
    have e1 := um_ringF_1 (f := f)
    have hlt := um_ringR_lt (f := f)
    have K0 : um_ringF f 0 = f 0 := um_ringF_keep (by omega)
    have K3 : um_ringF f 3 = f 3 := um_ringF_keep (by omega)
    have K4 : um_ringF f 4 = f 4 := um_ringF_keep (by omega)
    have K8 : um_ringF f 8 = f 8 := um_ringF_keep (by omega)
    obtain ⟨la1, ph1, pr1, ps1, rd1, rh1, rr1, rs1, rg1, oa1, od1, om1, ou1, er, hT'⟩ := um_ringFirst hI (by omega) hT
    have ih := fun a => um_forecast15 (op := op) n k a (t + 1) (um_ringF f) la1 ph1 pr1 ps1 rd1 rh1 rr1 rs1 rg1 oa1 od1 oi om1 ou1 hI' (by omega) (by omega) (by omega) hT'
    rw [K0, K3, K4, K8] at ih
    rw [ulX8_forecast_15, um_fc, er]
    by_cases h : um_ringR f = 1
    · obtain ⟨g, la', ph', pr', ps', rd', rh', rr', rs', rg', oa', od', om', ou', ih⟩ := ih (a + 1)
      refine ⟨g, la', ph', pr', ps', rd', rh', rr', rs', rg', oa', od', om', ou', ?_⟩
      rw [decide_eq_true h, um_b2n_t, show a + (1 + um_fc n (um_ringF f)) = (a + 1) + um_fc n (um_ringF f) by omega, ← ih]
      simp -implicitDefEqProofs (disch := omega) only [um_l0, um_l1, um_l2, um_l3, um_l4, um_l5, um_l6, um_l7, um_l8, um_l9, um_l10, um_l11, um_l12, um_l16, um_l20, um_l23, um_l24, um_l31, um_l32, um_l35, um_l42, um_l43, um_l45, um_l48, um_l57, um_l58, um_l59, um_l60, um_l61, um_l63, um_l64, um_l68, um_l83, um_l99, um_l100, um_l101, um_l102, um_l103, um_l104, um_l105, um_l106, um_l107, um_l108, um_l109, um_l110, um_l111, um_l112, um_l113, um_l114, um_l115, um_l116, um_l117, um_l118, um_l126, um_l128, um_l130, um_l131, um_l132, um_l133, um_l134, um_l135, um_l180, um_l210, um_l211, um_l235, um_l1645, um_l1880, ↓um_nm, um_b1, um_b2, um_b3, um_b4, um_b5, um_b6, um_b7, um_b8, um_b9, um_b10, um_gd, um_bz0, um_bz1, um_m1, nI_add, pk_mul, um_sub_lt0, um_sub_gt0, um_sub_eq0, um_sub_le0, pk_sub, nI_ltI, nI_leI, nI_eq, nI_clamp, um_nv_at, um_nv_up, um_up_eq, um_up_ne, if_true, if_false, if_pos, if_neg, um_at, um_at0, um_put, um_add, hn, um_b21, h]
    · obtain ⟨g, la', ph', pr', ps', rd', rh', rr', rs', rg', oa', od', om', ou', ih⟩ := ih a
      refine ⟨g, la', ph', pr', ps', rd', rh', rr', rs', rg', oa', od', om', ou', ?_⟩
      rw [decide_eq_false h, um_b2n_f, Nat.zero_add, ← ih]
      simp -implicitDefEqProofs (disch := omega) only [um_l0, um_l1, um_l2, um_l3, um_l4, um_l5, um_l6, um_l7, um_l8, um_l9, um_l10, um_l11, um_l12, um_l16, um_l20, um_l23, um_l24, um_l31, um_l32, um_l35, um_l42, um_l43, um_l45, um_l48, um_l57, um_l58, um_l59, um_l60, um_l61, um_l63, um_l64, um_l68, um_l83, um_l99, um_l100, um_l101, um_l102, um_l103, um_l104, um_l105, um_l106, um_l107, um_l108, um_l109, um_l110, um_l111, um_l112, um_l113, um_l114, um_l115, um_l116, um_l117, um_l118, um_l126, um_l128, um_l130, um_l131, um_l132, um_l133, um_l134, um_l135, um_l180, um_l210, um_l211, um_l235, um_l1645, um_l1880, ↓um_nm, um_b1, um_b2, um_b3, um_b4, um_b5, um_b6, um_b7, um_b8, um_b9, um_b10, um_gd, um_bz0, um_bz1, um_m1, nI_add, pk_mul, um_sub_lt0, um_sub_gt0, um_sub_eq0, um_sub_le0, pk_sub, nI_ltI, nI_leI, nI_eq, nI_clamp, um_nv_at, um_nv_up, um_up_eq, um_up_ne, if_true, if_false, if_pos, if_neg, um_at, um_at0, um_put, um_add, hn, um_b21]
theorem um_forecast8 {f : Nat → Nat} {c la : Nat} {ph pr ps rd rh rr rs rg oa od oi om op ou : Nat → Nat} {t_answers t_came t_day t_doubles t_hour t_misses t_rung t_takenAway t_pulls_number t_remembered_latest t_remembered_number t_ropes_number : Int32} {t_pulls_hour t_pulls_rope t_pulls_strength t_remembered_day t_remembered_hour t_remembered_rope t_remembered_strength t_ringers t_ropes_answers t_ropes_doubles t_ropes_isOn t_ropes_misses t_ropes_parish t_ropes_rust : Nat → Int32} (hI : um_I f c) (hT : um_D f la ph pr ps rd rh rr rs rg oa od oi om op ou) :
    ∃ r_answers r_came r_day r_doubles r_hour r_misses r_rung r_takenAway r_pulls_number r_pulls_hour r_pulls_rope r_pulls_strength r_remembered_latest r_remembered_number r_remembered_day r_remembered_hour r_remembered_rope r_remembered_strength r_ringers r_ropes_number r_ropes_answers r_ropes_doubles r_ropes_isOn r_ropes_misses r_ropes_parish r_ropes_rust, ufX8_forecast (nI (f 5)) (nI (f 4)) (nI (f 3)) (nI (f 7)) (nI (f 2)) (nI (f 6)) (nI (f 10)) (nI (f 8)) (nI (f 1)) (um_nv ph) (um_nv pr) (um_nv ps) (nI la) (nI (f 9)) (um_nv rd) (um_nv rh) (um_nv rr) (um_nv rs) (um_nv rg) (nI (f 0)) (um_nv oa) (um_nv od) (um_nv oi) (um_nv om) (um_nv op) (um_nv ou) t_answers t_came t_day t_doubles t_hour t_misses t_rung t_takenAway t_pulls_number t_pulls_hour t_pulls_rope t_pulls_strength t_remembered_latest t_remembered_number t_remembered_day t_remembered_hour t_remembered_rope t_remembered_strength t_ringers t_ropes_number t_ropes_answers t_ropes_doubles t_ropes_isOn t_ropes_misses t_ropes_parish t_ropes_rust = some (nI (um_fc (f 1) f), r_answers, r_came, r_day, r_doubles, r_hour, r_misses, r_rung, r_takenAway, r_pulls_number, r_pulls_hour, r_pulls_rope, r_pulls_strength, r_remembered_latest, r_remembered_number, r_remembered_day, r_remembered_hour, r_remembered_rope, r_remembered_strength, r_ringers, r_ropes_number, r_ropes_answers, r_ropes_doubles, r_ropes_isOn, r_ropes_misses, r_ropes_parish, r_ropes_rust) := by
  obtain ⟨ph', pr', ps', rd', rh', rr', rs', rg', oa', od', oi', om', op', ou', e, hT'⟩ := um_copyFrom (t_answers := t_answers) (t_came := t_came) (t_day := t_day) (t_doubles := t_doubles) (t_hour := t_hour) (t_misses := t_misses) (t_rung := t_rung) (t_takenAway := t_takenAway) (t_pulls_number := t_pulls_number) (t_pulls_hour := t_pulls_hour) (t_pulls_rope := t_pulls_rope) (t_pulls_strength := t_pulls_strength) (t_remembered_latest := t_remembered_latest) (t_remembered_number := t_remembered_number) (t_remembered_day := t_remembered_day) (t_remembered_hour := t_remembered_hour) (t_remembered_rope := t_remembered_rope) (t_remembered_strength := t_remembered_strength) (t_ringers := t_ringers) (t_ropes_number := t_ropes_number) (t_ropes_answers := t_ropes_answers) (t_ropes_doubles := t_ropes_doubles) (t_ropes_isOn := t_ropes_isOn) (t_ropes_misses := t_ropes_misses) (t_ropes_parish := t_ropes_parish) (t_ropes_rust := t_ropes_rust) hI.2.2.1 hI.2.2.2.2.2.2.2.2.1 hT
  obtain ⟨g, la1, ph1, pr1, ps1, rd1, rh1, rr1, rs1, rg1, oa1, od1, om1, ou1, e2⟩ := um_forecast15 (f 1) ub_F 0 0 f la ph' pr' ps' rd' rh' rr' rs' rg' oa' od' oi' om' ou' hI rfl (by have := hI.2.2.1; omega) (by have := hI.2.2.1; unfold ub_F; omega) hT'
  unfold ufX8_forecast
  rw [e, um_b26]
  rw [Nat.zero_add] at e2
  exact ⟨_, _, _, _, _, _, _, _, _, _, _, _, _, _, _, _, _, _, _, _, _, _, _, _, _, _, e2⟩
