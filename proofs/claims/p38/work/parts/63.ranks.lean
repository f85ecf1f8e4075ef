/-! ===== ranks of a strict order are a permutation ===== -/
theorem ur_pig : ∀ (n : Nat) (g : Nat → Nat), (∀ i, i < n → g i < n) → (∀ i j, i < n → j < n → g i = g j → i = j) → ∀ r, r < n → ∃ i, i < n ∧ g i = r
  | 0, _, _, _, r, h => absurd h (Nat.not_lt_zero r)
  | n + 1, g, hb, hi, r, hr => by
    by_cases e0 : r = g n
    · exact ⟨n, Nat.lt_succ_self n, e0.symm⟩
    · have hb' : ∀ i, i < n → (if g i = n then g n else g i) < n := fun i h => by
        have h1 := hb i (by omega)
        have h2 := hb n (by omega)
        split
        · rename_i e
          have h3 : g n ≠ n := fun e2 => by
            have := hi i n (by omega) (by omega) (by omega)
            omega
          omega
        · omega
      have hi' : ∀ i j, i < n → j < n → (if g i = n then g n else g i) = (if g j = n then g n else g j) → i = j := fun i j h1 h2 e => by
        by_cases a1 : g i = n
        · by_cases a2 : g j = n
          · exact hi i j (by omega) (by omega) (by omega)
          · rw [if_pos a1, if_neg a2] at e
            have := hi n j (by omega) (by omega) e
            omega
        · by_cases a2 : g j = n
          · rw [if_neg a1, if_pos a2] at e
            have := hi i n (by omega) (by omega) e
            omega
          · rw [if_neg a1, if_neg a2] at e
            exact hi i j (by omega) (by omega) e
      by_cases e1 : r = n
      · have hm : g n < n := by
          have := hb n (by omega)
          omega
        obtain ⟨i, h1, h2⟩ := ur_pig n (fun i => if g i = n then g n else g i) hb' hi' (g n) hm
        have h2 : (if g i = n then g n else g i) = g n := h2
        by_cases a1 : g i = n
        · exact ⟨i, by omega, by omega⟩
        · rw [if_neg a1] at h2
          have := hi i n (by omega) (by omega) h2
          omega
      · obtain ⟨i, h1, h2⟩ := ur_pig n (fun i => if g i = n then g n else g i) hb' hi' r (by omega)
        have h2 : (if g i = n then g n else g i) = r := h2
        by_cases a1 : g i = n
        · rw [if_pos a1] at h2
          exact absurd h2.symm e0
        · rw [if_neg a1] at h2
          exact ⟨i, by omega, h2⟩
theorem ur_cnt_lt {a b : Nat → Bool} : ∀ {n : Nat}, (∀ i, i < n → a i = true → b i = true) → (∃ i, i < n ∧ a i = false ∧ b i = true) → um_cnt a n < um_cnt b n
  | 0, _, ⟨i, h, _⟩ => absurd h (Nat.not_lt_zero i)
  | n + 1, hm, ⟨i, hi, h1, h2⟩ => by
    rw [um_cnt_s, um_cnt_s]
    by_cases e : i = n
    · subst e
      have := um_cnt_mono (a := a) (b := b) (n := i) (fun k hk => hm k (by omega))
      rw [h1, h2, um_b2n_t, um_b2n_f]
      omega
    · have := ur_cnt_lt (a := a) (b := b) (n := n) (fun k hk => hm k (by omega)) ⟨i, by omega, h1, h2⟩
      have h3 : um_b2n (a n) ≤ um_b2n (b n) := by
        have h4 := hm n (Nat.lt_succ_self n)
        cases ha : a n
        · rw [um_b2n_f]
          exact Nat.zero_le _
        · rw [h4 ha]
          exact Nat.le_refl _
      omega
def ur_rk (R : Nat → Nat → Bool) (n i : Nat) : Nat := um_cnt (fun o => R o i) n
theorem ur_rk_lt {R : Nat → Nat → Bool} {n i : Nat} (irr : ∀ i, R i i = false) (hi : i < n) : ur_rk R n i < n := by
  have h1 := ur_cnt_lt (a := fun o => R o i) (b := fun _ => true) (n := n) (fun _ _ _ => rfl) ⟨i, hi, irr i, rfl⟩
  have h2 : um_cnt (fun _ => true) n ≤ n := um_cnt_le
  exact Nat.lt_of_lt_of_le h1 h2
theorem ur_rk_mono {R : Nat → Nat → Bool} {n i j : Nat} (irr : ∀ i, R i i = false) (tr : ∀ a b c, R a b = true → R b c = true → R a c = true) (hi : i < n) (h : R i j = true) : ur_rk R n i < ur_rk R n j :=
  ur_cnt_lt (fun o _ ho => tr o i j ho h) ⟨i, hi, irr i, h⟩
theorem ur_rk_R {R : Nat → Nat → Bool} {n i j : Nat} (irr : ∀ i, R i i = false) (tr : ∀ a b c, R a b = true → R b c = true → R a c = true) (tot : ∀ a b, a ≠ b → R a b = true ∨ R b a = true) (hj : j < n) (h : ur_rk R n i < ur_rk R n j) : R i j = true := by
  by_cases e : i = j
  · subst e
    exact absurd h (Nat.lt_irrefl _)
  · rcases tot i j e with h1 | h1
    · exact h1
    · have := ur_rk_mono irr tr hj h1
      omega
theorem ur_rk_ex {R : Nat → Nat → Bool} {n r : Nat} (irr : ∀ i, R i i = false) (tr : ∀ a b c, R a b = true → R b c = true → R a c = true) (tot : ∀ a b, a ≠ b → R a b = true ∨ R b a = true) (hr : r < n) : ∃ i, i < n ∧ ur_rk R n i = r :=
  ur_pig n (ur_rk R n) (fun i hi => ur_rk_lt irr hi) (fun i j hi hj e => by
    by_cases h : i = j
    · exact h
    · rcases tot i j h with h1 | h1
      · have := ur_rk_mono irr tr hi h1
        omega
      · have := ur_rk_mono irr tr hj h1
        omega) r hr
theorem ur_fst {R : Nat → Nat → Bool} {n r : Nat} (hn : n < 2 ^ 31) (hr : r < n) : ∀ (k a : Nat), n = a + k → (∃ i, a ≤ i ∧ i < n ∧ ur_rk R n i = r) → ∃ i, i < n ∧ ur_rk R n i = r ∧ um_fst (fun i => decide (nI (ur_rk R n i) = nI r)) nI (-1011) k a = nI i
  | 0, a, ha, ⟨i, h1, h2, _⟩ => by omega
  | k + 1, a, ha, ⟨i, h1, h2, h3⟩ => by
    rw [um_fst]
    have hb : ur_rk R n a ≤ n := um_cnt_le
    by_cases e : ur_rk R n a = r
    · rw [e, decide_eq_true rfl, if_pos rfl]
      exact ⟨a, by omega, e, rfl⟩
    · have e2 : ¬ nI (ur_rk R n a) = nI r := fun h => e ((nI_eq (by omega) (by omega)).mp h)
      rw [decide_eq_false e2, if_neg (by decide)]
      refine ur_fst hn hr k (a + 1) (by omega) ⟨i, ?_, h2, h3⟩
      by_cases e3 : i = a
      · subst e3
        exact absurd h3 e
      · omega
theorem ur_fstN {R : Nat → Nat → Bool} {n x : Nat} (hn : n ≤ x) (hx : x < 2 ^ 31) (irr : ∀ i, R i i = false) : ∀ (k a : Nat), n = a + k → um_fst (fun i => decide (nI (ur_rk R n i) = nI x)) nI (-1011) k a = -1011
  | 0, _, _ => rfl
  | k + 1, a, ha => by
    rw [um_fst]
    have hb : ur_rk R n a < n := ur_rk_lt irr (by omega)
    have e2 : ¬ nI (ur_rk R n a) = nI x := fun h => by
      have := (nI_eq (a := ur_rk R n a) (b := x) (by omega) hx).mp h
      omega
    rw [decide_eq_false e2, if_neg (by decide)]
    exact ur_fstN hn hx irr k (a + 1) (by omega)
/-- the ropes' order -/
theorem ur_rust_irr {ru oa : Nat → Nat} (i : Nat) : um_rustier ru oa i i = false := by
  unfold um_rustier
  rw [if_pos rfl, if_pos rfl]
  exact decide_eq_false (Nat.lt_irrefl i)
theorem ur_rust_iff {ru oa : Nat → Nat} {a b : Nat} : um_rustier ru oa a b = true ↔ (ru b < ru a ∨ (ru a = ru b ∧ (oa a < oa b ∨ (oa a = oa b ∧ a < b)))) := by
  unfold um_rustier
  split
  · split
    · rw [decide_eq_true_eq]
      omega
    · rw [decide_eq_true_eq]
      omega
  · rw [decide_eq_true_eq]
    omega
theorem ur_rust_tr {ru oa : Nat → Nat} (a b c : Nat) (h1 : um_rustier ru oa a b = true) (h2 : um_rustier ru oa b c = true) : um_rustier ru oa a c = true := by
  rw [ur_rust_iff] at *
  omega
theorem ur_rust_tot {ru oa : Nat → Nat} (a b : Nat) (h : a ≠ b) : um_rustier ru oa a b = true ∨ um_rustier ru oa b a = true := by
  rw [ur_rust_iff, ur_rust_iff]
  omega
/-- the parishes' order -/
def ur_ps (P oa : Nat → Nat) (n a : Nat) : Nat := um_sum (fun r => if P r = a then oa r else 0) n
theorem ur_par_iff {P oa : Nat → Nat} {n a b : Nat} : um_ahead P oa n a b = true ↔ (ur_ps P oa n b < ur_ps P oa n a ∨ (ur_ps P oa n a = ur_ps P oa n b ∧ (um_gW P n b < um_gW P n a ∨ (um_gW P n a = um_gW P n b ∧ a < b)))) := by
  unfold um_ahead
  show (if ur_ps P oa n a = ur_ps P oa n b then (if um_gW P n a = um_gW P n b then decide (a < b) else decide (um_gW P n b < um_gW P n a)) else decide (ur_ps P oa n b < ur_ps P oa n a)) = true ↔ _
  split
  · split
    · rw [decide_eq_true_eq]
      omega
    · rw [decide_eq_true_eq]
      omega
  · rw [decide_eq_true_eq]
    omega
theorem ur_par_irr {P oa : Nat → Nat} {n : Nat} (i : Nat) : um_ahead P oa n i i = false := by
  cases h : um_ahead P oa n i i
  · rfl
  · rw [ur_par_iff] at h
    omega
theorem ur_par_tr {P oa : Nat → Nat} {n : Nat} (a b c : Nat) (h1 : um_ahead P oa n a b = true) (h2 : um_ahead P oa n b c = true) : um_ahead P oa n a c = true := by
  rw [ur_par_iff] at *
  omega
theorem ur_par_tot {P oa : Nat → Nat} {n : Nat} (a b : Nat) (h : a ≠ b) : um_ahead P oa n a b = true ∨ um_ahead P oa n b a = true := by
  rw [ur_par_iff, ur_par_iff]
  omega
/-- what rustiest and ranked answer -/
abbrev ur_R (f : Nat → Nat) : Nat → Nat → Bool := um_rustier (fun r => f (13 + 6 * r)) (fun r => f (14 + 6 * r))
abbrev ur_P (f : Nat → Nat) : Nat → Nat → Bool := um_ahead (um_pa f) (fun r => f (14 + 6 * r)) (f 0)
theorem ur_rustiest {f : Nat → Nat} {c r : Nat} (hI : um_I f c) (hr : r < f 0) : ∃ i, i < f 0 ∧ ur_rk (ur_R f) (f 0) i = r ∧ ux_rustiest f (nI r) = nI i := by
  have h12 := hI.2.1
  obtain ⟨i, h1, h2⟩ := ur_rk_ex (R := ur_R f) (n := f 0) ur_rust_irr ur_rust_tr ur_rust_tot hr
  obtain ⟨j, g1, g2, g3⟩ := ur_fst (R := ur_R f) (n := f 0) (r := r) (by omega) hr (f 0) 0 (by omega) ⟨i, by omega, h1, h2⟩
  exact ⟨j, g1, g2, (uw_rustiest hI).trans g3⟩
theorem ur_rustiestNo {f : Nat → Nat} {c : Nat} (hI : um_I f c) : ux_rustiest f (nI (f 0)) = -1011 := by
  have h12 := hI.2.1
  exact (uw_rustiest hI).trans (ur_fstN (R := ur_R f) (Nat.le_refl _) (by omega) ur_rust_irr (f 0) 0 (by omega))
theorem ur_ranked {f : Nat → Nat} {c r : Nat} (hI : um_I f c) (hr : r < 4) : ∃ i, i < 4 ∧ ur_rk (ur_P f) 4 i = r ∧ ux_ranked f (nI r) = nI i := by
  obtain ⟨i, h1, h2⟩ := ur_rk_ex (R := ur_P f) (n := 4) ur_par_irr ur_par_tr ur_par_tot hr
  obtain ⟨j, g1, g2, g3⟩ := ur_fst (R := ur_P f) (n := 4) (r := r) (by omega) hr 4 0 (by omega) ⟨i, by omega, h1, h2⟩
  exact ⟨j, g1, g2, (uw_ranked hI).trans g3⟩
theorem ur_rankedNo {f : Nat → Nat} {c : Nat} (hI : um_I f c) : ux_ranked f (nI 4) = -1011 :=
  (uw_ranked hI).trans (ur_fstN (R := ur_P f) (Nat.le_refl _) (by decide) ur_par_irr 4 0 rfl)
/-- one rank behind the other -/
theorem ur_next {f : Nat → Nat} {i j r : Nat} (hj : j < f 0) (h1 : ur_rk (ur_R f) (f 0) i = r) (h2 : ur_rk (ur_R f) (f 0) j = r + 1) : f (13 + 6 * j) < f (13 + 6 * i) ∨ (f (13 + 6 * i) = f (13 + 6 * j) ∧ (f (14 + 6 * i) < f (14 + 6 * j) ∨ (f (14 + 6 * i) = f (14 + 6 * j) ∧ i < j))) :=
  ur_rust_iff.mp (ur_rk_R (R := ur_R f) (n := f 0) (i := i) (j := j) ur_rust_irr ur_rust_tr ur_rust_tot hj (by rw [h1, h2]; exact Nat.lt_succ_self r))
theorem ur_nextP {f : Nat → Nat} {i j r : Nat} (hj : j < 4) (h1 : ur_rk (ur_P f) 4 i = r) (h2 : ur_rk (ur_P f) 4 j = r + 1) : ur_ps (um_pa f) (fun r => f (14 + 6 * r)) (f 0) j < ur_ps (um_pa f) (fun r => f (14 + 6 * r)) (f 0) i ∨ (ur_ps (um_pa f) (fun r => f (14 + 6 * r)) (f 0) i = ur_ps (um_pa f) (fun r => f (14 + 6 * r)) (f 0) j ∧ (um_gW (um_pa f) (f 0) j < um_gW (um_pa f) (f 0) i ∨ (um_gW (um_pa f) (f 0) i = um_gW (um_pa f) (f 0) j ∧ i < j))) :=
  ur_par_iff.mp (ur_rk_R (R := ur_P f) (n := 4) (i := i) (j := j) ur_par_irr ur_par_tr ur_par_tot hj (by rw [h1, h2]; exact Nat.lt_succ_self r))
