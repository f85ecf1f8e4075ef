/-! ===== what holds further of every state that the law comes to ===== -/
def uj_key (f : Nat → Nat) (k : Nat) : Nat := (f (84 + 3 * k) * 10 + (9 - f (85 + 3 * k))) * 16 + f (83 + 3 * k)
def uJ (f : Nat → Nat) : Prop :=
  (∀ i j, i < j → j < f 1 → uj_key f i ≤ uj_key f j) ∧ (∀ k, k < f 1 → f 2 ≤ f (84 + 3 * k)) ∧ f 9 = min 20 (f 5) ∧
  (∀ k, k < f 9 → f (131 + 4 * k) < f 0 ∧ f (132 + 4 * k) < 24 ∧ f (133 + 4 * k) ≤ f 3 ∧ 1 ≤ f (134 + 4 * k) ∧ f (134 + 4 * k) ≤ 9 ∧ (f (133 + 4 * k) = f 3 → (f (211 + f (132 + 4 * k))).testBit (f (131 + 4 * k)) = true ∧ f (132 + 4 * k) ≤ f 2)) ∧
  (∀ k, k + 1 < f 9 → f (133 + 4 * (k + 1)) < f (133 + 4 * k) ∨ (f (133 + 4 * (k + 1)) = f (133 + 4 * k) ∧ f (132 + 4 * (k + 1)) ≤ f (132 + 4 * k))) ∧
  (∀ h, h < 24 → f 2 < h → f (211 + h) = 0)
/-- what touches neither pulls nor hours, days, answers keeps it -/
theorem uJ_keep {f g : Nat → Nat} (hJ : uJ f) (h0 : f 0 ≤ g 0) (h : ∀ q, q = 1 ∨ q = 2 ∨ q = 3 ∨ q = 5 ∨ q = 9 ∨ 83 ≤ q → g q = f q) : uJ g := by
  obtain ⟨j1, j2, j3, j4, j5, j6⟩ := hJ
  have e1 := h 1 (by omega)
  have e2 := h 2 (by omega)
  have e3 := h 3 (by omega)
  have e5 := h 5 (by omega)
  have e9 := h 9 (by omega)
  have ek : ∀ k, uj_key g k = uj_key f k := fun k => by
    unfold uj_key
    rw [h _ (by omega), h _ (by omega), h _ (by omega)]
  refine ⟨fun i j hij hj => ?_, fun k hk => ?_, by rw [e9, e5]; exact j3, fun k hk => ?_, fun k hk => ?_, fun t ht h2 => ?_⟩
  · rw [ek, ek]
    exact j1 i j hij (by omega)
  · rw [e2, h _ (by omega)]
    exact j2 k (by omega)
  · have := j4 k (by omega)
    rw [h (131 + 4 * k) (by omega), h (132 + 4 * k) (by omega), h (133 + 4 * k) (by omega), h (134 + 4 * k) (by omega), e3, e2, h (211 + f (132 + 4 * k)) (by omega)]
    exact ⟨by omega, this.2⟩
  · rw [h (133 + 4 * (k + 1)) (by omega), h (133 + 4 * k) (by omega), h (132 + 4 * (k + 1)) (by omega), h (132 + 4 * k) (by omega)]
    exact j5 k (by omega)
  · rw [h _ (by omega)]
    exact j6 t ht (by omega)
theorem uJ_rope {f f' : Nat → Nat} {x y : Int32} (hJ : uJ f) (h12 : f 0 ≤ 12) (hU : uq_rope f f' x y) : uJ f' := by
  rcases hU with ⟨-, -, rfl⟩ | ⟨p, hp, -, ⟨-, -, rfl⟩ | ⟨hn, -, rfl⟩⟩
  · exact hJ
  · exact hJ
  · refine uJ_keep hJ (by unfold uq_ropeF; rw [um_up_eq rfl]; omega) (fun q hq => ?_)
    unfold uq_ropeF
    rw [um_up_ne (by omega), um_up_ne (by omega), um_up_ne (by omega)]
theorem uJ_one {f : Nat → Nat} {a x : Nat} (hJ : uJ f) (ha : 11 ≤ a) (hb : a < 83) : uJ (um_up f a x) :=
  uJ_keep hJ (by rw [um_up_ne (by omega)]; exact Nat.le_refl _) (fun q hq => um_up_ne (by omega))
theorem uJ_move {f f' : Nat → Nat} {x p y : Int32} (hJ : uJ f) (h12 : f 0 ≤ 12) (hU : uq_move f f' x p y) : uJ f' := by
  rcases hU with ⟨-, -, rfl⟩ | ⟨r, hr, -, ⟨-, -, rfl⟩ | ⟨k, -, -, ⟨-, -, rfl⟩ | ⟨-, -, rfl⟩⟩⟩
  · exact hJ
  · exact hJ
  · exact hJ
  · exact uJ_one hJ (by omega) (by omega)
theorem uJ_sensor {f f' : Nat → Nat} {x p y : Int32} (hJ : uJ f) (h12 : f 0 ≤ 12) (hU : uq_sensor f f' x p y) : uJ f' := by
  rcases hU with ⟨-, -, rfl⟩ | ⟨r, hr, -, ⟨-, -, rfl⟩ | ⟨k, -, -, ⟨-, -, rfl⟩ | ⟨-, -, rfl⟩⟩⟩
  · exact hJ
  · exact hJ
  · exact hJ
  · exact uJ_one hJ (by omega) (by omega)
theorem uJ_oil {f f' : Nat → Nat} {x p y : Int32} (hJ : uJ f) (h12 : f 0 ≤ 12) (hU : uq_oil f f' x p y) : uJ f' := by
  rcases hU with ⟨-, -, rfl⟩ | ⟨r, hr, -, ⟨-, -, rfl⟩ | ⟨k, -, -, -, ⟨-, -, rfl⟩ | ⟨-, -, rfl⟩⟩⟩
  · exact hJ
  · exact hJ
  · exact hJ
  · exact uJ_one hJ (by omega) (by omega)
/-- pulls -/
theorem uj_bef {f : Nat → Nat} {i r h s : Nat} (hr : r < 16) (hs : s ≤ 9) (hs1 : 1 ≤ s) (h1 : f (83 + 3 * i) < 16) (h3 : f (85 + 3 * i) ≤ 9) (h4 : 1 ≤ f (85 + 3 * i)) : um_bef f i r h s = decide ((h * 10 + (9 - s)) * 16 + r < uj_key f i) := by
  unfold um_bef uj_key
  by_cases e : h = f (84 + 3 * i)
  · rw [if_pos e]
    by_cases e2 : s = f (85 + 3 * i)
    · rw [if_pos e2]
      exact decide_eq_decide.mpr (by omega)
    · rw [if_neg e2]
      exact decide_eq_decide.mpr (by omega)
  · rw [if_neg e]
    exact decide_eq_decide.mpr (by omega)
theorem uj_pos {f : Nat → Nat} {r h s : Nat} (hr : r < 16) (hs : s ≤ 9) (hs1 : 1 ≤ s) : ∀ n, (∀ k, k < n → f (83 + 3 * k) < 16 ∧ f (85 + 3 * k) ≤ 9 ∧ 1 ≤ f (85 + 3 * k)) → (∀ i j, i < j → j < n → uj_key f i ≤ uj_key f j) →
    (∀ i, i < um_pos f r h s n → uj_key f i ≤ (h * 10 + (9 - s)) * 16 + r) ∧ (∀ i, um_pos f r h s n ≤ i → i < n → (h * 10 + (9 - s)) * 16 + r < uj_key f i)
  | 0, _, _ => ⟨fun i hi => absurd (Nat.lt_of_lt_of_le hi (um_pos_le 0)) (Nat.not_lt_zero i), fun i _ h => absurd h (Nat.not_lt_zero i)⟩
  | n + 1, hb, hk => by
    obtain ⟨b1, b2, b3⟩ := hb n (Nat.lt_succ_self n)
    have eb := uj_bef (h := h) hr hs hs1 b1 b2 b3
    rw [um_pos]
    by_cases e : (h * 10 + (9 - s)) * 16 + r < uj_key f n
    · rw [eb, decide_eq_true e, if_pos rfl]
      obtain ⟨i1, i2⟩ := uj_pos (h := h) hr hs hs1 n (fun k hk => hb k (by omega)) (fun i j h1 h2 => hk i j h1 (by omega))
      refine ⟨i1, fun i h1 h2 => ?_⟩
      by_cases e3 : i = n
      · rw [e3]
        exact e
      · exact i2 i h1 (by omega)
    · rw [eb, decide_eq_false e, if_neg (by decide)]
      refine ⟨fun i hi => ?_, fun i h1 h2 => by omega⟩
      by_cases e3 : i = n
      · rw [e3]
        omega
      · have := hk i n (by omega) (Nat.lt_succ_self n)
        omega
theorem uj_ins_at {f : Nat → Nat} {p r h s k : Nat} (hp : p ≤ f 1) (h1 : f 1 < 16) (hk : k < f 1 + 1) : uj_key (um_insF f p r h s) k = if k < p then uj_key f k else if k = p then (h * 10 + (9 - s)) * 16 + r else uj_key f (k - 1) := by
  have hq : ∀ j, j < 3 → um_insF f p r h s (83 + 3 * k + j) = if k < p then f (83 + 3 * k + j) else if k = p then (if j = 0 then r else if j = 1 then h else s) else f (83 + 3 * (k - 1) + j) := fun j hj => by
    unfold um_insF um_sh
    by_cases a1 : k < p
    · rw [if_pos a1]
      rw [um_up_ne (by omega), um_up_ne (by omega), um_up_ne (by omega), um_up_ne (by omega), um_up_ne (by omega), um_mix_out (by omega)]
    · rw [if_neg a1]
      by_cases a2 : k = p
      · subst a2
        rw [if_pos rfl]
        rcases (show j = 0 ∨ j = 1 ∨ j = 2 by omega) with rfl | rfl | rfl
        · rw [if_pos rfl]
          simp (disch := omega) only [um_up_ne, um_up_eq]
        · rw [if_neg (by decide), if_pos rfl]
          simp (disch := omega) only [um_up_ne, um_up_eq]
        · rw [if_neg (by decide), if_neg (by decide)]
          simp (disch := omega) only [um_up_ne, um_up_eq]
      · rw [if_neg a2]
        rw [um_up_ne (by omega), um_up_ne (by omega), um_up_ne (by omega), um_up_ne (by omega), um_up_ne (by omega), um_mix_in (by omega)]
        congr 1
        omega
  have q0 := hq 0 (by decide)
  have q1 := hq 1 (by decide)
  have q2 := hq 2 (by decide)
  unfold uj_key
  rw [show 84 + 3 * k = 83 + 3 * k + 1 by omega, show 85 + 3 * k = 83 + 3 * k + 2 by omega, show 83 + 3 * k = 83 + 3 * k + 0 from rfl, q0, q1, q2]
  by_cases a1 : k < p
  · rw [if_pos a1, if_pos a1, if_pos a1, if_pos a1]
  · rw [if_neg a1, if_neg a1, if_neg a1, if_neg a1]
    by_cases a2 : k = p
    · rw [if_pos a2, if_pos a2, if_pos a2, if_pos a2]
      rfl
    · rw [if_neg a2, if_neg a2, if_neg a2, if_neg a2]
      rw [show 84 + 3 * (k - 1) = 83 + 3 * (k - 1) + 1 by omega, show 85 + 3 * (k - 1) = 83 + 3 * (k - 1) + 2 by omega]
      rfl
theorem uJ_ins {f : Nat → Nat} {c r t k : Nat} (hI : um_I f c) (hJ : uJ f) (h16 : ¬ f 1 = 16) (hr : r < f 0) (ht : t < 24) (ht2 : ¬ t < f 2) (hk : 1 ≤ k) (hk9 : k ≤ 9) : uJ (um_insF f (um_pos f r t k (f 1)) r t k) := by
  obtain ⟨q0, q1, q2, q3, q4, q5, q6, q7, q8, q9, q10, q11, q12, q13, q14, q15⟩ := hI
  obtain ⟨j1, j2, j3, j4, j5, j6⟩ := hJ
  have hp := um_pos_le (f := f) (r := r) (h := t) (s := k) (f 1)
  obtain ⟨p1, p2⟩ := uj_pos (f := f) (r := r) (h := t) (s := k) (by omega) hk9 hk (f 1) (fun i hi => by have := q14 i hi; omega) j1
  generalize um_pos f r t k (f 1) = p at *
  have A : ∀ q, q ≠ 1 ∧ q ≠ 4 ∧ (q < 83 ∨ 131 ≤ q) → um_insF f p r t k q = f q := fun q hq => um_insF_at hp (by omega) hq
  have e1 : um_insF f p r t k 1 = f 1 + 1 := by
    unfold um_insF
    simp (disch := omega) only [um_up_ne, um_up_eq]
  have ek := fun i (hi : i < f 1 + 1) => uj_ins_at (f := f) (p := p) (r := r) (h := t) (s := k) hp (by omega) hi
  have hh : ∀ i, i < f 1 + 1 → f 2 ≤ um_insF f p r t k (84 + 3 * i) := fun i hi => by
    have e9 := ek i hi
    have b1 : um_insF f p r t k (83 + 3 * i) < 16 ∧ um_insF f p r t k (85 + 3 * i) ≤ 9 := by
      unfold um_insF um_sh
      by_cases a1 : i < p
      · have := q14 i (by omega)
        rw [um_up_ne (by omega), um_up_ne (by omega), um_up_ne (by omega), um_up_ne (by omega), um_up_ne (by omega), um_mix_out (by omega), um_up_ne (by omega), um_up_ne (by omega), um_up_ne (by omega), um_up_ne (by omega), um_up_ne (by omega), um_mix_out (by omega)]
        omega
      · by_cases a2 : i = p
        · subst a2
          simp (disch := omega) only [um_up_ne, um_up_eq]
          omega
        · have := q14 (i - 1) (by omega)
          rw [um_up_ne (by omega), um_up_ne (by omega), um_up_ne (by omega), um_up_ne (by omega), um_up_ne (by omega), um_mix_in (by omega), um_up_ne (by omega), um_up_ne (by omega), um_up_ne (by omega), um_up_ne (by omega), um_up_ne (by omega), um_mix_in (by omega)]
          rw [show 83 + 3 * i - 3 = 83 + 3 * (i - 1) by omega, show 85 + 3 * i - 3 = 85 + 3 * (i - 1) by omega]
          omega
    by_cases a1 : i < p
    · rw [if_pos a1] at e9
      have := j2 i (by omega)
      have := q14 i (by omega)
      unfold uj_key at e9
      omega
    · rw [if_neg a1] at e9
      by_cases a2 : i = p
      · rw [if_pos a2] at e9
        unfold uj_key at e9
        omega
      · rw [if_neg a2] at e9
        have := j2 (i - 1) (by omega)
        have := q14 (i - 1) (by omega)
        unfold uj_key at e9
        omega
  refine ⟨fun i j hij hj => ?_, fun i hi => ?_, ?_, fun i hi => ?_, fun i hi => ?_, fun h hh2 h3 => ?_⟩
  · rw [e1] at hj
    rw [ek i (by omega), ek j hj]
    by_cases a1 : i < p
    · rw [if_pos a1]
      by_cases a2 : j < p
      · rw [if_pos a2]
        exact j1 i j hij (by omega)
      · rw [if_neg a2]
        by_cases a3 : j = p
        · rw [if_pos a3]
          exact p1 i a1
        · rw [if_neg a3]
          by_cases a4 : i = j - 1
          · omega
          · exact j1 i (j - 1) (by omega) (by omega)
    · rw [if_neg a1, if_neg (show ¬ j < p by omega)]
      by_cases a2 : i = p
      · rw [if_pos a2, if_neg (show ¬ j = p by omega)]
        exact Nat.le_of_lt (p2 (j - 1) (by omega) (by omega))
      · rw [if_neg a2, if_neg (show ¬ j = p by omega)]
        exact j1 (i - 1) (j - 1) (by omega) (by omega)
  · rw [e1] at hi
    rw [A 2 (by omega)]
    exact hh i hi
  · rw [A 9 (by omega), A 5 (by omega)]
    exact j3
  · rw [A 9 (by omega)] at hi
    rw [A (131 + 4 * i) (by omega), A (132 + 4 * i) (by omega), A (133 + 4 * i) (by omega), A (134 + 4 * i) (by omega), A 0 (by omega), A 3 (by omega), A 2 (by omega), A (211 + f (132 + 4 * i)) (by omega)]
    exact j4 i hi
  · rw [A 9 (by omega)] at hi
    rw [A (133 + 4 * (i + 1)) (by omega), A (132 + 4 * (i + 1)) (by omega), A (133 + 4 * i) (by omega), A (132 + 4 * i) (by omega)]
    exact j5 i hi
  · rw [A 2 (by omega)] at h3
    rw [A (211 + h) (by omega)]
    exact j6 h hh2 h3
theorem uJ_pull {f f' : Nat → Nat} {c : Nat} {x h s y : Int32} (hI : um_I f c) (hJ : uJ f) (hU : uq_pull f f' x h s y) : uJ f' := by
  rcases hU with ⟨-, -, rfl⟩ | ⟨r, hr, -, ⟨-, -, rfl⟩ | ⟨t, ht, -, ⟨-, -, rfl⟩ | ⟨k, hk, hk9, -, ⟨-, -, rfl⟩ | ⟨h2, h16, -, rfl⟩⟩⟩⟩
  · exact hJ
  · exact hJ
  · exact hJ
  · exact hJ
  · exact uJ_ins hI hJ h16 hr ht h2 hk hk9
/-- a pull is taken away at a rope -/
def uj_kt (t : Nat × Nat × Nat) : Nat := (t.2.1 * 10 + (9 - t.2.2)) * 16 + t.1
theorem uj_key_tr {f : Nat → Nat} {k : Nat} : uj_key f k = uj_kt (um_tr f k) := rfl
theorem uj_lst_get {f : Nat → Nat} {k : Nat} (h : k < (um_lst f).length) : (um_lst f)[k] = um_tr f k := by
  have h2 := um_lst_at (f := f) (k := k) (by rw [um_lst_len] at h; exact h)
  rw [List.getElem?_eq_getElem h] at h2
  exact Option.some.inj h2
theorem uj_sorted {f : Nat → Nat} : (∀ i j, i < j → j < f 1 → uj_key f i ≤ uj_key f j) ↔ (um_lst f).Pairwise (fun a b => uj_kt a ≤ uj_kt b) := by
  rw [List.pairwise_iff_getElem]
  constructor
  · intro h i j hi hj hij
    rw [uj_lst_get, uj_lst_get]
    exact h i j hij (by rw [um_lst_len] at hj; exact hj)
  · intro h i j hij hj
    have hj' : j < (um_lst f).length := by rw [um_lst_len]; exact hj
    have := h i j (by omega) hj' hij
    rw [uj_lst_get, uj_lst_get] at this
    exact this
theorem uJ_cancel {f f' : Nat → Nat} {c : Nat} {x y : Int32} (hI : um_I f c) (hJ : uJ f) (hU : uq_cancel f f' x y) : uJ f' := by
  rcases hU with ⟨-, -, rfl⟩ | ⟨r, hr, -, ⟨-, rfl⟩ | ⟨-, rfl⟩⟩
  · exact hJ
  · exact hJ
  · obtain ⟨e1, e2, e3, -⟩ := um_canF_lst (f := f) (r := r) hI.2.2.1
    obtain ⟨j1, j2, j3, j4, j5, j6⟩ := hJ
    have A : ∀ q, q ≠ 1 → q ≠ 8 → (q < 83 ∨ 131 ≤ q) → um_canF f r q = f q := e2
    refine ⟨?_, fun k hk => ?_, by rw [A 9 (by omega) (by omega) (by omega), A 5 (by omega) (by omega) (by omega)]; exact j3, fun k hk => ?_, fun k hk => ?_, fun t ht h2 => ?_⟩
    · rw [uj_sorted, e1]
      exact (uj_sorted.mp j1).filter _
    · rw [A 2 (by omega) (by omega) (by omega)]
      have hk' : k < (um_lst (um_canF f r)).length := by rw [um_lst_len]; exact hk
      have hm : um_tr (um_canF f r) k ∈ um_lst f := by
        have h3 : um_tr (um_canF f r) k ∈ um_lst (um_canF f r) := by
          rw [← uj_lst_get hk']
          exact List.getElem_mem _
        rw [e1] at h3
        exact (List.mem_filter.mp h3).1
      obtain ⟨i, hi, e4⟩ := List.getElem_of_mem hm
      rw [uj_lst_get] at e4
      rw [um_lst_len] at hi
      have h5 := j2 i hi
      have e5 : f (84 + 3 * i) = um_canF f r (84 + 3 * k) := congrArg (fun t => t.2.1) e4
      omega
    · rw [A 9 (by omega) (by omega) (by omega)] at hk
      have h9 : f 9 ≤ 20 := hI.2.2.2.2.2.2.2.2.1
      have := j4 k hk
      rw [A (131 + 4 * k) (by omega) (by omega) (by omega), A (132 + 4 * k) (by omega) (by omega) (by omega), A (133 + 4 * k) (by omega) (by omega) (by omega), A (134 + 4 * k) (by omega) (by omega) (by omega), A 0 (by omega) (by omega) (by omega), A 3 (by omega) (by omega) (by omega), A 2 (by omega) (by omega) (by omega), A (211 + f (132 + 4 * k)) (by omega) (by omega) (by omega)]
      exact this
    · rw [A 9 (by omega) (by omega) (by omega)] at hk
      rw [A (133 + 4 * (k + 1)) (by omega) (by omega) (by omega), A (132 + 4 * (k + 1)) (by omega) (by omega) (by omega), A (133 + 4 * k) (by omega) (by omega) (by omega), A (132 + 4 * k) (by omega) (by omega) (by omega)]
      exact j5 k hk
    · rw [A 2 (by omega) (by omega) (by omega)] at h2
      rw [A (211 + t) (by omega) (by omega) (by omega)]
      exact j6 t ht h2
/-- rings -/
theorem uj_ring2_pull {f : Nat → Nat} {k j : Nat} (hk : k + 1 < 16) (hj : j < 3) : um_ring2 f (83 + 3 * k + j) = f (83 + 3 * (k + 1) + j) := by
  unfold um_ring2
  rw [um_up_ne (by omega), um_up_ne (by omega), um_goesF_in (by omega)]
  congr 1
  omega
theorem uJ_ring2 {f : Nat → Nat} {c : Nat} (hI : um_I f c) (hJ : uJ f) (h1 : 0 < f 1) : uJ (um_ring2 f) := by
  have h16 := hI.2.2.1
  have h9 : f 9 ≤ 20 := hI.2.2.2.2.2.2.2.2.1
  have q14 := hI.2.2.2.2.2.2.2.2.2.2.2.2.2.2.1
  obtain ⟨j1, j2, j3, j4, j5, j6⟩ := hJ
  have e1 : um_ring2 f 1 = f 1 - 1 := by
    unfold um_ring2
    rw [um_up_ne (by omega), um_up_ne (by omega), um_goesF_1]
  have e2 : um_ring2 f 2 = f 84 := by
    unfold um_ring2
    rw [um_up_ne (by omega), um_up_eq rfl]
  have A : ∀ q, (q ≠ 1 ∧ q ≠ 2 ∧ q ≠ 10 ∧ (q < 83 ∨ 131 ≤ q)) → um_ring2 f q = f q := fun q h => um_ring2_at h
  have ek : ∀ k, k + 1 < f 1 → uj_key (um_ring2 f) k = uj_key f (k + 1) := fun k hk => by
    unfold uj_key
    have a0 := uj_ring2_pull (f := f) (k := k) (j := 0) (by omega) (by omega)
    have a1 := uj_ring2_pull (f := f) (k := k) (j := 1) (by omega) (by omega)
    have a2 := uj_ring2_pull (f := f) (k := k) (j := 2) (by omega) (by omega)
    rw [show 84 + 3 * k = 83 + 3 * k + 1 by omega, show 85 + 3 * k = 83 + 3 * k + 2 by omega, show 83 + 3 * k = 83 + 3 * k + 0 from rfl, a0, a1, a2, show 84 + 3 * (k + 1) = 83 + 3 * (k + 1) + 1 by omega, show 85 + 3 * (k + 1) = 83 + 3 * (k + 1) + 2 by omega]
    rfl
  have h84 : f 2 ≤ f 84 := j2 0 h1
  refine ⟨fun i j hij hj => ?_, fun k hk => ?_, by rw [A 9 (by omega), A 5 (by omega)]; exact j3, fun k hk => ?_, fun k hk => ?_, fun t ht h2 => ?_⟩
  · rw [e1] at hj
    rw [ek i (by omega), ek j (by omega)]
    exact j1 (i + 1) (j + 1) (by omega) (by omega)
  · rw [e1] at hk
    have a1 := uj_ring2_pull (f := f) (k := k) (j := 1) (by omega) (by omega)
    rw [e2, show 84 + 3 * k = 83 + 3 * k + 1 by omega, a1]
    have hs := j1 0 (k + 1) (by omega) (by omega)
    have b0 := q14 0 h1
    have b1 := q14 (k + 1) (by omega)
    have h12 := hI.2.1
    unfold uj_key at hs
    simp only [Nat.mul_zero, Nat.add_zero] at hs b0
    rw [show 83 + 3 * (k + 1) + 1 = 84 + 3 * (k + 1) by omega]
    omega
  · rw [A 9 (by omega)] at hk
    have := j4 k hk
    rw [A (131 + 4 * k) (by omega), A (132 + 4 * k) (by omega), A (133 + 4 * k) (by omega), A (134 + 4 * k) (by omega), A 0 (by omega), A 3 (by omega), e2, A (211 + f (132 + 4 * k)) (by omega)]
    exact ⟨this.1, this.2.1, this.2.2.1, this.2.2.2.1, this.2.2.2.2.1, fun e => ⟨(this.2.2.2.2.2 e).1, Nat.le_trans (this.2.2.2.2.2 e).2 h84⟩⟩
  · rw [A 9 (by omega)] at hk
    rw [A (133 + 4 * (k + 1)) (by omega), A (132 + 4 * (k + 1)) (by omega), A (133 + 4 * k) (by omega), A (132 + 4 * k) (by omega)]
    exact j5 k hk
  · rw [e2] at h2
    rw [A (211 + t) (by omega)]
    exact j6 t ht (by omega)
theorem uJ_ans {g : Nat → Nat} {r s : Nat} (hJ : uJ g) (h16 : g 1 ≤ 16) (h12 : g 0 ≤ 12) (h9 : g 9 ≤ 20) (h2 : g 2 < 24) (hr : r < g 0) (hs : 1 ≤ s) (hs9 : s ≤ 9) : uJ (um_ansF g r (g 2) s) := by
  obtain ⟨j1, j2, j3, j4, j5, j6⟩ := hJ
  have A : ∀ q, q ≠ 13 + 6 * r → q ≠ 14 + 6 * r → q ≠ 5 → q ≠ 9 → q ≠ 211 + g 2 → (q < 131 ∨ 211 ≤ q) → um_ansF g r (g 2) s q = g q := fun q a1 a2 a3 a4 a5 a6 => by
    unfold um_ansF
    rw [um_up_ne (by omega), um_up_ne (by omega), um_up_ne (by omega), um_up_ne (by omega), um_up_ne (by omega), um_mix_out (by omega), um_up_ne a5, um_up_ne a3, um_up_ne a2, um_up_ne a1]
  have B : ∀ k j, k < 19 → j < 4 → um_ansF g r (g 2) s (131 + 4 * (k + 1) + j) = g (131 + 4 * k + j) := fun k j hk hj => by
    unfold um_ansF
    rw [um_up_ne (by omega), um_up_ne (by omega), um_up_ne (by omega), um_up_ne (by omega), um_up_ne (by omega), um_mix_in (by omega)]
    congr 1
    omega
  have e9 : um_ansF g r (g 2) s 9 = if 20 ≤ g 9 then 20 else g 9 + 1 := by
    unfold um_ansF
    rw [um_up_eq rfl]
  have e131 : um_ansF g r (g 2) s 131 = r := by
    unfold um_ansF
    simp (disch := omega) only [um_up_ne, um_up_eq]
  have e132 : um_ansF g r (g 2) s 132 = g 2 := by
    unfold um_ansF
    simp (disch := omega) only [um_up_ne, um_up_eq]
  have e133 : um_ansF g r (g 2) s 133 = g 3 := by
    unfold um_ansF
    simp (disch := omega) only [um_up_ne, um_up_eq]
  have e134 : um_ansF g r (g 2) s 134 = s := by
    unfold um_ansF
    simp (disch := omega) only [um_up_ne, um_up_eq]
  have e5 : um_ansF g r (g 2) s 5 = g 5 + 1 := by
    unfold um_ansF
    rw [um_up_ne (by omega), um_up_ne (by omega), um_up_ne (by omega), um_up_ne (by omega), um_up_ne (by omega), um_mix_out (by omega), um_up_ne (by omega), um_up_eq rfl]
  have eh : um_ansF g r (g 2) s (211 + g 2) = g (211 + g 2) ||| 2 ^ r := by
    unfold um_ansF
    rw [um_up_ne (by omega), um_up_ne (by omega), um_up_ne (by omega), um_up_ne (by omega), um_up_ne (by omega), um_mix_out (by omega), um_up_eq rfl]
  have e0 := A 0 (by omega) (by omega) (by omega) (by omega) (by omega) (by omega)
  have e1 := A 1 (by omega) (by omega) (by omega) (by omega) (by omega) (by omega)
  have e2 := A 2 (by omega) (by omega) (by omega) (by omega) (by omega) (by omega)
  have e3 := A 3 (by omega) (by omega) (by omega) (by omega) (by omega) (by omega)
  have hbit : ∀ h x, h < 24 → (g (211 + h)).testBit x = true → (um_ansF g r (g 2) s (211 + h)).testBit x = true := fun h x hh hx => by
    by_cases e : h = g 2
    · rw [e, eh, Nat.testBit_or]
      rw [e] at hx
      rw [hx]
      rfl
    · rw [A (211 + h) (by omega) (by omega) (by omega) (by omega) (by omega) (by omega)]
      exact hx
  have ek : ∀ k, k < 16 → uj_key (um_ansF g r (g 2) s) k = uj_key g k := fun k hk => by
    unfold uj_key
    rw [A _ (by omega) (by omega) (by omega) (by omega) (by omega) (by omega), A _ (by omega) (by omega) (by omega) (by omega) (by omega) (by omega), A _ (by omega) (by omega) (by omega) (by omega) (by omega) (by omega)]
  refine ⟨fun i j hij hj => ?_, fun k hk => ?_, ?_, fun k hk => ?_, fun k hk => ?_, fun t ht h3 => ?_⟩
  · rw [e1] at hj
    rw [ek i (by omega), ek j (by omega)]
    exact j1 i j hij hj
  · rw [e1] at hk
    rw [e2]
    rw [A _ (by omega) (by omega) (by omega) (by omega) (by omega) (by omega)]
    exact j2 k hk
  · rw [e9, e5]
    split <;> omega
  · rw [e9] at hk
    rcases k with _ | k
    · simp only [Nat.mul_zero, Nat.add_zero]
      rw [e131, e132, e133, e134, e0, e3, e2]
      refine ⟨hr, h2, Nat.le_refl _, hs, hs9, fun _ => ⟨?_, Nat.le_refl _⟩⟩
      rw [eh, Nat.testBit_or, Nat.testBit_two_pow_self, Bool.or_true]
    · have hk19 : k < 19 := by
        split at hk <;> omega
      have hk9 : k < g 9 := by
        split at hk <;> omega
      have b0 := B k 0 hk19 (by omega)
      have b1 := B k 1 hk19 (by omega)
      have b2 := B k 2 hk19 (by omega)
      have b3 := B k 3 hk19 (by omega)
      have c0 : 131 + 4 * (k + 1) + 0 = 131 + 4 * (k + 1) := rfl
      have c1 : 131 + 4 * (k + 1) + 1 = 132 + 4 * (k + 1) := by omega
      have c2 : 131 + 4 * (k + 1) + 2 = 133 + 4 * (k + 1) := by omega
      have c3 : 131 + 4 * (k + 1) + 3 = 134 + 4 * (k + 1) := by omega
      have d0 : 131 + 4 * k + 0 = 131 + 4 * k := rfl
      have d1 : 131 + 4 * k + 1 = 132 + 4 * k := by omega
      have d2 : 131 + 4 * k + 2 = 133 + 4 * k := by omega
      have d3 : 131 + 4 * k + 3 = 134 + 4 * k := by omega
      rw [c0, d0] at b0
      rw [c1, d1] at b1
      rw [c2, d2] at b2
      rw [c3, d3] at b3
      have := j4 k hk9
      rw [b0, b1, b2, b3, e0, e3, e2]
      exact ⟨this.1, this.2.1, this.2.2.1, this.2.2.2.1, this.2.2.2.2.1, fun e => ⟨hbit _ _ this.2.1 (this.2.2.2.2.2 e).1, (this.2.2.2.2.2 e).2⟩⟩
  · rw [e9] at hk
    have hk19 : k < 19 := by
      split at hk <;> omega
    have hk9 : k < g 9 := by
      split at hk <;> omega
    have b1 := B k 1 hk19 (by omega)
    have b2 := B k 2 hk19 (by omega)
    rw [show 131 + 4 * (k + 1) + 1 = 132 + 4 * (k + 1) by omega, show 131 + 4 * k + 1 = 132 + 4 * k by omega] at b1
    rw [show 131 + 4 * (k + 1) + 2 = 133 + 4 * (k + 1) by omega, show 131 + 4 * k + 2 = 133 + 4 * k by omega] at b2
    rw [b1, b2]
    rcases k with _ | k
    · simp only [Nat.mul_zero, Nat.add_zero]
      rw [e132, e133]
      have := j4 0 hk9
      simp only [Nat.mul_zero, Nat.add_zero] at this
      by_cases e : g 133 = g 3
      · exact Or.inr ⟨e, (this.2.2.2.2.2 e).2⟩
      · exact Or.inl (by omega)
    · have b3 := B k 1 (by omega) (by omega)
      have b4 := B k 2 (by omega) (by omega)
      rw [show 131 + 4 * (k + 1) + 1 = 132 + 4 * (k + 1) by omega, show 131 + 4 * k + 1 = 132 + 4 * k by omega] at b3
      rw [show 131 + 4 * (k + 1) + 2 = 133 + 4 * (k + 1) by omega, show 131 + 4 * k + 2 = 133 + 4 * k by omega] at b4
      rw [b3, b4]
      exact j5 k (by omega)
  · rw [e2] at h3
    rw [A (211 + t) (by omega) (by omega) (by omega) (by omega) (by omega) (by omega)]
    exact j6 t ht h3
theorem uJ_ringF {f : Nat → Nat} {c : Nat} (hI : um_I f c) (hJ : uJ f) (h1 : 0 < f 1) : uJ (um_ringF f) := by
  have h2 := uJ_ring2 hI hJ h1
  have h12 := hI.2.1
  have h16 := hI.2.2.1
  have h9 : f 9 ≤ 20 := hI.2.2.2.2.2.2.2.2.1
  have b0 := hI.2.2.2.2.2.2.2.2.2.2.2.2.2.2.1 0 h1
  simp only [Nat.mul_zero, Nat.add_zero] at b0
  have e1 : um_ring2 f 1 = f 1 - 1 := by
    unfold um_ring2
    rw [um_up_ne (by omega), um_up_ne (by omega), um_goesF_1]
  have e2 : um_ring2 f 2 = f 84 := by
    unfold um_ring2
    rw [um_up_ne (by omega), um_up_eq rfl]
  have e0 : um_ring2 f 0 = f 0 := um_ring2_at (by omega)
  have e9 : um_ring2 f 9 = f 9 := um_ring2_at (by omega)
  unfold um_ringF
  split
  · refine uJ_keep h2 (by rw [um_up_ne (by omega), um_up_ne (by omega)]; exact Nat.le_refl _) (fun q hq => ?_)
    rw [um_up_ne (by omega), um_up_ne (by omega)]
  · split
    · have h3 := uJ_ans (r := f 83) (s := f 85) h2 (by omega) (by omega) (by omega) (by omega) (by omega) (by omega) (by omega)
      rw [e2] at h3
      exact h3
    · refine uJ_keep h2 (by rw [um_up_ne (by omega), um_up_ne (by omega)]; exact Nat.le_refl _) (fun q hq => ?_)
      rw [um_up_ne (by omega), um_up_ne (by omega)]
theorem uJ_ring {f f' : Nat → Nat} {c : Nat} {y lr ld lr' ld' : Int32} (hI : um_I f c) (hJ : uJ f) (hU : uq_ring f f' y lr ld lr' ld') : uJ f' := by
  rcases hU with ⟨-, -, rfl, -⟩ | ⟨h1, -, rfl, -⟩
  · exact hJ
  · exact uJ_ringF hI hJ h1
theorem uj_ringF_1 {f : Nat → Nat} : um_ringF f 1 = f 1 - 1 := by
  have e1 : um_ring2 f 1 = f 1 - 1 := by
    unfold um_ring2
    rw [um_up_ne (by omega), um_up_ne (by omega), um_goesF_1]
  unfold um_ringF
  split
  · rw [um_up_ne (by omega), um_up_ne (by omega), e1]
  · split
    · unfold um_ansF
      rw [um_up_ne (by omega), um_up_ne (by omega), um_up_ne (by omega), um_up_ne (by omega), um_up_ne (by omega), um_mix_out (by omega), um_up_ne (by omega), um_up_ne (by omega), um_up_ne (by omega), um_up_ne (by omega), e1]
    · rw [um_up_ne (by omega), um_up_ne (by omega), e1]
theorem uj_hr {h : Nat} : ∀ (k : Nat) (f : Nat → Nat) {c : Nat}, um_I f c → uJ f → k ≤ f 1 → uJ (uq_hr h k f).1
  | 0, _, _, _, hJ, _ => hJ
  | k + 1, f, c, hI, hJ, hk => by
    rw [uq_hr]
    split
    · exact uj_hr k (um_ringF f) (um_I_ring hI (by omega)) (uJ_ringF hI hJ (by omega)) (by rw [uj_ringF_1]; omega)
    · exact hJ
theorem uJ_hour {f f' : Nat → Nat} {c : Nat} {y : Int32} (hI : um_I f c) (hJ : uJ f) (hU : uq_hour f f' y) : uJ f' := by
  rcases hU with ⟨-, -, rfl⟩ | ⟨h1, -, rfl⟩
  · exact hJ
  · exact uj_hr (f 1) f hI hJ (Nat.le_refl _)
theorem uJ_end {f : Nat → Nat} {c : Nat} (hI : um_I f c) (hJ : uJ f) : uJ (um_endF f) := by
  have h12 := hI.2.1
  have h9 : f 9 ≤ 20 := hI.2.2.2.2.2.2.2.2.1
  obtain ⟨r0, r1, r2, r3, r4, r5, r6, r7, r8, r9, r10, -, rA, rH⟩ := um_end_read h12 (fun k hk => by have := hI.2.2.2.2.2.2.2.2.2.2.2.2.2.2.1 k hk; omega)
  obtain ⟨j1, j2, j3, j4, j5, j6⟩ := hJ
  refine ⟨fun i j _ hj => by omega, fun k hk => by omega, by rw [r9, r5]; exact j3, fun k hk => ?_, fun k hk => ?_, fun t ht _ => rH t ht⟩
  · rw [r9] at hk
    have := j4 k hk
    rw [rA (131 + 4 * k) (by omega) (by omega), rA (132 + 4 * k) (by omega) (by omega), rA (133 + 4 * k) (by omega) (by omega), rA (134 + 4 * k) (by omega) (by omega), r0, r3]
    exact ⟨this.1, this.2.1, by omega, this.2.2.2.1, this.2.2.2.2.1, fun e => by omega⟩
  · rw [r9] at hk
    rw [rA (133 + 4 * (k + 1)) (by omega) (by omega), rA (132 + 4 * (k + 1)) (by omega) (by omega), rA (133 + 4 * k) (by omega) (by omega), rA (132 + 4 * k) (by omega) (by omega)]
    exact j5 k hk
