/-! ===== the guesses: which parish is the best, in two ways ===== -/
def um_bt (W G : Nat → Nat) (p q : Nat) : Bool := decide (G q * W p < G p * W q ∨ (G p * W q = G q * W p ∧ (G q < G p ∨ (G p = G q ∧ p < q))))
theorem um_bt_iff {W G : Nat → Nat} {p q : Nat} : um_bt W G p q = true ↔ (G q * W p < G p * W q ∨ (G p * W q = G q * W p ∧ (G q < G p ∨ (G p = G q ∧ p < q)))) := by
  unfold um_bt
  exact decide_eq_true_iff
theorem um_bt_asym {W G : Nat → Nat} {p q : Nat} (h1 : um_bt W G p q = true) (h2 : um_bt W G q p = true) : False := by
  rw [um_bt_iff] at h1 h2
  generalize G p * W q = x at *
  generalize G q * W p = y at *
  omega
theorem um_bt_irr {W G : Nat → Nat} {p : Nat} : um_bt W G p p = false := by
  cases h : um_bt W G p p
  · rfl
  · exact absurd (um_bt_asym h h) id
theorem um_bt_total {W G : Nat → Nat} {p q : Nat} (h : p ≠ q) : um_bt W G p q = true ∨ um_bt W G q p = true := by
  rw [um_bt_iff, um_bt_iff]
  generalize G p * W q = x at *
  generalize G q * W p = y at *
  omega
theorem um_bt_arith {a b c d e f : Nat} (hb : 0 < b) (hd : 0 < d) (hf : 0 < f) (h1 : c * b ≤ a * d) (h2 : e * d ≤ c * f) : e * b ≤ a * f ∧ ((c * b < a * d ∨ e * d < c * f) → e * b < a * f) := by
  have i1 : (e * d) * b ≤ (c * f) * b := Nat.mul_le_mul_right b h2
  have i2 : (c * b) * f ≤ (a * d) * f := Nat.mul_le_mul_right f h1
  have q1 : (e * d) * b = (e * b) * d := Nat.mul_right_comm e d b
  have q2 : (c * f) * b = (c * b) * f := Nat.mul_right_comm c f b
  have q3 : (a * d) * f = (a * f) * d := Nat.mul_right_comm a d f
  rw [q1, q2] at i1
  rw [q3] at i2
  have i3 : (e * b) * d ≤ (a * f) * d := Nat.le_trans i1 i2
  refine ⟨Nat.le_of_mul_le_mul_right i3 hd, fun h => ?_⟩
  apply Nat.lt_of_mul_lt_mul_right (a := d)
  rcases h with h | h
  · have j : (c * b) * f < (a * d) * f := Nat.mul_lt_mul_of_pos_right h hf
    rw [q3] at j
    exact Nat.lt_of_le_of_lt i1 j
  · have j : (e * d) * b < (c * f) * b := Nat.mul_lt_mul_of_pos_right h hb
    rw [q1, q2] at j
    exact Nat.lt_of_lt_of_le j i2
theorem um_bt_trans {W G : Nat → Nat} {p q r : Nat} (hp : 0 < W p) (hq : 0 < W q) (hr : 0 < W r) (h1 : um_bt W G p q = true) (h2 : um_bt W G q r = true) : um_bt W G p r = true := by
  rw [um_bt_iff] at h1 h2 ⊢
  have k := um_bt_arith (a := G p) (b := W p) (c := G q) (d := W q) (e := G r) (f := W r) hp hq hr (by
    generalize G p * W q = x at *
    generalize G q * W p = y at *
    omega) (by
    generalize G q * W r = x at *
    generalize G r * W q = y at *
    omega)
  generalize G p * W q = x1 at *
  generalize G q * W p = x2 at *
  generalize G q * W r = x3 at *
  generalize G r * W q = x4 at *
  generalize G p * W r = x5 at *
  generalize G r * W p = x6 at *
  omega
def um_best (W G : Nat → Nat) (C : Nat → Prop) (p : Nat) : Prop := C p ∧ ∀ q, C q → q ≠ p → um_bt W G p q = true
theorem um_best_one {W G : Nat → Nat} {C : Nat → Prop} {p q : Nat} (h1 : um_best W G C p) (h2 : um_best W G C q) : p = q := by
  by_cases h : p = q
  · exact h
  · exact absurd (um_bt_asym (h1.2 q h2.1 (Ne.symm h)) (h2.2 p h1.1 h)) id
/-- one more candidate -/
theorem um_best_more {W G : Nat → Nat} {C : Nat → Prop} {p i : Nat} (hW : ∀ q, C q → 0 < W q) (hi : 0 < W i) (h : um_best W G C p) : (um_bt W G i p = true → um_best W G (fun q => C q ∨ q = i) i) ∧ (um_bt W G i p = false → um_best W G (fun q => C q ∨ q = i) p) := by
  constructor
  · intro hb
    refine ⟨Or.inr rfl, fun q hq hne => ?_⟩
    rcases hq with hq | hq
    · by_cases e : q = p
      · rw [e]; exact hb
      · exact um_bt_trans hi (hW p h.1) (hW q hq) hb (h.2 q hq e)
    · exact absurd hq hne
  · intro hb
    refine ⟨Or.inl h.1, fun q hq hne => ?_⟩
    rcases hq with hq | hq
    · exact h.2 q hq hne
    · subst hq
      rcases um_bt_total (W := W) (G := G) hne with k | k
      · rw [hb] at k; cases k
      · exact k
theorem um_best_congr {W G : Nat → Nat} {C D : Nat → Prop} {p : Nat} (hCD : ∀ q, C q ↔ D q) (h : um_best W G C p) : um_best W G D p :=
  ⟨(hCD p).mp h.1, fun q hq => h.2 q ((hCD q).mpr hq)⟩
/-- parish by parish -/
def um_gp (W G : Nat → Nat) : Nat → Nat × Nat × Nat
  | 0 => (0, 0, 1)
  | i + 1 => if (um_gp W G i).2.1 * W i < G i * (um_gp W G i).2.2 ∨ (G i * (um_gp W G i).2.2 = (um_gp W G i).2.1 * W i ∧ (um_gp W G i).2.1 < G i) then (i + 1, G i, W i) else um_gp W G i
theorem um_gp_inv {W G : Nat → Nat} (hG : ∀ q, G q ≤ W q) : ∀ i, (um_gp W G i = (0, 0, 1) ∧ ∀ q, q < i → G q = 0) ∨ (∃ p, p < i ∧ um_gp W G i = (p + 1, G p, W p) ∧ um_best W G (fun q => q < i ∧ 0 < G q) p)
  | 0 => Or.inl ⟨rfl, fun q hq => absurd hq (Nat.not_lt_zero q)⟩
  | i + 1 => by
    have hW : ∀ q, (q < i ∧ 0 < G q) → 0 < W q := fun q hq => Nat.lt_of_lt_of_le hq.2 (hG q)
    rcases um_gp_inv hG i with ⟨e, h0⟩ | ⟨p, hp, e, hb⟩
    · rw [um_gp, e]
      by_cases hg : G i = 0
      · left
        refine ⟨if_neg (by rw [hg]; simp), fun q hq => ?_⟩
        by_cases hqi : q = i
        · rw [hqi]; exact hg
        · exact h0 q (by omega)
      · right
        refine ⟨i, by omega, if_pos (Or.inl (by simp; omega)), ⟨by omega, by omega⟩, fun q hq hne => ?_⟩
        have := h0 q (by omega)
        omega
    · right
      rw [um_gp, e]
      by_cases hg : G i = 0
      · refine ⟨p, by omega, if_neg (by rw [hg]; simp), ?_⟩
        refine um_best_congr (fun q => ?_) hb
        constructor
        · intro h; exact ⟨by omega, h.2⟩
        · intro h
          refine ⟨?_, h.2⟩
          by_cases hqi : q = i
          · rw [hqi] at h; omega
          · omega
      · have hWi : 0 < W i := Nat.lt_of_lt_of_le (by omega) (hG i)
        have k := um_best_more hW hWi hb
        have hCD : ∀ q, ((q < i ∧ 0 < G q) ∨ q = i) ↔ (q < i + 1 ∧ 0 < G q) := fun q => by
          constructor
          · rintro (h | h)
            · exact ⟨by omega, h.2⟩
            · rw [h]; exact ⟨by omega, by omega⟩
          · intro h
            by_cases hqi : q = i
            · exact Or.inr hqi
            · exact Or.inl ⟨by omega, h.2⟩
        have hc : (G p * W i < G i * W p ∨ (G i * W p = G p * W i ∧ G p < G i)) ↔ um_bt W G i p = true := by
          rw [um_bt_iff]
          generalize G p * W i = x at *
          generalize G i * W p = y at *
          omega
        cases hbt : um_bt W G i p
        · refine ⟨p, by omega, if_neg (fun z => ?_), um_best_congr hCD (k.2 hbt)⟩
          rw [hc.mp z] at hbt
          cases hbt
        · exact ⟨i, by omega, if_pos (hc.mpr hbt), um_best_congr hCD (k.1 hbt)⟩
theorem um_gp_le {W G : Nat → Nat} {c : Nat} (hc : 1 ≤ c) (h1 : ∀ q, W q ≤ c) (h2 : ∀ q, G q ≤ c) : ∀ i, (um_gp W G i).2.1 ≤ c ∧ (um_gp W G i).2.2 ≤ c ∧ (um_gp W G i).1 ≤ i ∧ ((um_gp W G i).1 = 0 → um_gp W G i = (0, 0, 1))
  | 0 => ⟨Nat.zero_le _, hc, Nat.le_refl _, fun _ => rfl⟩
  | i + 1 => by
    have ih := um_gp_le hc h1 h2 i
    rw [um_gp]
    split
    · exact ⟨h2 i, h1 i, Nat.le_refl _, fun h => by simp at h⟩
    · exact ⟨ih.1, ih.2.1, by omega, ih.2.2.2⟩
/-- rope by rope -/
def um_gr (W G P : Nat → Nat) (H : Nat) : Nat → Nat
  | 0 => 0
  | i + 1 => if H.testBit i then (if um_gr W G P H i = 0 then i + 1 else if um_bt W G (P i) (P (um_gr W G P H i - 1)) then i + 1 else um_gr W G P H i) else um_gr W G P H i
theorem um_gr_inv {W G P : Nat → Nat} {H n : Nat} (hW : ∀ r, r < n → 0 < W (P r)) : ∀ i, i ≤ n → (um_gr W G P H i = 0 ∧ ∀ j, j < i → H.testBit j = false) ∨ (∃ l, l < i ∧ um_gr W G P H i = l + 1 ∧ um_best W G (fun q => ∃ j, j < i ∧ H.testBit j = true ∧ P j = q) (P l))
  | 0, _ => Or.inl ⟨rfl, fun j hj => absurd hj (Nat.not_lt_zero j)⟩
  | i + 1, hi => by
    have hW' : ∀ q, (∃ j, j < i ∧ H.testBit j = true ∧ P j = q) → 0 < W q := fun q ⟨j, h1, _, h3⟩ => by rw [← h3]; exact hW j (by omega)
    have hCD : H.testBit i = true → ∀ q, ((∃ j, j < i ∧ H.testBit j = true ∧ P j = q) ∨ q = P i) ↔ (∃ j, j < i + 1 ∧ H.testBit j = true ∧ P j = q) := fun ht q => by
      constructor
      · rintro (⟨j, h1, h2, h3⟩ | h)
        · exact ⟨j, by omega, h2, h3⟩
        · exact ⟨i, by omega, ht, h.symm⟩
      · rintro ⟨j, h1, h2, h3⟩
        by_cases hj : j = i
        · rw [hj] at h3; exact Or.inr h3.symm
        · exact Or.inl ⟨j, by omega, h2, h3⟩
    have hCF : H.testBit i = false → ∀ q, (∃ j, j < i ∧ H.testBit j = true ∧ P j = q) ↔ (∃ j, j < i + 1 ∧ H.testBit j = true ∧ P j = q) := fun ht q => by
      constructor
      · rintro ⟨j, h1, h2, h3⟩
        exact ⟨j, by omega, h2, h3⟩
      · rintro ⟨j, h1, h2, h3⟩
        by_cases hj : j = i
        · rw [hj, ht] at h2; cases h2
        · exact ⟨j, by omega, h2, h3⟩
    rw [um_gr]
    rcases um_gr_inv (n := n) hW i (by omega) with ⟨e, h0⟩ | ⟨l, hl, e, hb⟩
    · rw [e]
      cases ht : H.testBit i
      · left
        refine ⟨by simp, fun j hj => ?_⟩
        by_cases hji : j = i
        · rw [hji]; exact ht
        · exact h0 j (by omega)
      · right
        refine ⟨i, by omega, by simp, ⟨i, by omega, ht, rfl⟩, fun q hq hne => ?_⟩
        obtain ⟨j, h1, h2, h3⟩ := hq
        by_cases hj : j = i
        · rw [hj] at h3; exact absurd h3.symm hne
        · rw [h0 j (by omega)] at h2; cases h2
    · right
      rw [e]
      cases ht : H.testBit i
      · exact ⟨l, by omega, by simp, um_best_congr (hCF ht) hb⟩
      · have k := um_best_more hW' (hW i (by omega)) hb
        rw [if_pos rfl, if_neg (by omega), Nat.add_sub_cancel]
        cases hbt : um_bt W G (P i) (P l)
        · exact ⟨l, by omega, by simp, um_best_congr (hCD ht) (k.2 hbt)⟩
        · exact ⟨i, by omega, by simp, um_best_congr (hCD ht) (k.1 hbt)⟩
theorem um_cnt_pos {b : Nat → Bool} : ∀ {n : Nat}, 0 < um_cnt b n ↔ ∃ j, j < n ∧ b j = true
  | 0 => by
    constructor
    · intro h; exact absurd h (Nat.lt_irrefl _)
    · rintro ⟨j, h, _⟩; exact absurd h (Nat.not_lt_zero j)
  | n + 1 => by
    rw [um_cnt_s]
    constructor
    · intro h
      cases hb : b n
      · rw [hb, um_b2n_f, Nat.add_zero] at h
        obtain ⟨j, h1, h2⟩ := um_cnt_pos.mp h
        exact ⟨j, by omega, h2⟩
      · exact ⟨n, by omega, hb⟩
    · rintro ⟨j, h1, h2⟩
      by_cases hj : j = n
      · rw [hj] at h2
        rw [h2, um_b2n_t]
        omega
      · have := um_cnt_pos.mpr ⟨j, show j < n by omega, h2⟩
        omega
def um_gI (b : Nat) : Int32 := if b = 0 then (-1015) else nI (b - 1)
def um_gW (P : Nat → Nat) (n q : Nat) : Nat := um_cnt (fun r => decide (P r = q)) n
def um_gG (P : Nat → Nat) (n H q : Nat) : Nat := um_cnt (fun r => decide (P r = q) && H.testBit r) n
theorem um_cnt_mono {a b : Nat → Bool} : ∀ {n : Nat}, (∀ i, i < n → a i = true → b i = true) → um_cnt a n ≤ um_cnt b n
  | 0, _ => Nat.le_refl _
  | n + 1, h => by
    have := um_cnt_mono (a := a) (b := b) (n := n) (fun i hi => h i (by omega))
    rw [um_cnt_s, um_cnt_s]
    cases ha : a n
    · rw [um_b2n_f]; omega
    · rw [h n (by omega) ha, um_b2n_t]; omega
theorem um_gG_le {P : Nat → Nat} {n H q : Nat} : um_gG P n H q ≤ um_gW P n q := um_cnt_mono (fun i _ h => by
  rw [Bool.and_eq_true] at h
  exact h.1)
/-- the guess: the same in both ways -/
def um_guess (P : Nat → Nat) (n H : Nat) : Int32 := um_gI (um_gp (um_gW P n) (um_gG P n H) 4).1
theorem um_guess_same {P : Nat → Nat} {n H : Nat} (hP : ∀ r, r < n → P r < 4) : (if um_gr (um_gW P n) (um_gG P n H) P H n = 0 then (-1015 : Int32) else nI (P (um_gr (um_gW P n) (um_gG P n H) P H n - 1))) = um_guess P n H := by
  have hC : ∀ q, (∃ j, j < n ∧ H.testBit j = true ∧ P j = q) ↔ (q < 4 ∧ 0 < um_gG P n H q) := fun q => by
    constructor
    · rintro ⟨j, h1, h2, h3⟩
      refine ⟨by rw [← h3]; exact hP j h1, um_cnt_pos.mpr ⟨j, h1, ?_⟩⟩
      simp [h2, h3]
    · rintro ⟨h1, h2⟩
      obtain ⟨j, h3, h4⟩ := um_cnt_pos.mp h2
      rw [Bool.and_eq_true, decide_eq_true_eq] at h4
      exact ⟨j, h3, h4.2, h4.1⟩
  have hW : ∀ r, r < n → 0 < um_gW P n (P r) := fun r hr => um_cnt_pos.mpr ⟨r, hr, by simp⟩
  unfold um_guess um_gI
  rcases um_gp_inv (W := um_gW P n) (G := um_gG P n H) (fun q => um_gG_le) 4 with ⟨e1, h1⟩ | ⟨p, hp, e1, h1⟩
  · rcases um_gr_inv (W := um_gW P n) (G := um_gG P n H) (P := P) (H := H) (n := n) hW n (Nat.le_refl _) with ⟨e2, h2⟩ | ⟨l, hl, e2, h2⟩
    · rw [e1, e2]
      simp
    · have := (hC (P l)).mp h2.1
      have := h1 _ this.1
      omega
  · rcases um_gr_inv (W := um_gW P n) (G := um_gG P n H) (P := P) (H := H) (n := n) hW n (Nat.le_refl _) with ⟨e2, h2⟩ | ⟨l, hl, e2, h2⟩
    · obtain ⟨j, h3, h4, _⟩ := (hC p).mpr h1.1
      rw [h2 j h3] at h4
      cases h4
    · have e3 : p = P l := um_best_one h1 (um_best_congr hC h2)
      rw [e1, e2, e3]
      simp
