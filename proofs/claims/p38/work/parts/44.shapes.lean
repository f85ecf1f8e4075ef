/-! ===== the class reads an order: shape by shape ===== -/
section UM44
variable {t p : Nat} {g : Nat → Nat} {tc tx : Nat → Int32}
def um_bare (c : Nat) : Bool := decide (c = 110) || decide (c = 104) || decide (c = 101)
def um_two (c : Nat) : Bool := decide (c = 118) || decide (c = 115) || decide (c = 112) || decide (c = 111)
/-- the numbers of the order at the place n are there, as far as its kind has them -/
def um_ar (N : Nat → Nat) (n c a b d : Nat) : Prop := (um_bare c = false → N (3 * n) = a) ∧ (um_two c = true → N (3 * n + 1) = b) ∧ (c = 112 → N (3 * n + 2) = d)
/-- one sign of a shape: itself -/
theorem um_roLit (hX : um_X t g tc tx) (hp : p < 2 ^ 18) {num : Int32} {kd : Nat → Int32} {N : Nat → Nat} {i j ix k c : Nat} (hi : i < 10) (hj : j < ub_len.getD i 0) (hch : ub_ch i j = nI c) (h0 : 0 < c) (hc : c < 128) (h1 : c ≠ 68) (h2 : c ≠ 100) (h3 : c ≠ 63) :
    ulX3_readOrder_51 num kd (nI t) tc i (k + 1) (nI p) (um_nv N) (nI ix) (nI j) = if (um_rm c g t p).1 then ulX3_readOrder_51 num kd (nI t) tc i k (nI (um_rm c g t p).2.1) (um_nv N) (nI ix) (nI (j + 1)) else some (0, num, nI (um_rm c g t p).2.1, kd, um_nv N) := by
  have hL := ub_len_b i hi
  have e := um_readSign (p := p) (c := c) hX (by omega) h0 (by omega)
  rw [ulX3_readOrder_51]
  unfold ub_lt
  rw [if_pos hi, if_neg (nI_ge hj hL), if_pos hi, um_gd hj hL, nI_clamp (by omega), hch]
  rw [if_neg (show ¬ nI c = (68 : Int32) from um_litne (by omega) (by decide) h1), if_neg (show ¬ nI c = (100 : Int32) from um_litne (by omega) (by decide) h2), if_neg (show ¬ nI c = (63 : Int32) from um_litne (by omega) (by decide) h3)]
  unfold ujX3_readOrder_94 ujX3_readOrder_119
  rw [if_pos rfl, e, um_b2]
  cases (um_rm c g t p).1
  · rw [if_pos (show nI (um_b2n false) = (0 : Int32) from rfl), if_neg (show ¬ (false = true) by decide)]
  · rw [if_neg (show ¬ nI (um_b2n true) = (0 : Int32) by decide), if_pos rfl, if_pos rfl, nI_1]
theorem um_roD (hX : um_X t g tc tx) (hp : p < 2 ^ 18) {num : Int32} {kd : Nat → Int32} {N : Nat → Nat} {i j ix k : Nat} (hi : i < 10) (hj : j < ub_len.getD i 0) (hch : ub_ch i j = nI 68) (hix : ix < 180) :
    ulX3_readOrder_51 num kd (nI t) tc i (k + 1) (nI p) (um_nv N) (nI ix) (nI j) = if (um_rD g t p).1 then ulX3_readOrder_51 num kd (nI t) tc i k (nI (um_rD g t p).2.1) (um_nv (um_up N ix (um_rD g t p).2.2)) (nI (ix + 1)) (nI (j + 1)) else some (0, num, nI (um_rD g t p).2.1, kd, um_nv N) := by
  have hL := ub_len_b i hi
  have e := um_readD (p := p) hX (by omega) (N := N) hix
  rw [ulX3_readOrder_51]
  unfold ub_lt
  rw [if_pos hi, if_neg (nI_ge hj hL), if_pos hi, um_gd hj hL, nI_clamp (by omega), hch, if_pos (show nI 68 = (68 : Int32) from rfl)]
  unfold ujX3_readOrder_89 ujX3_readOrder_94 ujX3_readOrder_119
  rw [if_neg (by decide), e, um_b3]
  cases (um_rD g t p).1
  · rw [if_pos (show nI (um_b2n false) = (0 : Int32) from rfl), if_neg (show ¬ (false = true) by decide), if_neg (show ¬ (false = true) by decide)]
  · rw [if_neg (show ¬ nI (um_b2n true) = (0 : Int32) by decide), if_neg (by decide), if_pos rfl, if_pos rfl, nI_1, nI_1]
theorem um_rod (hX : um_X t g tc tx) (hp : p < 2 ^ 18) {num : Int32} {kd : Nat → Int32} {N : Nat → Nat} {i j ix k : Nat} (hi : i < 10) (hj : j < ub_len.getD i 0) (hch : ub_ch i j = nI 100) (hix : ix < 180) :
    ulX3_readOrder_51 num kd (nI t) tc i (k + 1) (nI p) (um_nv N) (nI ix) (nI j) = if (um_rd g t p).1 then ulX3_readOrder_51 num kd (nI t) tc i k (nI (um_rd g t p).2.1) (um_nv (um_up N ix (um_rd g t p).2.2)) (nI (ix + 1)) (nI (j + 1)) else some (0, num, nI (um_rd g t p).2.1, kd, um_nv N) := by
  have hL := ub_len_b i hi
  have e := um_readd (p := p) hX (by omega) (N := N) hix
  rw [ulX3_readOrder_51]
  unfold ub_lt
  rw [if_pos hi, if_neg (nI_ge hj hL), if_pos hi, um_gd hj hL, nI_clamp (by omega), hch, if_neg (show ¬ nI 100 = (68 : Int32) by decide), if_pos (show nI 100 = (100 : Int32) from rfl)]
  unfold ujX3_readOrder_89 ujX3_readOrder_94 ujX3_readOrder_119
  rw [if_neg (by decide), e, um_b3]
  cases (um_rd g t p).1
  · rw [if_pos (show nI (um_b2n false) = (0 : Int32) from rfl), if_neg (show ¬ (false = true) by decide), if_neg (show ¬ (false = true) by decide)]
  · rw [if_neg (show ¬ nI (um_b2n true) = (0 : Int32) by decide), if_neg (by decide), if_pos rfl, if_pos rfl, nI_1, nI_1]
theorem um_roq (hX : um_X t g tc tx) (hp : p < 2 ^ 18) {num : Int32} {kd : Nat → Int32} {N : Nat → Nat} {i j ix k : Nat} (hi : i < 10) (hj : j < ub_len.getD i 0) (hch : ub_ch i j = nI 63) (hix : ix < 180) :
    ∃ N', ulX3_readOrder_51 num kd (nI t) tc i (k + 1) (nI p) (um_nv N) (nI ix) (nI j) = (if (um_rq g t p).1 then ulX3_readOrder_51 num kd (nI t) tc i k (nI (um_rq g t p).2.1) (um_nv N') (nI (ix + 1)) (nI (j + 1)) else some (0, num, nI (um_rq g t p).2.1, kd, um_nv N')) ∧ (∀ j, j ≠ ix → N' j = N j) ∧ ((um_rq g t p).1 = true → N' ix = (um_rq g t p).2.2) := by
  have hL := ub_len_b i hi
  obtain ⟨N', e, h1, h2⟩ := um_readq (p := p) hX (by omega) (N := N) hix
  refine ⟨N', ?_, h1, h2⟩
  rw [ulX3_readOrder_51]
  unfold ub_lt
  rw [if_pos hi, if_neg (nI_ge hj hL), if_pos hi, um_gd hj hL, nI_clamp (by omega), hch, if_neg (show ¬ nI 63 = (68 : Int32) by decide), if_neg (show ¬ nI 63 = (100 : Int32) by decide), if_pos (show nI 63 = (63 : Int32) from rfl)]
  unfold ujX3_readOrder_89 ujX3_readOrder_94 ujX3_readOrder_119
  rw [if_neg (by decide), e, um_b3]
  cases (um_rq g t p).1
  · rw [if_pos (show nI (um_b2n false) = (0 : Int32) from rfl), if_neg (show ¬ (false = true) by decide)]
  · rw [if_neg (show ¬ nI (um_b2n true) = (0 : Int32) by decide), if_neg (by decide), if_pos rfl, nI_1, nI_1]
theorem um_roEnd {num : Int32} {kd : Nat → Int32} {N : Nat → Nat} {i j ix k : Nat} (hi : i < 10) (hj : j = ub_len.getD i 0) :
    ulX3_readOrder_51 num kd (nI t) tc i (k + 1) (nI p) (um_nv N) (nI ix) (nI j) = some (1, num + 1, nI p, kd, um_nv N) := by
  have hL := ub_len_b i hi
  rw [ulX3_readOrder_51]
  unfold ub_lt
  rw [if_pos hi, if_pos (by rw [hj]; exact Int32.le_refl _)]
/-- how a reading of an order ends -/
def um_roK (num : Nat) (kd : Nat → Int32) (N : Nat → Nat) (c : Nat) (o : Bool × Nat × Nat × Nat × Nat) (r : Option (Int32 × Int32 × Int32 × (Nat → Int32) × (Nat → Int32))) : Prop :=
  ∃ N', r = some (nI (um_b2n o.1), nI (num + um_b2n o.1), nI o.2.1, kd, um_nv N') ∧ (∀ j, (j < 3 * num ∨ 3 * num + 3 ≤ j) → N' j = N j) ∧ (o.1 = true → um_ar N' num c o.2.2.1 o.2.2.2.1 o.2.2.2.2)
theorem um_rm_of {c : Nat} (h : um_sg g t p = c) : um_rm c g t p = (true, p + 1, 0) := if_pos h
theorem um_rm_t {c : Nat} (h : (um_rm c g t p).1 = true) : (um_rm c g t p).2.1 = p + 1 := by
  unfold um_rm at h ⊢
  split
  · rfl
  · rename_i z
    rw [if_neg z] at h
    exact absurd (show false = true from h) (by decide)
theorem um_rm_f {c : Nat} (h : (um_rm c g t p).1 = false) : (um_rm c g t p).2.1 = p := by
  unfold um_rm at h ⊢
  split
  · rename_i z
    rw [if_pos z] at h
    exact absurd (show true = false from h) (by decide)
  · rfl
theorem um_kFail {num : Nat} {kd : Nat → Int32} {N N' : Nat → Nat} {c q : Nat} (h : ∀ j, (j < 3 * num ∨ 3 * num + 3 ≤ j) → N' j = N j) : um_roK num kd N c (false, q, 0, 0, 0) (some (0, nI num, nI q, kd, um_nv N')) := ⟨N', rfl, h, fun z => absurd (show false = true from z) (by decide)⟩
theorem um_kOk {num : Nat} {kd : Nat → Int32} {N N' : Nat → Nat} {c q a b d : Nat} (h : ∀ j, (j < 3 * num ∨ 3 * num + 3 ≤ j) → N' j = N j) (ha : um_ar N' num c a b d) : um_roK num kd N c (true, q, a, b, d) (some (1, nI num + 1, nI q, kd, um_nv N')) := ⟨N', by rw [nI_1]; rfl, h, fun _ => ha⟩
-- r
theorem um_ro_r (hX : um_X t g tc tx) (hp : p < 2 ^ 16) (hs : um_sg g t p = 114) {num : Nat} (hn : num < 60) {kd : Nat → Int32} {N : Nat → Nat} : um_roK num kd N 114 (um_od g t p) (ulX3_readOrder_51 (nI num) kd (nI t) tc 0 ub_F (nI p) (um_nv N) (nI (3 * num)) (nI 0)) := by
  have hD1 := um_rD_le (t := t) (g := g) (p := p + 1)
  have hD2 := um_rD_le (t := t) (g := g) (p := (um_rD g t (p + 1)).2.1 + 1)
  unfold um_od
  rw [if_pos hs]
  rw [show ub_F = 4088 + 1 + 1 + 1 + 1 + 1 + 1 + 1 + 1 from rfl]
  rw [um_roLit (c := 114) hX (by omega) (by decide) (by decide) (by decide) (by decide) (by decide) (by decide) (by decide) (by decide), um_rm_of hs, if_pos rfl]
  rw [um_rod (p := (p + 1)) hX (by omega) (by decide) (by decide) (by decide) (by omega)]
  cases h0 : (um_rd g t (p + 1)).1
  · simp only [Bool.false_eq_true, if_false]
    exact ⟨_, rfl, fun j hj => rfl, fun z => absurd (show false = true from z) (by decide)⟩
  · simp only [if_true]
    rw [um_roEnd (i := 0) (j := 0 + 1 + 1) (by decide) (by decide)]
    exact um_kOk (fun j hj => by rw [um_up_ne (by omega)]) ⟨fun _ => by rw [um_up_eq rfl], fun h => absurd h (by decide), fun h => absurd h (by decide)⟩
-- v
theorem um_ro_v (hX : um_X t g tc tx) (hp : p < 2 ^ 16) (hs : um_sg g t p = 118) {num : Nat} (hn : num < 60) {kd : Nat → Int32} {N : Nat → Nat} : um_roK num kd N 118 (um_od g t p) (ulX3_readOrder_51 (nI num) kd (nI t) tc 1 ub_F (nI p) (um_nv N) (nI (3 * num)) (nI 0)) := by
  have hD1 := um_rD_le (t := t) (g := g) (p := p + 1)
  have hD2 := um_rD_le (t := t) (g := g) (p := (um_rD g t (p + 1)).2.1 + 1)
  unfold um_od
  rw [if_neg (show ¬ um_sg g t p = 114 by omega)]
  rw [if_pos hs]
  rw [show ub_F = 4088 + 1 + 1 + 1 + 1 + 1 + 1 + 1 + 1 from rfl]
  rw [um_roLit (c := 118) hX (by omega) (by decide) (by decide) (by decide) (by decide) (by decide) (by decide) (by decide) (by decide), um_rm_of hs, if_pos rfl]
  rw [um_roD (p := (p + 1)) hX (by omega) (by decide) (by decide) (by decide) (by omega)]
  cases h0 : (um_rD g t (p + 1)).1
  · simp only [Bool.false_eq_true, if_false]
    exact ⟨_, rfl, fun j hj => rfl, fun z => absurd (show false = true from z) (by decide)⟩
  · simp only [if_true]
    rw [um_roLit (p := (um_rD g t (p + 1)).2.1) (c := 58) hX (by omega) (by decide) (by decide) (by decide) (by decide) (by decide) (by decide) (by decide) (by decide)]
    cases h1 : (um_rm 58 g t (um_rD g t (p + 1)).2.1).1
    · rw [um_rm_f h1]
      simp only [Bool.false_eq_true, if_false]
      exact um_kFail (fun j hj => by rw [um_up_ne (by omega)])
    · rw [um_rm_t h1]
      simp only [if_true]
      rw [um_rod (p := ((um_rD g t (p + 1)).2.1 + 1)) hX (by omega) (by decide) (by decide) (by decide) (by omega)]
      cases h2 : (um_rd g t ((um_rD g t (p + 1)).2.1 + 1)).1
      · simp only [Bool.false_eq_true, if_false]
        exact ⟨_, rfl, fun j hj => by rw [um_up_ne (by omega)], fun z => absurd (show false = true from z) (by decide)⟩
      · simp only [if_true]
        rw [um_roEnd (i := 1) (j := 0 + 1 + 1 + 1 + 1) (by decide) (by decide)]
        exact um_kOk (fun j hj => by rw [um_up_ne (by omega), um_up_ne (by omega)]) ⟨fun _ => by rw [um_up_ne (by omega), um_up_eq rfl], fun _ => by rw [um_up_eq rfl], fun h => absurd h (by decide)⟩
-- s
theorem um_ro_s (hX : um_X t g tc tx) (hp : p < 2 ^ 16) (hs : um_sg g t p = 115) {num : Nat} (hn : num < 60) {kd : Nat → Int32} {N : Nat → Nat} : um_roK num kd N 115 (um_od g t p) (ulX3_readOrder_51 (nI num) kd (nI t) tc 2 ub_F (nI p) (um_nv N) (nI (3 * num)) (nI 0)) := by
  have hD1 := um_rD_le (t := t) (g := g) (p := p + 1)
  have hD2 := um_rD_le (t := t) (g := g) (p := (um_rD g t (p + 1)).2.1 + 1)
  unfold um_od
  rw [if_neg (show ¬ um_sg g t p = 114 by omega)]
  rw [if_neg (show ¬ um_sg g t p = 118 by omega)]
  rw [if_pos hs]
  rw [show ub_F = 4088 + 1 + 1 + 1 + 1 + 1 + 1 + 1 + 1 from rfl]
  rw [um_roLit (c := 115) hX (by omega) (by decide) (by decide) (by decide) (by decide) (by decide) (by decide) (by decide) (by decide), um_rm_of hs, if_pos rfl]
  rw [um_roD (p := (p + 1)) hX (by omega) (by decide) (by decide) (by decide) (by omega)]
  cases h0 : (um_rD g t (p + 1)).1
  · simp only [Bool.false_eq_true, if_false]
    exact ⟨_, rfl, fun j hj => rfl, fun z => absurd (show false = true from z) (by decide)⟩
  · simp only [if_true]
    obtain ⟨N', eN, hN1, hN2⟩ := um_roq (p := (um_rD g t (p + 1)).2.1) (num := nI num) (kd := kd) (N := um_up N (3 * num) (um_rD g t (p + 1)).2.2) (i := 2) (j := 2) (ix := 3 * num + 1) (k := 4088 + 1 + 1 + 1 + 1 + 1) hX (by omega) (by decide) (by decide) (by decide) (by omega)
    rw [eN]
    cases h1 : (um_rq g t (um_rD g t (p + 1)).2.1).1
    · simp only [Bool.false_eq_true, if_false]
      exact ⟨N', rfl, fun j hj => by rw [hN1 j (by omega), um_up_ne (by omega)], fun z => absurd (show false = true from z) (by decide)⟩
    · simp only [if_true]
      rw [um_roEnd (i := 2) (j := 2 + 1) (by decide) (by decide)]
      exact um_kOk (fun j hj => by rw [hN1 j (by omega), um_up_ne (by omega)]) ⟨fun _ => by rw [hN1 _ (by omega), um_up_eq rfl], fun _ => hN2 h1, fun h => absurd h (by decide)⟩
-- p
theorem um_ro_p (hX : um_X t g tc tx) (hp : p < 2 ^ 16) (hs : um_sg g t p = 112) {num : Nat} (hn : num < 60) {kd : Nat → Int32} {N : Nat → Nat} : um_roK num kd N 112 (um_od g t p) (ulX3_readOrder_51 (nI num) kd (nI t) tc 3 ub_F (nI p) (um_nv N) (nI (3 * num)) (nI 0)) := by
  have hD1 := um_rD_le (t := t) (g := g) (p := p + 1)
  have hD2 := um_rD_le (t := t) (g := g) (p := (um_rD g t (p + 1)).2.1 + 1)
  unfold um_od
  rw [if_neg (show ¬ um_sg g t p = 114 by omega)]
  rw [if_neg (show ¬ um_sg g t p = 118 by omega)]
  rw [if_neg (show ¬ um_sg g t p = 115 by omega)]
  rw [if_pos hs]
  rw [show ub_F = 4088 + 1 + 1 + 1 + 1 + 1 + 1 + 1 + 1 from rfl]
  rw [um_roLit (c := 112) hX (by omega) (by decide) (by decide) (by decide) (by decide) (by decide) (by decide) (by decide) (by decide), um_rm_of hs, if_pos rfl]
  rw [um_roD (p := (p + 1)) hX (by omega) (by decide) (by decide) (by decide) (by omega)]
  cases h0 : (um_rD g t (p + 1)).1
  · simp only [Bool.false_eq_true, if_false]
    exact ⟨_, rfl, fun j hj => rfl, fun z => absurd (show false = true from z) (by decide)⟩
  · simp only [if_true]
    rw [um_roLit (p := (um_rD g t (p + 1)).2.1) (c := 64) hX (by omega) (by decide) (by decide) (by decide) (by decide) (by decide) (by decide) (by decide) (by decide)]
    cases h1 : (um_rm 64 g t (um_rD g t (p + 1)).2.1).1
    · rw [um_rm_f h1]
      simp only [Bool.false_eq_true, if_false]
      exact um_kFail (fun j hj => by rw [um_up_ne (by omega)])
    · rw [um_rm_t h1]
      simp only [if_true]
      rw [um_roD (p := ((um_rD g t (p + 1)).2.1 + 1)) hX (by omega) (by decide) (by decide) (by decide) (by omega)]
      cases h2 : (um_rD g t ((um_rD g t (p + 1)).2.1 + 1)).1
      · simp only [Bool.false_eq_true, if_false]
        exact ⟨_, rfl, fun j hj => by rw [um_up_ne (by omega)], fun z => absurd (show false = true from z) (by decide)⟩
      · simp only [if_true]
        rw [um_roLit (p := (um_rD g t ((um_rD g t (p + 1)).2.1 + 1)).2.1) (c := 42) hX (by omega) (by decide) (by decide) (by decide) (by decide) (by decide) (by decide) (by decide) (by decide)]
        cases h3 : (um_rm 42 g t (um_rD g t ((um_rD g t (p + 1)).2.1 + 1)).2.1).1
        · rw [um_rm_f h3]
          simp only [Bool.false_eq_true, if_false]
          exact um_kFail (fun j hj => by rw [um_up_ne (by omega), um_up_ne (by omega)])
        · rw [um_rm_t h3]
          simp only [if_true]
          rw [um_rod (p := ((um_rD g t ((um_rD g t (p + 1)).2.1 + 1)).2.1 + 1)) hX (by omega) (by decide) (by decide) (by decide) (by omega)]
          cases h4 : (um_rd g t ((um_rD g t ((um_rD g t (p + 1)).2.1 + 1)).2.1 + 1)).1
          · simp only [Bool.false_eq_true, if_false]
            exact ⟨_, rfl, fun j hj => by rw [um_up_ne (by omega), um_up_ne (by omega)], fun z => absurd (show false = true from z) (by decide)⟩
          · simp only [if_true]
            rw [um_roEnd (i := 3) (j := 0 + 1 + 1 + 1 + 1 + 1 + 1) (by decide) (by decide)]
            exact um_kOk (fun j hj => by rw [um_up_ne (by omega), um_up_ne (by omega), um_up_ne (by omega)]) ⟨fun _ => by rw [um_up_ne (by omega), um_up_ne (by omega), um_up_eq rfl], fun _ => by rw [um_up_ne (by omega), um_up_eq rfl], fun _ => by rw [um_up_eq rfl]⟩
-- c
theorem um_ro_c (hX : um_X t g tc tx) (hp : p < 2 ^ 16) (hs : um_sg g t p = 99) {num : Nat} (hn : num < 60) {kd : Nat → Int32} {N : Nat → Nat} : um_roK num kd N 99 (um_od g t p) (ulX3_readOrder_51 (nI num) kd (nI t) tc 4 ub_F (nI p) (um_nv N) (nI (3 * num)) (nI 0)) := by
  have hD1 := um_rD_le (t := t) (g := g) (p := p + 1)
  have hD2 := um_rD_le (t := t) (g := g) (p := (um_rD g t (p + 1)).2.1 + 1)
  unfold um_od
  rw [if_neg (show ¬ um_sg g t p = 114 by omega)]
  rw [if_neg (show ¬ um_sg g t p = 118 by omega)]
  rw [if_neg (show ¬ um_sg g t p = 115 by omega)]
  rw [if_neg (show ¬ um_sg g t p = 112 by omega)]
  rw [if_pos hs]
  rw [show ub_F = 4088 + 1 + 1 + 1 + 1 + 1 + 1 + 1 + 1 from rfl]
  rw [um_roLit (c := 99) hX (by omega) (by decide) (by decide) (by decide) (by decide) (by decide) (by decide) (by decide) (by decide), um_rm_of hs, if_pos rfl]
  rw [um_roD (p := (p + 1)) hX (by omega) (by decide) (by decide) (by decide) (by omega)]
  cases h0 : (um_rD g t (p + 1)).1
  · simp only [Bool.false_eq_true, if_false]
    exact ⟨_, rfl, fun j hj => rfl, fun z => absurd (show false = true from z) (by decide)⟩
  · simp only [if_true]
    rw [um_roEnd (i := 4) (j := 0 + 1 + 1) (by decide) (by decide)]
    exact um_kOk (fun j hj => by rw [um_up_ne (by omega)]) ⟨fun _ => by rw [um_up_eq rfl], fun h => absurd h (by decide), fun h => absurd h (by decide)⟩
-- n
theorem um_ro_n (hX : um_X t g tc tx) (hp : p < 2 ^ 16) (hs : um_sg g t p = 110) {num : Nat} (hn : num < 60) {kd : Nat → Int32} {N : Nat → Nat} : um_roK num kd N 110 (um_od g t p) (ulX3_readOrder_51 (nI num) kd (nI t) tc 5 ub_F (nI p) (um_nv N) (nI (3 * num)) (nI 0)) := by
  have hD1 := um_rD_le (t := t) (g := g) (p := p + 1)
  have hD2 := um_rD_le (t := t) (g := g) (p := (um_rD g t (p + 1)).2.1 + 1)
  unfold um_od
  rw [if_neg (show ¬ um_sg g t p = 114 by omega)]
  rw [if_neg (show ¬ um_sg g t p = 118 by omega)]
  rw [if_neg (show ¬ um_sg g t p = 115 by omega)]
  rw [if_neg (show ¬ um_sg g t p = 112 by omega)]
  rw [if_neg (show ¬ um_sg g t p = 99 by omega)]
  rw [if_pos hs]
  rw [show ub_F = 4088 + 1 + 1 + 1 + 1 + 1 + 1 + 1 + 1 from rfl]
  rw [um_roLit (c := 110) hX (by omega) (by decide) (by decide) (by decide) (by decide) (by decide) (by decide) (by decide) (by decide), um_rm_of hs, if_pos rfl]
  rw [um_roEnd (i := 5) (j := 0 + 1) (by decide) (by decide)]
  exact um_kOk (fun j hj => rfl) ⟨fun h => absurd h (by decide), fun h => absurd h (by decide), fun h => absurd h (by decide)⟩
-- h
theorem um_ro_h (hX : um_X t g tc tx) (hp : p < 2 ^ 16) (hs : um_sg g t p = 104) {num : Nat} (hn : num < 60) {kd : Nat → Int32} {N : Nat → Nat} : um_roK num kd N 104 (um_od g t p) (ulX3_readOrder_51 (nI num) kd (nI t) tc 6 ub_F (nI p) (um_nv N) (nI (3 * num)) (nI 0)) := by
  have hD1 := um_rD_le (t := t) (g := g) (p := p + 1)
  have hD2 := um_rD_le (t := t) (g := g) (p := (um_rD g t (p + 1)).2.1 + 1)
  unfold um_od
  rw [if_neg (show ¬ um_sg g t p = 114 by omega)]
  rw [if_neg (show ¬ um_sg g t p = 118 by omega)]
  rw [if_neg (show ¬ um_sg g t p = 115 by omega)]
  rw [if_neg (show ¬ um_sg g t p = 112 by omega)]
  rw [if_neg (show ¬ um_sg g t p = 99 by omega)]
  rw [if_neg (show ¬ um_sg g t p = 110 by omega)]
  rw [if_pos hs]
  rw [show ub_F = 4088 + 1 + 1 + 1 + 1 + 1 + 1 + 1 + 1 from rfl]
  rw [um_roLit (c := 104) hX (by omega) (by decide) (by decide) (by decide) (by decide) (by decide) (by decide) (by decide) (by decide), um_rm_of hs, if_pos rfl]
  rw [um_roEnd (i := 6) (j := 0 + 1) (by decide) (by decide)]
  exact um_kOk (fun j hj => rfl) ⟨fun h => absurd h (by decide), fun h => absurd h (by decide), fun h => absurd h (by decide)⟩
-- o
theorem um_ro_o (hX : um_X t g tc tx) (hp : p < 2 ^ 16) (hs : um_sg g t p = 111) {num : Nat} (hn : num < 60) {kd : Nat → Int32} {N : Nat → Nat} : um_roK num kd N 111 (um_od g t p) (ulX3_readOrder_51 (nI num) kd (nI t) tc 7 ub_F (nI p) (um_nv N) (nI (3 * num)) (nI 0)) := by
  have hD1 := um_rD_le (t := t) (g := g) (p := p + 1)
  have hD2 := um_rD_le (t := t) (g := g) (p := (um_rD g t (p + 1)).2.1 + 1)
  unfold um_od
  rw [if_neg (show ¬ um_sg g t p = 114 by omega)]
  rw [if_neg (show ¬ um_sg g t p = 118 by omega)]
  rw [if_neg (show ¬ um_sg g t p = 115 by omega)]
  rw [if_neg (show ¬ um_sg g t p = 112 by omega)]
  rw [if_neg (show ¬ um_sg g t p = 99 by omega)]
  rw [if_neg (show ¬ um_sg g t p = 110 by omega)]
  rw [if_neg (show ¬ um_sg g t p = 104 by omega)]
  rw [if_pos hs]
  rw [show ub_F = 4088 + 1 + 1 + 1 + 1 + 1 + 1 + 1 + 1 from rfl]
  rw [um_roLit (c := 111) hX (by omega) (by decide) (by decide) (by decide) (by decide) (by decide) (by decide) (by decide) (by decide), um_rm_of hs, if_pos rfl]
  rw [um_roD (p := (p + 1)) hX (by omega) (by decide) (by decide) (by decide) (by omega)]
  cases h0 : (um_rD g t (p + 1)).1
  · simp only [Bool.false_eq_true, if_false]
    exact ⟨_, rfl, fun j hj => rfl, fun z => absurd (show false = true from z) (by decide)⟩
  · simp only [if_true]
    rw [um_roLit (p := (um_rD g t (p + 1)).2.1) (c := 45) hX (by omega) (by decide) (by decide) (by decide) (by decide) (by decide) (by decide) (by decide) (by decide)]
    cases h1 : (um_rm 45 g t (um_rD g t (p + 1)).2.1).1
    · rw [um_rm_f h1]
      simp only [Bool.false_eq_true, if_false]
      exact um_kFail (fun j hj => by rw [um_up_ne (by omega)])
    · rw [um_rm_t h1]
      simp only [if_true]
      rw [um_rod (p := ((um_rD g t (p + 1)).2.1 + 1)) hX (by omega) (by decide) (by decide) (by decide) (by omega)]
      cases h2 : (um_rd g t ((um_rD g t (p + 1)).2.1 + 1)).1
      · simp only [Bool.false_eq_true, if_false]
        exact ⟨_, rfl, fun j hj => by rw [um_up_ne (by omega)], fun z => absurd (show false = true from z) (by decide)⟩
      · simp only [if_true]
        rw [um_roEnd (i := 7) (j := 0 + 1 + 1 + 1 + 1) (by decide) (by decide)]
        exact um_kOk (fun j hj => by rw [um_up_ne (by omega), um_up_ne (by omega)]) ⟨fun _ => by rw [um_up_ne (by omega), um_up_eq rfl], fun _ => by rw [um_up_eq rfl], fun h => absurd h (by decide)⟩
-- e
theorem um_ro_e (hX : um_X t g tc tx) (hp : p < 2 ^ 16) (hs : um_sg g t p = 101) {num : Nat} (hn : num < 60) {kd : Nat → Int32} {N : Nat → Nat} : um_roK num kd N 101 (um_od g t p) (ulX3_readOrder_51 (nI num) kd (nI t) tc 8 ub_F (nI p) (um_nv N) (nI (3 * num)) (nI 0)) := by
  have hD1 := um_rD_le (t := t) (g := g) (p := p + 1)
  have hD2 := um_rD_le (t := t) (g := g) (p := (um_rD g t (p + 1)).2.1 + 1)
  unfold um_od
  rw [if_neg (show ¬ um_sg g t p = 114 by omega)]
  rw [if_neg (show ¬ um_sg g t p = 118 by omega)]
  rw [if_neg (show ¬ um_sg g t p = 115 by omega)]
  rw [if_neg (show ¬ um_sg g t p = 112 by omega)]
  rw [if_neg (show ¬ um_sg g t p = 99 by omega)]
  rw [if_neg (show ¬ um_sg g t p = 110 by omega)]
  rw [if_neg (show ¬ um_sg g t p = 104 by omega)]
  rw [if_neg (show ¬ um_sg g t p = 111 by omega)]
  rw [if_pos hs]
  rw [show ub_F = 4088 + 1 + 1 + 1 + 1 + 1 + 1 + 1 + 1 from rfl]
  rw [um_roLit (c := 101) hX (by omega) (by decide) (by decide) (by decide) (by decide) (by decide) (by decide) (by decide) (by decide), um_rm_of hs, if_pos rfl]
  rw [um_roEnd (i := 8) (j := 0 + 1) (by decide) (by decide)]
  exact um_kOk (fun j hj => rfl) ⟨fun h => absurd h (by decide), fun h => absurd h (by decide), fun h => absurd h (by decide)⟩
end UM44
