/-! ===== texts in the law's walks ===== -/
/-- the bytes a hold the text t; k: how often the row has grown; cap: its capacity -/
def us_B (t : List Nat) (cap k : Nat) (a : Nat → Int32) : Prop := t.length ≤ cap ∧ sb_Fit a ∧ (∀ j, j < t.length → a j = sb_b (t.getD j 0)) ∧ 16 * 2 ^ k ≤ cap ∧ cap ≤ 2 * t.length + 16
/-- a String's bytes -/
def us_T (t : List Nat) (a : Nat → Int32) : Prop := sb_Fit a ∧ ∀ j, j < t.length → a j = sb_b (t.getD j 0)
theorem us_B0 : us_B [] 16 0 (fun _ => 0) := ⟨Nat.zero_le _, sb_fit0, fun j hj => absurd hj (Nat.not_lt_zero j), by decide, by decide⟩
theorem us_getD_lo {t s : List Nat} {j : Nat} (h : j < t.length) : (t ++ s).getD j 0 = t.getD j 0 := by
  rw [List.getD_eq_getElem?_getD, List.getD_eq_getElem?_getD, List.getElem?_append_left h]
theorem us_getD_hi {t s : List Nat} {j : Nat} : (t ++ s).getD (t.length + j) 0 = s.getD j 0 := by
  rw [List.getD_eq_getElem?_getD, List.getD_eq_getElem?_getD, List.getElem?_append_right (Nat.le_add_right _ _), Nat.add_sub_cancel_left]
theorem us_B_app {t s : List Nat} {cap k n : Nat} {a a2 : Nat → Int32} (h : us_B t cap k a) (hn : n = s.length) (h1 : ∀ j, j < t.length → a2 j = a j) (h2 : ∀ i, i < n → a2 (t.length + i) = sb_b (s.getD i 0)) (h3 : sb_Fit a2) :
    us_B (t ++ s) (sb_cap (t.length + n) cap) (k + us_mc (t.length + n) cap) a2 ∧ 2 * cap + us_ms (t.length + n) cap ≤ 2 * sb_cap (t.length + n) cap := by
  subst hn
  obtain ⟨b1, b2, b3, b4, b5⟩ := h
  have hl : (t ++ s).length = t.length + s.length := List.length_append
  have hc : ∀ j, j < (t ++ s).length → a2 j = sb_b ((t ++ s).getD j 0) := fun j hj => by
    by_cases e : j < t.length
    · rw [us_getD_lo e, h1 j e]
      exact b3 j e
    · obtain ⟨i, rfl⟩ : ∃ i, j = t.length + i := ⟨j - t.length, by omega⟩
      rw [us_getD_hi]
      exact h2 i (by omega)
  by_cases e : t.length + s.length ≤ cap
  · obtain ⟨k1, k2, k3⟩ := us_cap_lo e
    rw [k1, k2, k3]
    exact ⟨⟨by omega, h3, hc, b4, by omega⟩, by omega⟩
  · obtain ⟨k1, k2, k3⟩ := us_cap_hi e
    rw [k2, k3]
    have hq : sb_cap (t.length + s.length) cap = if t.length + s.length ≤ 2 * cap + 2 then 2 * cap + 2 else t.length + s.length := k1
    have h5 : 2 * cap + 2 ≤ sb_cap (t.length + s.length) cap ∧ t.length + s.length ≤ sb_cap (t.length + s.length) cap ∧ sb_cap (t.length + s.length) cap ≤ 2 * (t.length + s.length) := by
      rw [hq]
      split <;> omega
    refine ⟨⟨by omega, h3, hc, ?_, by omega⟩, by omega⟩
    rw [Nat.pow_succ]
    omega
theorem us_B_k {t : List Nat} {cap k : Nat} {a : Nat → Int32} (h : us_B t cap k a) (hl : t.length ≤ 8000) : k ≤ 9 ∧ cap ≤ 16016 := by
  obtain ⟨-, -, -, b4, b5⟩ := h
  refine ⟨?_, by omega⟩
  apply Nat.le_of_not_lt
  intro hk
  have h1 : 2 ^ 10 ≤ 2 ^ k := Nat.pow_le_pow_right (by decide) hk
  have h2 : (2 : Nat) ^ 10 = 1024 := by decide
  omega
def us_il_list (x : Int32) : List Nat := (List.range (us_il x)).map (us_it x)
theorem us_il_len (x : Int32) : (us_il_list x).length = us_il x := by
  unfold us_il_list
  rw [List.length_map, List.length_range]
theorem us_il_at {x : Int32} {i : Nat} (h : i < us_il x) : (us_il_list x).getD i 0 = us_it x i := by
  unfold us_il_list
  rw [List.getD_eq_getElem?_getD, List.getElem?_map, List.getElem?_range h]
  rfl
section US54
variable {p : Program} {l : Launch} {e : Env} {R : Room} {s : State} {m : MethodId} {args : Array Value} {below : List Frame} {meth : Method} {c : Code} {H : Heap} {locs : List Loc} {Q : State → Prop}
variable {pc : Nat} {ls : Array Slot} {rest : List Value} {A : Nat → Prop} {ws xs : va_W} {g : us_G} {cc : ByteArray} {nL : Nat} {b v : Nat} {ml : Int32} {t : List Nat} {cap k base bs : Nat} {a : Nat → Int32}
abbrev us_sb (g : us_G) (b v : Nat) (ml : Int32) (t : List Nat) (cap : Nat) (a : Nat → Int32) : va_W := [(b, .inr (1, [.ref v, .int 0, .int ml, .int (nI t.length)])), (v, .inl (g.2.2.2.1, cap, .inl a))]
abbrev us_st (g : us_G) (r v : Nat) (hs hz : Int32) (t : List Nat) (a : Nat → Int32) : va_W := [(r, .inr (0, [.ref v, .int 0, .int hs, .int hz])), (v, .inl (g.2.2.2.1, t.length, .inl a))]

theorem us_sbC {c0 : Nat} (K : us_kx p s m args meth c cc nL RL g A) (hls : ls.size = nL) (hP : va_P g.1 vwCl ws H) (hD : va_D A ws) (hS : va_S A s.heap H locs) (hp : ws.Perm (us_sb g b v ml t cap a ++ xs)) (hB : us_B t cap k a) (hlen : t.length ≤ 7000) (hc0 : c0 < 256)
    (hfr : 6 ≤ R.frames) (hlo : 133 ≤ R.locals) (hrc : base + 10 ≤ R.cells) (hrs : bs + 4 * (t.length + 1) + 32 ≤ R.slots) (hst : (rest.map fun v => v.category).sum ≤ 8) (hdg : decode cc pc = .ok (.invokevirtual 80, 3))
    (kk : ∀ (v2 cap2 k2 : Nat) (a2 : Nat → Int32) (H1 : Heap) (locs1 : List Loc), us_B (t ++ [c0]) cap2 k2 a2 → va_P g.1 vwCl (us_sb g b v2 ml (t ++ [c0]) cap2 a2 ++ xs) H1 → va_D A (us_sb g b v2 ml (t ++ [c0]) cap2 a2 ++ xs) → va_S A s.heap H1 locs1 → W p l e R s m args below meth c H1 locs1 (base + k2) (bs + 2 * cap2) Q (F0 m (pc + 3) ls (.ref b :: rest))) :
    W p l e R s m args below meth c H locs (base + k) (bs + 2 * cap) Q (F0 m pc ls (.int (nI c0) :: .ref b :: rest)) := by
  have hx9 := K
  obtain ⟨hx, hb, hml, hown, hts, hK, hN, hA, hZ⟩ := K
  obtain ⟨hPc, hDc⟩ := ub_subP hP hD hp
  have hFc := ub_freeP hD hS hA hp
  obtain ⟨k9, c9⟩ := us_B_k hB (by omega)
  skip
  have hL2 : (t ++ [c0]).length = t.length + 1 := by rw [List.length_append]; rfl
  have hms : us_mc (t.length + 1) cap ≤ 1 := by unfold us_mc; split <;> omega
  have hms2 : 2 * cap + us_ms (t.length + 1) cap ≤ 4 * (t.length + 1) + 32 := by
    obtain ⟨b1, -, -, -, b5⟩ := hB
    by_cases h9 : t.length + 1 ≤ cap
    · rw [(us_cap_lo h9).2.2]; omega
    · obtain ⟨z1, -, z3⟩ := us_cap_hi h9
      rw [z3, z1]
      split <;> omega
  refine us_callr (va_runV (As := [.int (nI c0)]) (rest := rest) ⟨hx, hb, hml, hown, hts⟩ (uj_appendC l g (n := t.length) hB.1 (by omega) hB.2.1 hc0) (cwV 1 hts gu_RL_80 rfl rfl rfl ⟨rfl, us_hJ4_append_cf468⟩ ⟨hfr, hlo⟩) (us_preV hZ hS hFc hPc hDc hK hN 0 (ci := 1) rfl rfl rfl) rfl rfl hls rfl (lv_room hst) hdg ⟨by show base + k + us_mc _ cap ≤ R.cells; omega, by show bs + 2 * cap + us_ms _ cap ≤ R.slots; omega⟩) hP hD hS hA hp (fun r u H1 locs1 hpost hP1 hD1 hS1 => ?_)
  obtain ⟨rfl, v2, a2, rfl, h1, h2, h3⟩ := hpost
  obtain ⟨g1, g2⟩ := us_B_app (s := [c0]) (n := 1) hB rfl h1 (fun i hi => by rcases i with _ | j <;> first | exact h2 | (exfalso; omega)) h3
  refine W.widen (k := base + (k + us_mc (t.length + 1) cap)) (n := bs + 2 * sb_cap (t.length + 1) cap) (by omega) (by omega) ?_
  refine kk v2 _ _ a2 H1 locs1 g1 ?_ ?_ hS1
  · unfold us_sb
    rw [hL2]
    exact hP1
  · unfold us_sb
    rw [hL2]
    exact hD1
theorem us_sbI {x : Int32} (K : us_kx p s m args meth c cc nL RL g A) (hls : ls.size = nL) (hP : va_P g.1 vwCl ws H) (hD : va_D A ws) (hS : va_S A s.heap H locs) (hp : ws.Perm (us_sb g b v ml t cap a ++ xs)) (hB : us_B t cap k a) (hlen : t.length ≤ 7000) (hxm : ¬ x = -2147483648)
    (hfr : 6 ≤ R.frames) (hlo : 135 ≤ R.locals) (hrc : base + 10 ≤ R.cells) (hrs : bs + 4 * (t.length + us_il x) + 32 ≤ R.slots) (hst : (rest.map fun v => v.category).sum ≤ 8) (hdg : decode cc pc = .ok (.invokevirtual 87, 3))
    (kk : ∀ (v2 cap2 k2 : Nat) (a2 : Nat → Int32) (H1 : Heap) (locs1 : List Loc), us_B (t ++ us_il_list x) cap2 k2 a2 → va_P g.1 vwCl (us_sb g b v2 ml (t ++ us_il_list x) cap2 a2 ++ xs) H1 → va_D A (us_sb g b v2 ml (t ++ us_il_list x) cap2 a2 ++ xs) → va_S A s.heap H1 locs1 → W p l e R s m args below meth c H1 locs1 (base + k2) (bs + 2 * cap2) Q (F0 m (pc + 3) ls (.ref b :: rest))) :
    W p l e R s m args below meth c H locs (base + k) (bs + 2 * cap) Q (F0 m pc ls (.int x :: .ref b :: rest)) := by
  have hx9 := K
  obtain ⟨hx, hb, hml, hown, hts, hK, hN, hA, hZ⟩ := K
  obtain ⟨hPc, hDc⟩ := ub_subP hP hD hp
  have hFc := ub_freeP hD hS hA hp
  obtain ⟨k9, c9⟩ := us_B_k hB (by omega)
  have hil := us_il_in x
  have hL2 : (t ++ us_il_list x).length = t.length + us_il x := by rw [List.length_append]; rw [us_il_len]
  have hms : us_mc (t.length + us_il x) cap ≤ 1 := by unfold us_mc; split <;> omega
  have hms2 : 2 * cap + us_ms (t.length + us_il x) cap ≤ 4 * (t.length + us_il x) + 32 := by
    obtain ⟨b1, -, -, -, b5⟩ := hB
    by_cases h9 : t.length + us_il x ≤ cap
    · rw [(us_cap_lo h9).2.2]; omega
    · obtain ⟨z1, -, z3⟩ := us_cap_hi h9
      rw [z3, z1]
      split <;> omega
  refine us_callr (va_runV (As := [.int x]) (rest := rest) ⟨hx, hb, hml, hown, hts⟩ (uj_appendI l g (n := t.length) hB.1 (by omega) hB.2.1 hxm) (cwV 1 hts gu_RL_87 rfl rfl rfl ⟨rfl, us_hJ4_append_bf812⟩ ⟨hfr, hlo⟩) (us_preV hZ hS hFc hPc hDc hK hN 0 (ci := 1) rfl rfl rfl) rfl rfl hls rfl (lv_room hst) hdg ⟨by show base + k + us_mc _ cap ≤ R.cells; omega, by show bs + 2 * cap + us_ms _ cap ≤ R.slots; omega⟩) hP hD hS hA hp (fun r u H1 locs1 hpost hP1 hD1 hS1 => ?_)
  obtain ⟨rfl, v2, a2, rfl, h1, h2, h3⟩ := hpost
  obtain ⟨g1, g2⟩ := us_B_app (s := us_il_list x) (n := us_il x) hB (us_il_len x).symm h1 (fun i hi => by rw [us_il_at hi]; exact h2 i hi) h3
  refine W.widen (k := base + (k + us_mc (t.length + us_il x) cap)) (n := bs + 2 * sb_cap (t.length + us_il x) cap) (by omega) (by omega) ?_
  refine kk v2 _ _ a2 H1 locs1 g1 ?_ ?_ hS1
  · unfold us_sb
    rw [hL2]
    exact hP1
  · unfold us_sb
    rw [hL2]
    exact hD1
theorem us_sbS {r0 v0 : Nat} {hs hz : Int32} {t0 : List Nat} {a0 : Nat → Int32} (K : us_kx p s m args meth c cc nL RL g A) (hls : ls.size = nL) (hP : va_P g.1 vwCl ws H) (hD : va_D A ws) (hS : va_S A s.heap H locs) (hp : ws.Perm (us_sb g b v ml t cap a ++ us_st g r0 v0 hs hz t0 a0 ++ xs)) (hB : us_B t cap k a) (hlen : t.length ≤ 7000) (hT : us_T t0 a0) (hn0 : t0.length ≤ 400)
    (hfr : 6 ≤ R.frames) (hlo : 134 ≤ R.locals) (hrc : base + 10 ≤ R.cells) (hrs : bs + 4 * (t.length + t0.length) + 32 ≤ R.slots) (hst : (rest.map fun v => v.category).sum ≤ 8) (hdg : decode cc pc = .ok (.invokevirtual 97, 3))
    (kk : ∀ (v2 cap2 k2 : Nat) (a2 : Nat → Int32) (H1 : Heap) (locs1 : List Loc), us_B (t ++ t0) cap2 k2 a2 → va_P g.1 vwCl (us_sb g b v2 ml (t ++ t0) cap2 a2 ++ us_st g r0 v0 hs hz t0 a0 ++ xs) H1 → va_D A (us_sb g b v2 ml (t ++ t0) cap2 a2 ++ us_st g r0 v0 hs hz t0 a0 ++ xs) → va_S A s.heap H1 locs1 → W p l e R s m args below meth c H1 locs1 (base + k2) (bs + 2 * cap2) Q (F0 m (pc + 3) ls (.ref b :: rest))) :
    W p l e R s m args below meth c H locs (base + k) (bs + 2 * cap) Q (F0 m pc ls (.ref r0 :: .ref b :: rest)) := by
  have hx9 := K
  obtain ⟨hx, hb, hml, hown, hts, hK, hN, hA, hZ⟩ := K
  obtain ⟨hPc, hDc⟩ := ub_subP hP hD hp
  have hFc := ub_freeP hD hS hA hp
  obtain ⟨k9, c9⟩ := us_B_k hB (by omega)
  skip
  have hL2 : (t ++ t0).length = t.length + t0.length := by rw [List.length_append]; skip
  have hms : us_mc (t.length + t0.length) cap ≤ 1 := by unfold us_mc; split <;> omega
  have hms2 : 2 * cap + us_ms (t.length + t0.length) cap ≤ 4 * (t.length + t0.length) + 32 := by
    obtain ⟨b1, -, -, -, b5⟩ := hB
    by_cases h9 : t.length + t0.length ≤ cap
    · rw [(us_cap_lo h9).2.2]; omega
    · obtain ⟨z1, -, z3⟩ := us_cap_hi h9
      rw [z3, z1]
      split <;> omega
  refine us_callr (va_runV (As := [.ref r0]) (rest := rest) ⟨hx, hb, hml, hown, hts⟩ (uj_appendSS l g (n := t.length) (n0 := t0.length) hB.1 (by omega) hB.2.1 hT.1 (by omega)) (cwV 1 hts gu_RL_97 rfl rfl rfl ⟨rfl, us_hJ4_append_15ec4⟩ ⟨hfr, hlo⟩) (us_preV hZ hS hFc hPc hDc hK hN 0 (ci := 1) rfl rfl rfl) rfl rfl hls rfl (lv_room hst) hdg ⟨by show base + k + us_mc _ cap ≤ R.cells; omega, by show bs + 2 * cap + us_ms _ cap ≤ R.slots; omega⟩) hP hD hS hA hp (fun r u H1 locs1 hpost hP1 hD1 hS1 => ?_)
  obtain ⟨rfl, v2, a2, rfl, h1, h2, h3⟩ := hpost
  obtain ⟨g1, g2⟩ := us_B_app (s := t0) (n := t0.length) hB rfl h1 (fun i hi => (h2 i hi).trans (hT.2 i hi)) h3
  refine W.widen (k := base + (k + us_mc (t.length + t0.length) cap)) (n := bs + 2 * sb_cap (t.length + t0.length) cap) (by omega) (by omega) ?_
  refine kk v2 _ _ a2 H1 locs1 g1 ?_ ?_ hS1
  · unfold us_sb
    rw [hL2]
    exact hP1
  · unfold us_sb
    rw [hL2]
    exact hD1
theorem us_sbK {i0 : Nat} {t0 : List Nat} (K : us_kx p s m args meth c cc nL RL g A) (hls : ls.size = nL) (hP : va_P g.1 vwCl ws H) (hD : va_D A ws) (hS : va_S A s.heap H locs) (hp : ws.Perm (us_sb g b v ml t cap a ++ xs)) (hB : us_B t cap k a) (hlen : t.length ≤ 7000) (hi0 : i0 < 14) (ht0 : t0.length = us_len.getD i0 0) (hb0 : ∀ i, i < t0.length → (us_byt.getD i0 []).getD i 0 = sb_b (t0.getD i 0))
    (hfr : 6 ≤ R.frames) (hlo : 134 ≤ R.locals) (hrc : base + 10 ≤ R.cells) (hrs : bs + 4 * (t.length + (us_len.getD i0 0)) + 32 ≤ R.slots) (hst : (rest.map fun v => v.category).sum ≤ 8) (hdg : decode cc pc = .ok (.invokevirtual 97, 3))
    (kk : ∀ (v2 cap2 k2 : Nat) (a2 : Nat → Int32) (H1 : Heap) (locs1 : List Loc), us_B (t ++ t0) cap2 k2 a2 → va_P g.1 vwCl (us_sb g b v2 ml (t ++ t0) cap2 a2 ++ xs) H1 → va_D A (us_sb g b v2 ml (t ++ t0) cap2 a2 ++ xs) → va_S A s.heap H1 locs1 → W p l e R s m args below meth c H1 locs1 (base + k2) (bs + 2 * cap2) Q (F0 m (pc + 3) ls (.ref b :: rest))) :
    W p l e R s m args below meth c H locs (base + k) (bs + 2 * cap) Q (F0 m pc ls (.ref (g.2.2.2.2.1 i0) :: .ref b :: rest)) := by
  have hx9 := K
  obtain ⟨hx, hb, hml, hown, hts, hK, hN, hA, hZ⟩ := K
  obtain ⟨hPc, hDc⟩ := ub_subP hP hD hp
  have hFc := ub_freeP hD hS hA hp
  obtain ⟨k9, c9⟩ := us_B_k hB (by omega)
  have hlen0 := (us_len_in i0 hi0).1
  have hL2 : (t ++ t0).length = t.length + (us_len.getD i0 0) := by rw [List.length_append]; rw [ht0]
  have hms : us_mc (t.length + (us_len.getD i0 0)) cap ≤ 1 := by unfold us_mc; split <;> omega
  have hms2 : 2 * cap + us_ms (t.length + (us_len.getD i0 0)) cap ≤ 4 * (t.length + (us_len.getD i0 0)) + 32 := by
    obtain ⟨b1, -, -, -, b5⟩ := hB
    by_cases h9 : t.length + (us_len.getD i0 0) ≤ cap
    · rw [(us_cap_lo h9).2.2]; omega
    · obtain ⟨z1, -, z3⟩ := us_cap_hi h9
      rw [z3, z1]
      split <;> omega
  refine us_callr (va_runV (As := [.ref (g.2.2.2.2.1 i0)]) (rest := rest) ⟨hx, hb, hml, hown, hts⟩ (uj_appendSK l g (n := t.length) hB.1 (by omega) hB.2.1 hi0) (cwV 1 hts gu_RL_97 rfl rfl rfl ⟨rfl, us_hJ4_append_15ec4⟩ ⟨hfr, hlo⟩) (us_preV hZ hS hFc hPc hDc hK hN 0 (ci := 1) rfl rfl rfl) rfl rfl hls rfl (lv_room hst) hdg ⟨by show base + k + us_mc _ cap ≤ R.cells; omega, by show bs + 2 * cap + us_ms _ cap ≤ R.slots; omega⟩) hP hD hS hA hp (fun r u H1 locs1 hpost hP1 hD1 hS1 => ?_)
  obtain ⟨rfl, v2, a2, rfl, h1, h2, h3⟩ := hpost
  obtain ⟨g1, g2⟩ := us_B_app (s := t0) (n := (us_len.getD i0 0)) hB ht0.symm h1 (fun i hi => (h2 i hi).trans (hb0 i (by omega))) h3
  refine W.widen (k := base + (k + us_mc (t.length + (us_len.getD i0 0)) cap)) (n := bs + 2 * sb_cap (t.length + (us_len.getD i0 0)) cap) (by omega) (by omega) ?_
  refine kk v2 _ _ a2 H1 locs1 g1 ?_ ?_ hS1
  · unfold us_sb
    rw [hL2]
    exact hP1
  · unfold us_sb
    rw [hL2]
    exact hD1
theorem us_sbT (K : us_kx p s m args meth c cc nL RL g A) (hls : ls.size = nL) (hP : va_P g.1 vwCl ws H) (hD : va_D A ws) (hS : va_S A s.heap H locs) (hp : ws.Perm (us_sb g b v ml t cap a ++ xs)) (hB : us_B t cap k a) (hlen : t.length ≤ 7000)
    (hfr : 6 ≤ R.frames) (hlo : 137 ≤ R.locals) (hrc : base + 12 ≤ R.cells) (hrs : bs + 5 * t.length + 36 ≤ R.slots) (hst : (rest.map fun v => v.category).sum ≤ 8) (hdg : decode cc pc = .ok (.invokevirtual 83, 3))
    (kk : ∀ (r v2 : Nat) (a2 : Nat → Int32) (H1 : Heap) (locs1 : List Loc), us_T t a2 → va_P g.1 vwCl (us_st g r v2 0 0 t a2 ++ xs) H1 → va_D A (us_st g r v2 0 0 t a2 ++ xs) → va_S A s.heap H1 locs1 → W p l e R s m args below meth c H1 locs1 (base + 12) (bs + 5 * t.length + 36) Q (F0 m (pc + 3) ls (.ref r :: rest))) :
    W p l e R s m args below meth c H locs (base + k) (bs + 2 * cap) Q (F0 m pc ls (.ref b :: rest)) := by
  obtain ⟨hx, hb, hml, hown, hts, hK, hN, hA, hZ⟩ := K
  obtain ⟨hPc, hDc⟩ := ub_subP hP hD hp
  have hFc := ub_freeP hD hS hA hp
  obtain ⟨k9, c9⟩ := us_B_k hB (by omega)
  obtain ⟨b1, b2, b3, b4, b5⟩ := hB
  refine us_callr (va_runV (As := []) (rest := rest) ⟨hx, hb, hml, hown, hts⟩ (uj_toString l g (n := t.length) b1 (by omega) b2) (cwV 0 hts gu_RL_83 rfl rfl rfl ⟨rfl, us_hJ4_toString_0e30d⟩ ⟨hfr, hlo⟩) (us_preV hZ hS hFc hPc hDc hK hN 0 (ci := 1) rfl rfl rfl) rfl rfl hls rfl (lv_room hst) hdg ⟨by show base + k + 2 ≤ R.cells; omega, by show bs + 2 * cap + (t.length + 4) ≤ R.slots; omega⟩) hP hD hS hA hp (fun r u H1 locs1 hpost hP1 hD1 hS1 => ?_)
  obtain ⟨v2, a2, rfl, h1, h3⟩ := hpost
  refine W.widen (k := base + 12) (n := bs + 5 * t.length + 36) (by omega) (by omega) ?_
  refine kk r v2 a2 H1 locs1 ⟨h3, fun j hj => (h1 j hj).trans (b3 j hj)⟩ ?_ ?_ hS1
  · exact us_subP (List.Sublist.cons _ (List.Sublist.cons _ (List.Sublist.refl _))) hP1
  · exact us_subD (List.Sublist.cons _ (List.Sublist.cons _ (List.Sublist.refl _))) hD1
/-- new StringBuilder(): new, dup, invokespecial */ -/
theorem us_sbN (K : us_kx p s m args meth c cc nL RL g A) (hls : ls.size = nL) (hP : va_P g.1 vwCl ws H) (hD : va_D A ws) (hS : va_S A s.heap H locs) {cells slots : Nat}
    (hfr : 3 ≤ R.frames) (hlo : 62 ≤ R.locals) (hrc : cells + 2 ≤ R.cells) (hrs : slots + 20 ≤ R.slots) (hst : (rest.map fun v => v.category).sum ≤ 7) (d0 : decode cc pc = .ok (.new 74, 3)) (d3 : decode cc (pc + 3) = .ok (.dup, 1)) (d4 : decode cc (pc + 3 + 1) = .ok (.invokespecial 76, 3))
    (kk : ∀ (b v : Nat) (H1 : Heap) (locs1 : List Loc), va_P g.1 vwCl (us_sb g b v 0 [] 16 (fun _ => 0) ++ ws) H1 → va_D A (us_sb g b v 0 [] 16 (fun _ => 0) ++ ws) → va_S A s.heap H1 locs1 → W p l e R s m args below meth c H1 locs1 (cells + 2) (slots + 20) Q (F0 m (pc + 3 + 1 + 3) ls (.ref b :: rest))) :
    W p l e R s m args below meth c H locs cells slots Q (F0 m pc ls rest) := by
  obtain ⟨hx, hb, hml, hown, hts, hK, hN, hA, hZ⟩ := K
  refine va_new (ci := 1) (fs := [.null, .int 0, .int 0, .int 0]) (C := RJ4) (T := TJ4) (N := 4) hx hb hts us_inJ4 tyJ4 tyJ4_ok hown (hts _ us_m818) (hts _ us_m819) (hts _ us_m58) hK hP hD hS hA rfl (fun j hj => by rcases (show j = 0 ∨ j = 1 ∨ j = 2 ∨ j = 3 by omega) with rfl | rfl | rfl | rfl <;> rfl) (by omega) (by omega) d0 (fun b H hP hD hS => ?_)
  refine lv_dup hx hb d3 rfl ?_
  have hp : (ws ++ [(b, .inr (1, [.null, .int 0, .int 0, .int 0]))] : va_W).Perm ([(b, .inr (1, [.null, .int 0, .int 0, .int 0]))] ++ ws) := List.perm_append_comm
  obtain ⟨hPc, hDc⟩ := ub_subP hP hD hp
  have hFc := ub_freeP hD hS hA hp
  refine us_callv (va_runI (As := []) (rest := .ref b :: rest) ⟨hx, hb, hml, hown, hts⟩ (uj_initB l g) (cwI 0 hts gu_init_J4_init_da8c8 rfl rfl rfl (hts _ us_m58) (hts _ us_m820) (hts _ us_m821) rfl us_hJ4_init_da8c8 ⟨hfr, hlo⟩) (us_preS hZ hS hFc hPc hDc hK hN) rfl rfl hls rfl (lv_room (by show 1 + (rest.map fun v => v.category).sum ≤ 8; omega)) d4 ⟨by show cells + 1 + 1 ≤ R.cells; omega, by show slots + 4 + 16 ≤ R.slots; omega⟩) hP hD hS hA hp (fun u H1 locs1 hpost hP1 hD1 hS1 => ?_)
  obtain ⟨v, rfl⟩ := hpost
  refine W.widen (k := cells + 2) (n := slots + 20) (by omega) (by omega) ?_
  exact kk b v H1 locs1 hP1 hD1 hS1
end US54
