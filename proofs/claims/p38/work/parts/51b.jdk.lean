/-- what is appended for an int: its letters -/
def us_sgn (x : Int32) : Nat := if x < 0 then 1 else 0
def us_abs (x : Int32) : Nat := if x < 0 then (-x).toNatClampNeg else x.toNatClampNeg
def us_il (x : Int32) : Nat := us_sgn x + sb_dg (us_abs x)
def us_it (x : Int32) : Nat → Nat := if us_sgn x = 1 then (fun i => if i = 0 then 45 else sb_dec (us_abs x) (i - 1)) else sb_dec (us_abs x)
theorem us_it_ok {x : Int32} (h : ¬ x = -2147483648) : us_abs x < 2 ^ 31 ∧ ((x = nI (us_abs x) ∧ us_sgn x = 0) ∨ (x = -nI (us_abs x) ∧ 1 ≤ us_abs x ∧ us_sgn x = 1)) := by
  by_cases hx : x < 0
  · have e1 : us_abs x = (-x).toNatClampNeg := if_pos hx
    have e2 : us_sgn x = 1 := if_pos hx
    have hp : ¬ -x < 0 := by
      intro z
      rw [Int32.lt_iff_toInt_lt, Int32.toInt_zero] at hx z
      have hb := Int32.le_toInt x
      have hne : x.toInt ≠ -2147483648 := fun q => h (Int32.toInt_inj.mp (q.trans (by decide)))
      rw [Int32.toInt_neg, Int.bmod_eq_of_le (by omega) (by omega)] at z
      omega
    obtain ⟨k, hk, ek⟩ := nI_of hp
    have ea : us_abs x = k := by rw [e1, ek, nI_clamp hk]
    refine ⟨by rw [ea]; exact hk, Or.inr ⟨by rw [ea, ← ek, Int32.neg_neg], ?_, e2⟩⟩
    rw [ea]
    rcases Nat.eq_zero_or_pos k with e | e
    · subst e
      have : x = 0 := by rw [← Int32.neg_neg (a := x), ek]; decide
      rw [this] at hx
      exact absurd hx (by decide)
    · exact e
  · obtain ⟨k, hk, rfl⟩ := nI_of hx
    have e1 : us_abs (nI k) = k := by
      unfold us_abs
      rw [if_neg hx, nI_clamp hk]
    have e2 : us_sgn (nI k) = 0 := if_neg hx
    rw [e1]
    exact ⟨hk, Or.inl ⟨rfl, e2⟩⟩
theorem us_il_in (x : Int32) : 1 ≤ us_il x ∧ us_il x ≤ 11 := by
  have h := sb_dg_in (us_abs x)
  have h2 : us_sgn x ≤ 1 := by unfold us_sgn; split <;> omega
  unfold us_il
  omega
theorem us_hJ5_append_c97b9 : yJ5_append_c97b9.cls ≠ "java/lang/invoke/MethodHandle" ∧ yJ5_append_c97b9.cls ≠ "java/lang/invoke/VarHandle" ∧ (parseMethodDescriptor yJ5_append_c97b9.desc).map (fun d => d.parameters.length) = some 1 := by decide +kernel
set_option maxHeartbeats 4000000 in
set_option maxRecDepth 100000 in
theorem uj_appendI5 (l : Launch) (g : us_G) {sz : Nat} {b v : Nat} {ml : Int32} {n cap : Nat} {a : Nat → Int32} (hnm : n ≤ cap) (hm : cap ≤ 30000) (hf : sb_Fit a) {x : Int32} (hxm : ¬ x = -2147483648) : Met l yJ5_append_c97b9 wsJ5_append_c97b9 ({ frames := 4, cells := (us_mc (n + us_il x) cap), slots := (us_ms (n + us_il x) cap), locals := 91 } : Room) (va_Pc [.ref b, .int x] (us_pc g [(b, .inr (1, [.ref v, .int 0, .int ml, .int (nI n)])), (v, .inl (g.2.2.2.1, cap, .inl a))] sz)) (va_Qr (fun (_ : va_W) => True) (fun u r t => (fun (r : Nat) (u : va_W) => r = b ∧ ∃ (v2 : Nat) (a2 : Nat → Int32), u = [(b, .inr (1, [.ref v2, .int 0, .int ml, .int (nI (n + us_il x))])), (v2, .inl (g.2.2.2.1, sb_cap (n + us_il x) cap, .inl a2))] ∧ (∀ j, j < n → a2 j = a j) ∧ (∀ i, i < us_il x → a2 (n + i) = sb_b (us_it x i)) ∧ sb_Fit a2) r u ∧ ub_pq g.1 u (va_A [(b, .inr (1, [.ref v, .int 0, .int ml, .int (nI n)])), (v, .inl (g.2.2.2.1, cap, .inl a))] sz) t) (va_A [(b, .inr (1, [.ref v, .int 0, .int ml, .int (nI n)])), (v, .inl (g.2.2.2.1, cap, .inl a))] sz)) (us_mc (n + us_il x) cap) (us_ms (n + us_il x) cap) (va_A [(b, .inr (1, [.ref v, .int 0, .int ml, .int (nI n)])), (v, .inl (g.2.2.2.1, cap, .inl a))] sz) := by
  refine us_met_r (post := (fun (r : Nat) (u : va_W) => r = b ∧ ∃ (v2 : Nat) (a2 : Nat → Int32), u = [(b, .inr (1, [.ref v2, .int 0, .int ml, .int (nI (n + us_il x))])), (v2, .inl (g.2.2.2.1, sb_cap (n + us_il x) cap, .inl a2))] ∧ (∀ j, j < n → a2 j = a j) ∧ (∀ i, i < us_il x → a2 (n + i) = sb_b (us_it x i)) ∧ sb_Fit a2)) (Or.inl ⟨_, rfl⟩) (by decide +kernel) (Nat.le_of_ble_eq_true rfl) fun p e s m args below meth c Q A K hret ls hl hP hD hS => ?_
  obtain ⟨hx, hb, hml, hown, hts, hK, hN, hA, hZ⟩ := K
  have hl : lv_has ls 4 [(0, .ref b), (1, .int x)] := hl
  obtain ⟨hw, hx0⟩ := us_it_ok hxm
  have hil := us_il_in x
  have hxd : (x = nI (us_abs x) ∧ nI (us_sgn x) = 0) ∨ (x = -nI (us_abs x) ∧ 1 ≤ us_abs x ∧ nI (us_sgn x) = 1) := by
      rcases hx0 with ⟨h1, h2⟩ | ⟨h1, h2, h3⟩
      · exact Or.inl ⟨h1, by rw [h2]; rfl⟩
      · exact Or.inr ⟨h1, h2, by rw [h3]; rfl⟩
  refine lv_aload_n hx hb dJ5_append_c97b9_0 rfl (lv_at hl 0 rfl) ?_
  refine va_get (ci := 1) (v := .int (nI n)) (C := RJ4) (T := TJ4) (N := 4) hx hb hts us_inJ4 hown hK hP 0 rfl rfl 3 (by decide) (hts _ us_m838) (fun _ h9 => h9) rfl dJ5_append_c97b9_1 ?_
  refine lv_istore_n (lv' := [(2, .int (nI n)), (0, .ref b), (1, .int x)]) hx hb dJ5_append_c97b9_4 rfl hl (by decide) rfl (fun ls hl => ?_)
  refine lv_iload_n hx hb dJ5_append_c97b9_5 rfl (lv_at hl 0 rfl) ?_
  refine lv_iload_n hx hb dJ5_append_c97b9_6 rfl (lv_at hl 2 rfl) ?_
  have hpm : ([(b, .inr (1, [.ref v, .int 0, .int ml, .int (nI n)])), (v, .inl (g.2.2.2.1, cap, .inl a))] : va_W).Perm ([] ++ [(b, .inr (1, [.ref v, .int 0, .int ml, .int (nI n)])), (v, .inl (g.2.2.2.1, cap, .inl a))]) := ub_permN 2 rfl [0, 1] (by decide) rfl
  have hPc : va_P g.1 vwCl [] _ := ub_pickP hP [] rfl
  have hDc : va_D A [] := hD.sub [] (by decide) rfl
  have hFc := ub_freeP hD hS hA hpm
  refine us_calli (va_runS (As := [.int x]) (rest := [.int (nI n)]) ⟨hx, hb, hml, hown, hts⟩ (uj_stringSize l g hw hxd) (va_cwS 1 hts gu_RJ5_245 rfl rfl rfl us_hJ6_stringSize_0f7a4 ⟨Nat.le_of_ble_eq_true rfl, Nat.le_of_ble_eq_true rfl⟩) (us_preS hZ hS hFc hPc hDc hK hN) rfl rfl hl.1 rfl (lv_room (Nat.le_of_ble_eq_true rfl)) dJ5_append_c97b9_7 ⟨by show 0 + 0 ≤ us_mc (n + us_il x) cap; omega, by show 0 + 0 ≤ us_ms (n + us_il x) cap; omega⟩) hP hD hS hA hpm (fun r u H locs hpost hP hD hS => ?_)
  obtain ⟨rfl, rfl⟩ := hpost
  have hP : va_P g.1 vwCl [(b, .inr (1, [.ref v, .int 0, .int ml, .int (nI n)])), (v, .inl (g.2.2.2.1, cap, .inl a))] _ := hP
  have hD : va_D A [(b, .inr (1, [.ref v, .int 0, .int ml, .int (nI n)])), (v, .inl (g.2.2.2.1, cap, .inl a))] := hD
  refine lv_iadd hx hb dJ5_append_c97b9_10 ?_
  refine us_topi (x := nI (n + us_il x)) (by rw [nI_add, nI_add]; unfold us_il; congr 1; omega) ?_
  refine lv_istore_n (lv' := [(3, .int (nI (n + us_il x))), (2, .int (nI n)), (0, .ref b), (1, .int x)]) hx hb dJ5_append_c97b9_11 rfl hl (by decide) rfl (fun ls hl => ?_)
  refine lv_aload_n hx hb dJ5_append_c97b9_12 rfl (lv_at hl 2 rfl) ?_
  refine lv_iload_n hx hb dJ5_append_c97b9_13 rfl (lv_at hl 0 rfl) ?_
  have hpm : ([(b, .inr (1, [.ref v, .int 0, .int ml, .int (nI n)])), (v, .inl (g.2.2.2.1, cap, .inl a))] : va_W).Perm ([(b, .inr (1, [.ref v, .int 0, .int ml, .int (nI n)])), (v, .inl (g.2.2.2.1, cap, .inl a))] ++ []) := ub_permN 2 rfl [0, 1] (by decide) rfl
  have hPc : va_P g.1 vwCl [(b, .inr (1, [.ref v, .int 0, .int ml, .int (nI n)])), (v, .inl (g.2.2.2.1, cap, .inl a))] _ := ub_pickP hP [0, 1] rfl
  have hDc : va_D A [(b, .inr (1, [.ref v, .int 0, .int ml, .int (nI n)])), (v, .inl (g.2.2.2.1, cap, .inl a))] := hD.sub [0, 1] (by decide) rfl
  have hFc := ub_freeP hD hS hA hpm
  refine us_callv (va_runU (As := [.int (nI (n + us_il x))]) (rest := []) ⟨hx, hb, hml, hown, hts⟩ (uj_ensure l g (cap := cap) (q := n + us_il x) (a := a) (by omega) (by omega) hf) (va_cwU 1 hts gu_RJ5_100 rfl rfl rfl rfl us_hJ5_ensureCapacityInternal_d00df ⟨Nat.le_of_ble_eq_true rfl, Nat.le_of_ble_eq_true rfl⟩) (us_preV hZ hS hFc hPc hDc hK hN 0 (ci := 1) rfl rfl rfl) rfl rfl hl.1 rfl (lv_room (Nat.le_of_ble_eq_true rfl)) dJ5_append_c97b9_14 ⟨by show 0 + us_mc (n + us_il x) cap ≤ us_mc (n + us_il x) cap; omega, by show 0 + us_ms (n + us_il x) cap ≤ us_ms (n + us_il x) cap; omega⟩) hP hD hS hA hpm (fun u H locs hpost hP hD hS => ?_)
  obtain ⟨v2, a2, rfl, hk, hf2⟩ := hpost
  have hP : va_P g.1 vwCl [(b, .inr (1, [.ref v2, .int 0, .int ml, .int (nI n)])), (v2, .inl (g.2.2.2.1, (sb_cap (n + us_il x) cap), .inl a2))] _ := hP
  have hD : va_D A [(b, .inr (1, [.ref v2, .int 0, .int ml, .int (nI n)])), (v2, .inl (g.2.2.2.1, (sb_cap (n + us_il x) cap), .inl a2))] := hD
  refine W.widen (k := us_mc (n + us_il x) cap) (n := us_ms (n + us_il x) cap) (by omega) (by omega) ?_
  have hg := sb_cap_ge (n + us_il x) cap
  have hC : sb_cap (n + us_il x) cap ≤ 70000 := by
      unfold sb_cap
      split
      · omega
      · split <;> omega
  refine lv_aload_n hx hb dJ5_append_c97b9_17 rfl (lv_at hl 2 rfl) ?_
  have hpm : ([(b, .inr (1, [.ref v2, .int 0, .int ml, .int (nI n)])), (v2, .inl (g.2.2.2.1, (sb_cap (n + us_il x) cap), .inl a2))] : va_W).Perm ([(b, .inr (1, [.ref v2, .int 0, .int ml, .int (nI n)]))] ++ [(v2, .inl (g.2.2.2.1, (sb_cap (n + us_il x) cap), .inl a2))]) := ub_permN 2 rfl [0, 1] (by decide) rfl
  have hPc : va_P g.1 vwCl [(b, .inr (1, [.ref v2, .int 0, .int ml, .int (nI n)]))] _ := ub_pickP hP [0] rfl
  have hDc : va_D A [(b, .inr (1, [.ref v2, .int 0, .int ml, .int (nI n)]))] := hD.sub [0] (by decide) rfl
  have hFc := ub_freeP hD hS hA hpm
  refine us_calli (va_runU (As := []) (rest := []) ⟨hx, hb, hml, hown, hts⟩ (uj_isLatin1 l g) (va_cwU 0 hts gu_RJ5_83 rfl rfl rfl rfl us_hJ5_isLatin1_aae02 ⟨Nat.le_of_ble_eq_true rfl, Nat.le_of_ble_eq_true rfl⟩) (us_preV hZ hS hFc hPc hDc hK hN 0 (ci := 1) rfl rfl rfl) rfl rfl hl.1 rfl (lv_room (Nat.le_of_ble_eq_true rfl)) dJ5_append_c97b9_18 ⟨Nat.le_refl _, Nat.le_refl _⟩) hP hD hS hA hpm (fun r u H locs hpost hP hD hS => ?_)
  obtain ⟨rfl, rfl⟩ := hpost
  have hP : va_P g.1 vwCl [(b, .inr (1, [.ref v2, .int 0, .int ml, .int (nI n)])), (v2, .inl (g.2.2.2.1, (sb_cap (n + us_il x) cap), .inl a2))] _ := hP
  have hD : va_D A [(b, .inr (1, [.ref v2, .int 0, .int ml, .int (nI n)])), (v2, .inl (g.2.2.2.1, (sb_cap (n + us_il x) cap), .inl a2))] := hD
  refine lv_if_eq (tgt := 37) hx hb dJ5_append_c97b9_21 (by decide) (fun cc => absurd cc (by decide)) (fun _ => ?_)
  refine lv_iload_n hx hb dJ5_append_c97b9_24 rfl (lv_at hl 3 rfl) ?_
  refine lv_iload_n hx hb dJ5_append_c97b9_25 rfl (lv_at hl 0 rfl) ?_
  refine lv_aload_n hx hb dJ5_append_c97b9_26 rfl (lv_at hl 2 rfl) ?_
  refine va_get (ci := 1) (v := .ref v2) (C := RJ4) (T := TJ4) (N := 4) hx hb hts us_inJ4 hown hK hP 0 rfl rfl 0 (by decide) (hts _ us_m835) (fun _ h9 => h9) rfl dJ5_append_c97b9_27 ?_
  have eil : n + us_il x = n + us_sgn x + sb_dg (us_abs x) := by unfold us_il; omega
  have hpm : ([(b, .inr (1, [.ref v2, .int 0, .int ml, .int (nI n)])), (v2, .inl (g.2.2.2.1, (sb_cap (n + us_il x) cap), .inl a2))] : va_W).Perm ([(v2, .inl (g.2.2.2.1, (sb_cap (n + us_il x) cap), .inl a2))] ++ [(b, .inr (1, [.ref v2, .int 0, .int ml, .int (nI n)]))]) := ub_permN 2 rfl [1, 0] (by decide) rfl
  have hPc : va_P g.1 vwCl [(v2, .inl (g.2.2.2.1, (sb_cap (n + us_il x) cap), .inl a2))] _ := ub_pickP hP [1] rfl
  have hDc : va_D A [(v2, .inl (g.2.2.2.1, (sb_cap (n + us_il x) cap), .inl a2))] := hD.sub [1] (by decide) rfl
  have hFc := ub_freeP hD hS hA hpm
  refine us_calli (va_runS (As := [.int x, .int (nI (n + us_il x)), .ref v2]) (rest := []) ⟨hx, hb, hml, hown, hts⟩ (uj_getChars l g (v := v2) (cap := sb_cap (n + us_il x) cap) (n := n) (a := a2) hw hx0 (by omega) (by omega) hf2 eil) (va_cwS 3 hts gu_RJ5_248 rfl rfl rfl us_hJ6_getChars_ba4f3 ⟨Nat.le_of_ble_eq_true rfl, Nat.le_of_ble_eq_true rfl⟩) (us_preS hZ hS hFc hPc hDc hK hN) rfl rfl hl.1 rfl (lv_room (Nat.le_of_ble_eq_true rfl)) dJ5_append_c97b9_30 ⟨Nat.le_refl _, Nat.le_refl _⟩) hP hD hS hA hpm (fun r u H locs hpost hP hD hS => ?_)
  obtain ⟨rfl, a3, rfl, g1, g2, g3⟩ := hpost
  have hP : va_P g.1 vwCl [(v2, .inl (g.2.2.2.1, (sb_cap (n + us_il x) cap), .inl a3)), (b, .inr (1, [.ref v2, .int 0, .int ml, .int (nI n)]))] _ := hP
  have hD : va_D A [(v2, .inl (g.2.2.2.1, (sb_cap (n + us_il x) cap), .inl a3)), (b, .inr (1, [.ref v2, .int 0, .int ml, .int (nI n)]))] := hD
  refine lv_pop hx hb dJ5_append_c97b9_33 rfl ?_
  refine lv_goto (tgt := 48) hx hb dJ5_append_c97b9_34 (by decide) ?_
  refine lv_aload_n hx hb dJ5_append_c97b9_48 rfl (lv_at hl 2 rfl) ?_
  refine lv_iload_n hx hb dJ5_append_c97b9_49 rfl (lv_at hl 0 rfl) ?_
  refine ub_put (ws' := [(v2, .inl (g.2.2.2.1, (sb_cap (n + us_il x) cap), .inl a3)), (b, .inr (1, [.ref v2, .int 0, .int ml, .int (nI (n + us_il x))]))]) (ci := 1) (C := RJ4) (T := TJ4) (N := 4) hx hb hts us_inJ4 tyJ4 tyJ4_ok nmJ4 hown hK hP hD hS 1 3 (v := .int (nI (n + us_il x))) (ty := tyJ4 3) rfl rfl (by decide) (hts _ us_m838) (fun _ h9 => h9) rfl (tyJ4_ok 3 (by decide)) rfl rfl (Nat.le_of_ble_eq_true rfl) rfl dJ5_append_c97b9_50 (fun H locs hP hD hS => ?_)
  refine lv_aload_n hx hb dJ5_append_c97b9_53 rfl (lv_at hl 2 rfl) ?_
  exact hret b _ H locs _ ls ⟨rfl, v2, a3, rfl, fun j hj => (g1 j hj).trans (hk j (by omega)), g2, g3⟩ dJ5_append_c97b9_54 (ub_pickP hP [1, 0] rfl) (hD.sub [1, 0] (by decide) rfl) hS

theorem us_hJ4_append_bf812 : yJ4_append_bf812.cls ≠ "java/lang/invoke/MethodHandle" ∧ yJ4_append_bf812.cls ≠ "java/lang/invoke/VarHandle" ∧ (parseMethodDescriptor yJ4_append_bf812.desc).map (fun d => d.parameters.length) = some 1 := by decide +kernel
set_option maxHeartbeats 4000000 in
set_option maxRecDepth 100000 in
theorem uj_appendI (l : Launch) (g : us_G) {sz : Nat} {b v : Nat} {ml : Int32} {n cap : Nat} {a : Nat → Int32} (hnm : n ≤ cap) (hm : cap ≤ 30000) (hf : sb_Fit a) {x : Int32} (hxm : ¬ x = -2147483648) : Met l yJ4_append_bf812 wsJ4_append_bf812 ({ frames := 5, cells := (us_mc (n + us_il x) cap), slots := (us_ms (n + us_il x) cap), locals := 114 } : Room) (va_Pc [.ref b, .int x] (us_pc g [(b, .inr (1, [.ref v, .int 0, .int ml, .int (nI n)])), (v, .inl (g.2.2.2.1, cap, .inl a))] sz)) (va_Qr (fun (_ : va_W) => True) (fun u r t => (fun (r : Nat) (u : va_W) => r = b ∧ ∃ (v2 : Nat) (a2 : Nat → Int32), u = [(b, .inr (1, [.ref v2, .int 0, .int ml, .int (nI (n + us_il x))])), (v2, .inl (g.2.2.2.1, sb_cap (n + us_il x) cap, .inl a2))] ∧ (∀ j, j < n → a2 j = a j) ∧ (∀ i, i < us_il x → a2 (n + i) = sb_b (us_it x i)) ∧ sb_Fit a2) r u ∧ ub_pq g.1 u (va_A [(b, .inr (1, [.ref v, .int 0, .int ml, .int (nI n)])), (v, .inl (g.2.2.2.1, cap, .inl a))] sz) t) (va_A [(b, .inr (1, [.ref v, .int 0, .int ml, .int (nI n)])), (v, .inl (g.2.2.2.1, cap, .inl a))] sz)) (us_mc (n + us_il x) cap) (us_ms (n + us_il x) cap) (va_A [(b, .inr (1, [.ref v, .int 0, .int ml, .int (nI n)])), (v, .inl (g.2.2.2.1, cap, .inl a))] sz) := by
  refine us_met_r (post := (fun (r : Nat) (u : va_W) => r = b ∧ ∃ (v2 : Nat) (a2 : Nat → Int32), u = [(b, .inr (1, [.ref v2, .int 0, .int ml, .int (nI (n + us_il x))])), (v2, .inl (g.2.2.2.1, sb_cap (n + us_il x) cap, .inl a2))] ∧ (∀ j, j < n → a2 j = a j) ∧ (∀ i, i < us_il x → a2 (n + i) = sb_b (us_it x i)) ∧ sb_Fit a2)) (Or.inl ⟨_, rfl⟩) (by decide +kernel) (Nat.le_of_ble_eq_true rfl) fun p e s m args below meth c Q A K hret ls hl hP hD hS => ?_
  obtain ⟨hx, hb, hml, hown, hts, hK, hN, hA, hZ⟩ := K
  have hl : lv_has ls 2 [(0, .ref b), (1, .int x)] := hl
  refine lv_aload_n hx hb dJ4_append_bf812_0 rfl (lv_at hl 0 rfl) ?_
  refine lv_iload_n hx hb dJ4_append_bf812_1 rfl (lv_at hl 1 rfl) ?_
  have hpm : ([(b, .inr (1, [.ref v, .int 0, .int ml, .int (nI n)])), (v, .inl (g.2.2.2.1, cap, .inl a))] : va_W).Perm ([(b, .inr (1, [.ref v, .int 0, .int ml, .int (nI n)])), (v, .inl (g.2.2.2.1, cap, .inl a))] ++ []) := ub_permN 2 rfl [0, 1] (by decide) rfl
  have hPc : va_P g.1 vwCl [(b, .inr (1, [.ref v, .int 0, .int ml, .int (nI n)])), (v, .inl (g.2.2.2.1, cap, .inl a))] _ := ub_pickP hP [0, 1] rfl
  have hDc : va_D A [(b, .inr (1, [.ref v, .int 0, .int ml, .int (nI n)])), (v, .inl (g.2.2.2.1, cap, .inl a))] := hD.sub [0, 1] (by decide) rfl
  have hFc := ub_freeP hD hS hA hpm
  refine us_callr (va_runSU (As := [.int x]) (rest := []) (hK.1 1 _ rfl).2 ⟨hx, hb, hml, hown, hts⟩ (uj_appendI5 l g hnm hm hf hxm) (va_cwSU 1 hts gu_RJ4_53 rfl rfl rfl ⟨by decide +kernel, us_hJ5_append_c97b9.2.2⟩ ⟨Nat.le_of_ble_eq_true rfl, Nat.le_of_ble_eq_true rfl⟩) (us_preV hZ hS hFc hPc hDc hK hN 0 (ci := 1) rfl rfl rfl) rfl rfl hl.1 rfl (lv_room (Nat.le_of_ble_eq_true rfl)) dJ4_append_bf812_2 ⟨by show 0 + (us_mc (n + us_il x) cap) ≤ (us_mc (n + us_il x) cap); omega, by show 0 + (us_ms (n + us_il x) cap) ≤ (us_ms (n + us_il x) cap); omega⟩) hP hD hS hA hpm (fun r u H locs hpost hP hD hS => ?_)
  refine lv_pop hx hb dJ4_append_bf812_5 rfl ?_
  refine lv_aload_n hx hb dJ4_append_bf812_6 rfl (lv_at hl 0 rfl) ?_
  refine W.widen (k := (us_mc (n + us_il x) cap)) (n := (us_ms (n + us_il x) cap)) (by omega) (by omega) ?_
  have hP : va_P g.1 vwCl u H := by
      have h9 := hP
      rw [List.append_nil] at h9
      exact h9
  have hD : va_D A u := by
      have h9 := hD
      rw [List.append_nil] at h9
      exact h9
  exact hret b u H locs _ ls ⟨rfl, hpost.2⟩ dJ4_append_bf812_7 hP hD hS

theorem us_len_in : ∀ i : Nat, i < 14 → us_len.getD i 0 ≤ 6 ∧ (us_byt.getD i []).length = us_len.getD i 0 := by decide
theorem us_hJ0_coder_7d493 : yJ0_coder_7d493.cls ≠ "java/lang/invoke/MethodHandle" ∧ yJ0_coder_7d493.cls ≠ "java/lang/invoke/VarHandle" ∧ (parseMethodDescriptor yJ0_coder_7d493.desc).map (fun d => d.parameters.length) = some 0 := by decide +kernel
set_option maxHeartbeats 4000000 in
set_option maxRecDepth 100000 in
theorem uj_coderS (l : Launch) (g : us_G) {sz : Nat} {r0 v0 : Nat} {hs hz : Int32} {n0 : Nat} {a0 : Nat → Int32} : Met l yJ0_coder_7d493 wsJ0_coder_7d493 ({ frames := 0, cells := 0, slots := 0, locals := 0 } : Room) (va_Pc [.ref r0] (us_pc g [(r0, .inr (0, [.ref v0, .int 0, .int hs, .int hz]))] sz)) (va_Qi (fun (r : Int32) (u : va_W) => r = 0 ∧ u = [(r0, .inr (0, [.ref v0, .int 0, .int hs, .int hz]))]) (fun u t => ub_pq g.1 u (va_A [(r0, .inr (0, [.ref v0, .int 0, .int hs, .int hz]))] sz) t) (va_A [(r0, .inr (0, [.ref v0, .int 0, .int hs, .int hz]))] sz)) 0 0 (va_A [(r0, .inr (0, [.ref v0, .int 0, .int hs, .int hz]))] sz) := by
  refine us_met_i (post := (fun (r : Int32) (u : va_W) => r = 0 ∧ u = [(r0, .inr (0, [.ref v0, .int 0, .int hs, .int hz]))])) (by decide +kernel) (Nat.le_of_ble_eq_true rfl) fun p e s m args below meth c Q A K hret ls hl hP hD hS => ?_
  obtain ⟨hx, hb, hml, hown, hts, hK, hN, hA, hZ⟩ := K
  have hl : lv_has ls 1 [(0, .ref r0)] := hl
  refine va_gets hx hb hZ.2.1 hS hown (hts _ us_m590) (fun _ h9 => h9) dJ0_coder_7d493_0 ?_
  refine lv_if_eq (tgt := 13) hx hb dJ0_coder_7d493_3 (by decide) (fun cc => absurd cc (by decide)) (fun _ => ?_)
  refine lv_aload_n hx hb dJ0_coder_7d493_6 rfl (lv_at hl 0 rfl) ?_
  refine va_get (ci := 0) (v := .int 0) (C := RJ0) (T := TJ0) (N := 4) hx hb hts us_inJ0 hown hK hP 0 rfl rfl 1 (by decide) (hts _ us_m1024) (fun _ h9 => h9) rfl dJ0_coder_7d493_7 ?_
  refine lv_goto (tgt := 14) hx hb dJ0_coder_7d493_10 (by decide) ?_
  exact hret _ _ _ _ _ ls ⟨rfl, rfl⟩ dJ0_coder_7d493_14 rfl hP hD hS

set_option maxHeartbeats 4000000 in
set_option maxRecDepth 100000 in
theorem uj_coderK (l : Launch) (g : us_G) {sz : Nat} {i0 : Nat} (hi0 : i0 < 14) : Met l yJ0_coder_7d493 wsJ0_coder_7d493 ({ frames := 0, cells := 0, slots := 0, locals := 0 } : Room) (va_Pc [.ref (g.2.2.2.2.1 i0)] (us_pc g [] sz)) (va_Qi (fun (r : Int32) (u : va_W) => r = 0 ∧ u = ([] : va_W)) (fun u t => ub_pq g.1 u (va_A [] sz) t) (va_A [] sz)) 0 0 (va_A [] sz) := by
  refine us_met_i (post := (fun (r : Int32) (u : va_W) => r = 0 ∧ u = ([] : va_W))) (by decide +kernel) (Nat.le_of_ble_eq_true rfl) fun p e s m args below meth c Q A K hret ls hl hP hD hS => ?_
  obtain ⟨hx, hb, hml, hown, hts, hK, hN, hA, hZ⟩ := K
  have hl : lv_has ls 1 [(0, .ref (g.2.2.2.2.1 i0))] := hl
  refine va_gets hx hb hZ.2.1 hS hown (hts _ us_m590) (fun _ h9 => h9) dJ0_coder_7d493_0 ?_
  refine lv_if_eq (tgt := 13) hx hb dJ0_coder_7d493_3 (by decide) (fun cc => absurd cc (by decide)) (fun _ => ?_)
  refine lv_aload_n hx hb dJ0_coder_7d493_6 rfl (lv_at hl 0 rfl) ?_
  refine vk_getf hx hb (hZ.1.1 i0 hi0).2.1 hS hown (hts _ us_m1024) (fun _ h9 => h9) dJ0_coder_7d493_7 ?_
  refine lv_goto (tgt := 14) hx hb dJ0_coder_7d493_10 (by decide) ?_
  exact hret _ _ _ _ _ ls ⟨rfl, rfl⟩ dJ0_coder_7d493_14 rfl hP hD hS

theorem us_hJ0_length_8abf5 : yJ0_length_8abf5.cls ≠ "java/lang/invoke/MethodHandle" ∧ yJ0_length_8abf5.cls ≠ "java/lang/invoke/VarHandle" ∧ (parseMethodDescriptor yJ0_length_8abf5.desc).map (fun d => d.parameters.length) = some 0 := by decide +kernel
set_option maxHeartbeats 4000000 in
set_option maxRecDepth 100000 in
theorem uj_lengthS (l : Launch) (g : us_G) {sz : Nat} {r0 v0 : Nat} {hs hz : Int32} {n0 : Nat} {a0 : Nat → Int32} (hn0 : n0 < 2 ^ 31) : Met l yJ0_length_8abf5 wsJ0_length_8abf5 ({ frames := 1, cells := 0, slots := 0, locals := 20 } : Room) (va_Pc [.ref r0] (us_pc g [(r0, .inr (0, [.ref v0, .int 0, .int hs, .int hz])), (v0, .inl (g.2.2.2.1, n0, .inl a0))] sz)) (va_Qi (fun (r : Int32) (u : va_W) => r = nI n0 ∧ u = [(r0, .inr (0, [.ref v0, .int 0, .int hs, .int hz])), (v0, .inl (g.2.2.2.1, n0, .inl a0))]) (fun u t => ub_pq g.1 u (va_A [(r0, .inr (0, [.ref v0, .int 0, .int hs, .int hz])), (v0, .inl (g.2.2.2.1, n0, .inl a0))] sz) t) (va_A [(r0, .inr (0, [.ref v0, .int 0, .int hs, .int hz])), (v0, .inl (g.2.2.2.1, n0, .inl a0))] sz)) 0 0 (va_A [(r0, .inr (0, [.ref v0, .int 0, .int hs, .int hz])), (v0, .inl (g.2.2.2.1, n0, .inl a0))] sz) := by
  refine us_met_i (post := (fun (r : Int32) (u : va_W) => r = nI n0 ∧ u = [(r0, .inr (0, [.ref v0, .int 0, .int hs, .int hz])), (v0, .inl (g.2.2.2.1, n0, .inl a0))])) (by decide +kernel) (Nat.le_of_ble_eq_true rfl) fun p e s m args below meth c Q A K hret ls hl hP hD hS => ?_
  obtain ⟨hx, hb, hml, hown, hts, hK, hN, hA, hZ⟩ := K
  have hl : lv_has ls 1 [(0, .ref r0)] := hl
  refine lv_aload_n hx hb dJ0_length_8abf5_0 rfl (lv_at hl 0 rfl) ?_
  refine va_get (ci := 0) (v := .ref v0) (C := RJ0) (T := TJ0) (N := 4) hx hb hts us_inJ0 hown hK hP 0 rfl rfl 0 (by decide) (hts _ us_m1023) (fun _ h9 => h9) rfl dJ0_length_8abf5_1 ?_
  refine va_alen (v := Int32.ofNat n0) hx hb hK hP 1 2 rfl rfl rfl dJ0_length_8abf5_4 ?_
  refine us_topi (x := nI n0) rfl ?_
  refine lv_aload_n hx hb dJ0_length_8abf5_5 rfl (lv_at hl 0 rfl) ?_
  have hpm : ([(r0, .inr (0, [.ref v0, .int 0, .int hs, .int hz])), (v0, .inl (g.2.2.2.1, n0, .inl a0))] : va_W).Perm ([(r0, .inr (0, [.ref v0, .int 0, .int hs, .int hz]))] ++ [(v0, .inl (g.2.2.2.1, n0, .inl a0))]) := ub_permN 2 rfl [0, 1] (by decide) rfl
  have hPc : va_P g.1 vwCl [(r0, .inr (0, [.ref v0, .int 0, .int hs, .int hz]))] _ := ub_pickP hP [0] rfl
  have hDc : va_D A [(r0, .inr (0, [.ref v0, .int 0, .int hs, .int hz]))] := hD.sub [0] (by decide) rfl
  have hFc := ub_freeP hD hS hA hpm
  refine us_calli (va_runV (As := []) (rest := [.int (nI n0)]) ⟨hx, hb, hml, hown, hts⟩ (uj_coderS l g (n0 := n0) (a0 := a0)) (cwV 0 hts gu_RJ0_335 rfl rfl rfl ⟨rfl, us_hJ0_coder_7d493⟩ ⟨Nat.le_of_ble_eq_true rfl, Nat.le_of_ble_eq_true rfl⟩) (us_preV hZ hS hFc hPc hDc hK hN 0 (ci := 0) rfl rfl rfl) rfl rfl hl.1 rfl (lv_room (Nat.le_of_ble_eq_true rfl)) dJ0_length_8abf5_6 ⟨Nat.le_of_ble_eq_true rfl, Nat.le_of_ble_eq_true rfl⟩) hP hD hS hA hpm (fun r u H locs hpost hP hD hS => ?_)
  obtain ⟨rfl, rfl⟩ := hpost
  have hP : va_P g.1 vwCl [(r0, .inr (0, [.ref v0, .int 0, .int hs, .int hz])), (v0, .inl (g.2.2.2.1, n0, .inl a0))] _ := hP
  have hD : va_D A [(r0, .inr (0, [.ref v0, .int 0, .int hs, .int hz])), (v0, .inl (g.2.2.2.1, n0, .inl a0))] := hD
  refine lv_ishr hx hb dJ0_length_8abf5_9 ?_
  refine us_topi (sb_shr0 (nI n0)) ?_
  exact hret _ _ _ _ _ ls ⟨rfl, rfl⟩ dJ0_length_8abf5_10 rfl hP hD hS

set_option maxHeartbeats 4000000 in
set_option maxRecDepth 100000 in
theorem uj_lengthK (l : Launch) (g : us_G) {sz : Nat} {i0 : Nat} (hi0 : i0 < 14) : Met l yJ0_length_8abf5 wsJ0_length_8abf5 ({ frames := 1, cells := 0, slots := 0, locals := 20 } : Room) (va_Pc [.ref (g.2.2.2.2.1 i0)] (us_pc g [] sz)) (va_Qi (fun (r : Int32) (u : va_W) => r = nI (us_len.getD i0 0) ∧ u = ([] : va_W)) (fun u t => ub_pq g.1 u (va_A [] sz) t) (va_A [] sz)) 0 0 (va_A [] sz) := by
  refine us_met_i (post := (fun (r : Int32) (u : va_W) => r = nI (us_len.getD i0 0) ∧ u = ([] : va_W))) (by decide +kernel) (Nat.le_of_ble_eq_true rfl) fun p e s m args below meth c Q A K hret ls hl hP hD hS => ?_
  obtain ⟨hx, hb, hml, hown, hts, hK, hN, hA, hZ⟩ := K
  have hl : lv_has ls 1 [(0, .ref (g.2.2.2.2.1 i0))] := hl
  refine lv_aload_n hx hb dJ0_length_8abf5_0 rfl (lv_at hl 0 rfl) ?_
  refine vk_getf hx hb (hZ.1.1 i0 hi0).2.2.1 hS hown (hts _ us_m1023) (fun _ h9 => h9) dJ0_length_8abf5_1 ?_
  refine va_tlen hx hb (hZ.1.1 i0 hi0).2.2.2 hS (v := nI (us_len.getD i0 0)) rfl dJ0_length_8abf5_4 ?_
  refine lv_aload_n hx hb dJ0_length_8abf5_5 rfl (lv_at hl 0 rfl) ?_
  have hpm : ([] : va_W).Perm ([] ++ []) := ub_permN 0 rfl [] (by decide) rfl
  have hPc : va_P g.1 vwCl [] _ := ub_pickP hP [] rfl
  have hDc : va_D A [] := hD.sub [] (by decide) rfl
  have hFc := ub_freeP hD hS hA hpm
  refine us_calli (va_runV (As := []) (rest := [.int (nI (us_len.getD i0 0))]) ⟨hx, hb, hml, hown, hts⟩ (uj_coderK l g hi0) (cwV 0 hts gu_RJ0_335 rfl rfl rfl ⟨rfl, us_hJ0_coder_7d493⟩ ⟨Nat.le_of_ble_eq_true rfl, Nat.le_of_ble_eq_true rfl⟩) (us_preVk hi0 hZ hS hFc hPc hDc hK hN) rfl rfl hl.1 rfl (lv_room (Nat.le_of_ble_eq_true rfl)) dJ0_length_8abf5_6 ⟨Nat.le_of_ble_eq_true rfl, Nat.le_of_ble_eq_true rfl⟩) hP hD hS hA hpm (fun r u H locs hpost hP hD hS => ?_)
  obtain ⟨rfl, rfl⟩ := hpost
  have hP : va_P g.1 vwCl [] _ := hP
  have hD : va_D A [] := hD
  refine lv_ishr hx hb dJ0_length_8abf5_9 ?_
  refine us_topi (sb_shr0 (nI (us_len.getD i0 0))) ?_
  exact hret _ _ _ _ _ ls ⟨rfl, rfl⟩ dJ0_length_8abf5_10 rfl hP hD hS

theorem us_hJ5_inflateIfNeededFor_a7421 : yJ5_inflateIfNeededFor_a7421.cls ≠ "java/lang/invoke/MethodHandle" ∧ yJ5_inflateIfNeededFor_a7421.cls ≠ "java/lang/invoke/VarHandle" ∧ (parseMethodDescriptor yJ5_inflateIfNeededFor_a7421.desc).map (fun d => d.parameters.length) = some 1 := by decide +kernel
set_option maxHeartbeats 4000000 in
set_option maxRecDepth 100000 in
theorem uj_inflS (l : Launch) (g : us_G) {sz : Nat} {b v : Nat} {ml cn : Int32} {r0 v0 : Nat} {hs hz : Int32} {n0 : Nat} {a0 : Nat → Int32} : Met l yJ5_inflateIfNeededFor_a7421 wsJ5_inflateIfNeededFor_a7421 ({ frames := 1, cells := 0, slots := 0, locals := 20 } : Room) (va_Pc [.ref b, .ref r0] (us_pc g [(b, .inr (1, [.ref v, .int 0, .int ml, .int cn])), (r0, .inr (0, [.ref v0, .int 0, .int hs, .int hz]))] sz)) (va_Qv (fun (u : va_W) => u = [(b, .inr (1, [.ref v, .int 0, .int ml, .int cn])), (r0, .inr (0, [.ref v0, .int 0, .int hs, .int hz]))]) (fun u t => ub_pq g.1 u (va_A [(b, .inr (1, [.ref v, .int 0, .int ml, .int cn])), (r0, .inr (0, [.ref v0, .int 0, .int hs, .int hz]))] sz) t) (va_A [(b, .inr (1, [.ref v, .int 0, .int ml, .int cn])), (r0, .inr (0, [.ref v0, .int 0, .int hs, .int hz]))] sz)) 0 0 (va_A [(b, .inr (1, [.ref v, .int 0, .int ml, .int cn])), (r0, .inr (0, [.ref v0, .int 0, .int hs, .int hz]))] sz) := by
  refine us_met_v (post := (fun (u : va_W) => u = [(b, .inr (1, [.ref v, .int 0, .int ml, .int cn])), (r0, .inr (0, [.ref v0, .int 0, .int hs, .int hz]))])) (by decide +kernel) (Nat.le_of_ble_eq_true rfl) fun p e s m args below meth c Q A K hin hret ls hl hP hD hS => ?_
  obtain ⟨hx, hb, hml, hown, hts, hK, hN, hA, hZ⟩ := K
  have hl : lv_has ls 2 [(0, .ref b), (1, .ref r0)] := hl
  refine va_gets hx hb hZ.2.1 hS hown (hts _ us_m827) (fun _ h9 => h9) dJ5_inflateIfNeededFor_a7421_0 ?_
  refine lv_if_eq (tgt := 21) hx hb dJ5_inflateIfNeededFor_a7421_3 (by decide) (fun cc => absurd cc (by decide)) (fun _ => ?_)
  refine lv_aload_n hx hb dJ5_inflateIfNeededFor_a7421_6 rfl (lv_at hl 0 rfl) ?_
  refine va_get (ci := 1) (v := .int 0) (C := RJ4) (T := TJ4) (N := 4) hx hb hts us_inJ4 hown hK hP 0 rfl rfl 1 (by decide) (hts _ us_m836) (fun _ h9 => h9) rfl dJ5_inflateIfNeededFor_a7421_7 ?_
  refine lv_aload_n hx hb dJ5_inflateIfNeededFor_a7421_10 rfl (lv_at hl 1 rfl) ?_
  have hpm : ([(b, .inr (1, [.ref v, .int 0, .int ml, .int cn])), (r0, .inr (0, [.ref v0, .int 0, .int hs, .int hz]))] : va_W).Perm ([(r0, .inr (0, [.ref v0, .int 0, .int hs, .int hz]))] ++ [(b, .inr (1, [.ref v, .int 0, .int ml, .int cn]))]) := ub_permN 2 rfl [1, 0] (by decide) rfl
  have hPc : va_P g.1 vwCl [(r0, .inr (0, [.ref v0, .int 0, .int hs, .int hz]))] _ := ub_pickP hP [1] rfl
  have hDc : va_D A [(r0, .inr (0, [.ref v0, .int 0, .int hs, .int hz]))] := hD.sub [1] (by decide) rfl
  have hFc := ub_freeP hD hS hA hpm
  refine us_calli (va_runV (As := []) (rest := [.int 0]) ⟨hx, hb, hml, hown, hts⟩ (uj_coderS l g (n0 := n0) (a0 := a0)) (cwV 0 hts gu_RJ5_40 rfl rfl rfl ⟨rfl, us_hJ0_coder_7d493⟩ ⟨Nat.le_of_ble_eq_true rfl, Nat.le_of_ble_eq_true rfl⟩) (us_preV hZ hS hFc hPc hDc hK hN 0 (ci := 0) rfl rfl rfl) rfl rfl hl.1 rfl (lv_room (Nat.le_of_ble_eq_true rfl)) dJ5_inflateIfNeededFor_a7421_11 ⟨Nat.le_of_ble_eq_true rfl, Nat.le_of_ble_eq_true rfl⟩) hP hD hS hA hpm (fun r u H locs hpost hP hD hS => ?_)
  obtain ⟨rfl, rfl⟩ := hpost
  have hP : va_P g.1 vwCl [(r0, .inr (0, [.ref v0, .int 0, .int hs, .int hz])), (b, .inr (1, [.ref v, .int 0, .int ml, .int cn]))] _ := hP
  have hD : va_D A [(r0, .inr (0, [.ref v0, .int 0, .int hs, .int hz])), (b, .inr (1, [.ref v, .int 0, .int ml, .int cn]))] := hD
  refine lv_icmp_eq (tgt := 21) hx hb dJ5_inflateIfNeededFor_a7421_14 (by decide) (fun _ => ?_) (fun cc => absurd rfl cc)
  exact hret _ H locs _ ls rfl dJ5_inflateIfNeededFor_a7421_21 (ub_pickP hP [1, 0] rfl) (hD.sub [1, 0] (by decide) rfl) hS

set_option maxHeartbeats 4000000 in
set_option maxRecDepth 100000 in
theorem uj_inflK (l : Launch) (g : us_G) {sz : Nat} {b v : Nat} {ml cn : Int32} {i0 : Nat} (hi0 : i0 < 14) : Met l yJ5_inflateIfNeededFor_a7421 wsJ5_inflateIfNeededFor_a7421 ({ frames := 1, cells := 0, slots := 0, locals := 20 } : Room) (va_Pc [.ref b, .ref (g.2.2.2.2.1 i0)] (us_pc g [(b, .inr (1, [.ref v, .int 0, .int ml, .int cn]))] sz)) (va_Qv (fun (u : va_W) => u = [(b, .inr (1, [.ref v, .int 0, .int ml, .int cn]))]) (fun u t => ub_pq g.1 u (va_A [(b, .inr (1, [.ref v, .int 0, .int ml, .int cn]))] sz) t) (va_A [(b, .inr (1, [.ref v, .int 0, .int ml, .int cn]))] sz)) 0 0 (va_A [(b, .inr (1, [.ref v, .int 0, .int ml, .int cn]))] sz) := by
  refine us_met_v (post := (fun (u : va_W) => u = [(b, .inr (1, [.ref v, .int 0, .int ml, .int cn]))])) (by decide +kernel) (Nat.le_of_ble_eq_true rfl) fun p e s m args below meth c Q A K hin hret ls hl hP hD hS => ?_
  obtain ⟨hx, hb, hml, hown, hts, hK, hN, hA, hZ⟩ := K
  have hl : lv_has ls 2 [(0, .ref b), (1, .ref (g.2.2.2.2.1 i0))] := hl
  refine va_gets hx hb hZ.2.1 hS hown (hts _ us_m827) (fun _ h9 => h9) dJ5_inflateIfNeededFor_a7421_0 ?_
  refine lv_if_eq (tgt := 21) hx hb dJ5_inflateIfNeededFor_a7421_3 (by decide) (fun cc => absurd cc (by decide)) (fun _ => ?_)
  refine lv_aload_n hx hb dJ5_inflateIfNeededFor_a7421_6 rfl (lv_at hl 0 rfl) ?_
  refine va_get (ci := 1) (v := .int 0) (C := RJ4) (T := TJ4) (N := 4) hx hb hts us_inJ4 hown hK hP 0 rfl rfl 1 (by decide) (hts _ us_m836) (fun _ h9 => h9) rfl dJ5_inflateIfNeededFor_a7421_7 ?_
  refine lv_aload_n hx hb dJ5_inflateIfNeededFor_a7421_10 rfl (lv_at hl 1 rfl) ?_
  have hpm : ([(b, .inr (1, [.ref v, .int 0, .int ml, .int cn]))] : va_W).Perm ([] ++ [(b, .inr (1, [.ref v, .int 0, .int ml, .int cn]))]) := ub_permN 1 rfl [0] (by decide) rfl
  have hPc : va_P g.1 vwCl [] _ := ub_pickP hP [] rfl
  have hDc : va_D A [] := hD.sub [] (by decide) rfl
  have hFc := ub_freeP hD hS hA hpm
  refine us_calli (va_runV (As := []) (rest := [.int 0]) ⟨hx, hb, hml, hown, hts⟩ (uj_coderK l g hi0) (cwV 0 hts gu_RJ5_40 rfl rfl rfl ⟨rfl, us_hJ0_coder_7d493⟩ ⟨Nat.le_of_ble_eq_true rfl, Nat.le_of_ble_eq_true rfl⟩) (us_preVk hi0 hZ hS hFc hPc hDc hK hN) rfl rfl hl.1 rfl (lv_room (Nat.le_of_ble_eq_true rfl)) dJ5_inflateIfNeededFor_a7421_11 ⟨Nat.le_of_ble_eq_true rfl, Nat.le_of_ble_eq_true rfl⟩) hP hD hS hA hpm (fun r u H locs hpost hP hD hS => ?_)
  obtain ⟨rfl, rfl⟩ := hpost
  have hP : va_P g.1 vwCl [(b, .inr (1, [.ref v, .int 0, .int ml, .int cn]))] _ := hP
  have hD : va_D A [(b, .inr (1, [.ref v, .int 0, .int ml, .int cn]))] := hD
  refine lv_icmp_eq (tgt := 21) hx hb dJ5_inflateIfNeededFor_a7421_14 (by decide) (fun _ => ?_) (fun cc => absurd rfl cc)
  exact hret _ H locs _ ls rfl dJ5_inflateIfNeededFor_a7421_21 (ub_pickP hP [0] rfl) (hD.sub [0] (by decide) rfl) hS

theorem us_hJ0_getBytes_840e7 : yJ0_getBytes_840e7.cls ≠ "java/lang/invoke/MethodHandle" ∧ yJ0_getBytes_840e7.cls ≠ "java/lang/invoke/VarHandle" ∧ (parseMethodDescriptor yJ0_getBytes_840e7.desc).map (fun d => d.parameters.length) = some 3 := by decide +kernel
set_option maxHeartbeats 4000000 in
set_option maxRecDepth 100000 in
theorem uj_getBytesS (l : Launch) (g : us_G) {sz : Nat} {v n cap : Nat} {a : Nat → Int32} {r0 v0 : Nat} {hs hz : Int32} {n0 : Nat} {a0 : Nat → Int32} (hf0 : sb_Fit a0) (hnm : n + n0 ≤ cap) (hm : cap ≤ 100000) : Met l yJ0_getBytes_840e7 wsJ0_getBytes_840e7 ({ frames := 1, cells := 0, slots := 0, locals := 26 } : Room) (va_Pc [.ref r0, .ref v, .int (nI n), .int 0] (us_pc g [(v, .inl (g.2.2.2.1, cap, .inl a)), (r0, .inr (0, [.ref v0, .int 0, .int hs, .int hz])), (v0, .inl (g.2.2.2.1, n0, .inl a0))] sz)) (va_Qv (fun (u : va_W) => u = [(v, .inl (g.2.2.2.1, cap, .inl (va_cpy a0 a 0 n n0))), (r0, .inr (0, [.ref v0, .int 0, .int hs, .int hz])), (v0, .inl (g.2.2.2.1, n0, .inl a0))]) (fun u t => ub_pq g.1 u (va_A [(v, .inl (g.2.2.2.1, cap, .inl a)), (r0, .inr (0, [.ref v0, .int 0, .int hs, .int hz])), (v0, .inl (g.2.2.2.1, n0, .inl a0))] sz) t) (va_A [(v, .inl (g.2.2.2.1, cap, .inl a)), (r0, .inr (0, [.ref v0, .int 0, .int hs, .int hz])), (v0, .inl (g.2.2.2.1, n0, .inl a0))] sz)) 0 0 (va_A [(v, .inl (g.2.2.2.1, cap, .inl a)), (r0, .inr (0, [.ref v0, .int 0, .int hs, .int hz])), (v0, .inl (g.2.2.2.1, n0, .inl a0))] sz) := by
  refine us_met_v (post := (fun (u : va_W) => u = [(v, .inl (g.2.2.2.1, cap, .inl (va_cpy a0 a 0 n n0))), (r0, .inr (0, [.ref v0, .int 0, .int hs, .int hz])), (v0, .inl (g.2.2.2.1, n0, .inl a0))])) (by decide +kernel) (Nat.le_of_ble_eq_true rfl) fun p e s m args below meth c Q A K hin hret ls hl hP hD hS => ?_
  obtain ⟨hx, hb, hml, hown, hts, hK, hN, hA, hZ⟩ := K
  have hl : lv_has ls 4 [(0, .ref r0), (1, .ref v), (2, .int (nI n)), (3, .int 0)] := hl
  refine lv_aload_n hx hb dJ0_getBytes_840e7_0 rfl (lv_at hl 0 rfl) ?_
  have hpm : ([(v, .inl (g.2.2.2.1, cap, .inl a)), (r0, .inr (0, [.ref v0, .int 0, .int hs, .int hz])), (v0, .inl (g.2.2.2.1, n0, .inl a0))] : va_W).Perm ([(r0, .inr (0, [.ref v0, .int 0, .int hs, .int hz]))] ++ [(v, .inl (g.2.2.2.1, cap, .inl a)), (v0, .inl (g.2.2.2.1, n0, .inl a0))]) := ub_permN 3 rfl [1, 0, 2] (by decide) rfl
  have hPc : va_P g.1 vwCl [(r0, .inr (0, [.ref v0, .int 0, .int hs, .int hz]))] _ := ub_pickP hP [1] rfl
  have hDc : va_D A [(r0, .inr (0, [.ref v0, .int 0, .int hs, .int hz]))] := hD.sub [1] (by decide) rfl
  have hFc := ub_freeP hD hS hA hpm
  refine us_calli (va_runV (As := []) (rest := []) ⟨hx, hb, hml, hown, hts⟩ (uj_coderS l g (n0 := n0) (a0 := a0)) (cwV 0 hts gu_RJ0_335 rfl rfl rfl ⟨rfl, us_hJ0_coder_7d493⟩ ⟨Nat.le_of_ble_eq_true rfl, Nat.le_of_ble_eq_true rfl⟩) (us_preV hZ hS hFc hPc hDc hK hN 0 (ci := 0) rfl rfl rfl) rfl rfl hl.1 rfl (lv_room (Nat.le_of_ble_eq_true rfl)) dJ0_getBytes_840e7_1 ⟨Nat.le_of_ble_eq_true rfl, Nat.le_of_ble_eq_true rfl⟩) hP hD hS hA hpm (fun r u H locs hpost hP hD hS => ?_)
  obtain ⟨rfl, rfl⟩ := hpost
  have hP : va_P g.1 vwCl [(r0, .inr (0, [.ref v0, .int 0, .int hs, .int hz])), (v, .inl (g.2.2.2.1, cap, .inl a)), (v0, .inl (g.2.2.2.1, n0, .inl a0))] _ := hP
  have hD : va_D A [(r0, .inr (0, [.ref v0, .int 0, .int hs, .int hz])), (v, .inl (g.2.2.2.1, cap, .inl a)), (v0, .inl (g.2.2.2.1, n0, .inl a0))] := hD
  refine lv_iload_n hx hb dJ0_getBytes_840e7_4 rfl (lv_at hl 3 rfl) ?_
  refine lv_icmp_ne (tgt := 28) hx hb dJ0_getBytes_840e7_5 (by decide) (fun cc => absurd rfl cc) (fun _ => ?_)
  refine lv_aload_n hx hb dJ0_getBytes_840e7_8 rfl (lv_at hl 0 rfl) ?_
  refine va_get (ci := 0) (v := .ref v0) (C := RJ0) (T := TJ0) (N := 4) hx hb hts us_inJ0 hown hK hP 0 rfl rfl 0 (by decide) (hts _ us_m1023) (fun _ h9 => h9) rfl dJ0_getBytes_840e7_9 ?_
  refine lv_iconst (v := 0) hx hb dJ0_getBytes_840e7_12 (by decide) ?_
  refine lv_aload_n hx hb dJ0_getBytes_840e7_13 rfl (lv_at hl 1 rfl) ?_
  refine lv_iload_n hx hb dJ0_getBytes_840e7_14 rfl (lv_at hl 2 rfl) ?_
  refine lv_iload_n hx hb dJ0_getBytes_840e7_15 rfl (lv_at hl 3 rfl) ?_
  refine lv_ishl hx hb dJ0_getBytes_840e7_16 ?_
  refine us_topi (sb_shl0 (nI n)) ?_
  refine lv_aload_n hx hb dJ0_getBytes_840e7_17 rfl (lv_at hl 0 rfl) ?_
  refine va_get (ci := 0) (v := .ref v0) (C := RJ0) (T := TJ0) (N := 4) hx hb hts us_inJ0 hown hK hP 0 rfl rfl 0 (by decide) (hts _ us_m1023) (fun _ h9 => h9) rfl dJ0_getBytes_840e7_18 ?_
  refine va_alen (v := Int32.ofNat n0) hx hb hK hP 2 2 rfl rfl rfl dJ0_getBytes_840e7_21 ?_
  refine us_topi (x := nI n0) rfl ?_
  refine va_copyi hx hb (hml.trans hl.1.symm) hown (hts _ us_m1062) (hts _ us_m352) (hts _ us_m351) (hts _ us_m50) hK hP hD hS 2 1 2 2 rfl rfl rfl rfl rfl (by decide) (nI_pos (by omega)) (nI_pos (by omega)) (by rw [sb_cl0, nI_clamp (by omega)]; omega) (by rw [nI_clamp (show n < 2 ^ 31 by omega), nI_clamp (by omega)]; omega) (fun _ _ => hf0 _) (Nat.le_of_ble_eq_true rfl) (Nat.le_of_ble_eq_true rfl) dJ0_getBytes_840e7_22 (fun H locs hP hD hS => ?_)
  rw [sb_cl0, nI_clamp (show n < 2 ^ 31 by omega), nI_clamp (show n0 < 2 ^ 31 by omega)] at hP hD
  have hP : va_P g.1 vwCl [(r0, .inr (0, [.ref v0, .int 0, .int hs, .int hz])), (v, .inl (g.2.2.2.1, cap, .inl (va_cpy a0 a 0 n n0))), (v0, .inl (g.2.2.2.1, n0, .inl a0))] _ := hP
  have hD : va_D A [(r0, .inr (0, [.ref v0, .int 0, .int hs, .int hz])), (v, .inl (g.2.2.2.1, cap, .inl (va_cpy a0 a 0 n n0))), (v0, .inl (g.2.2.2.1, n0, .inl a0))] := hD
  refine lv_goto (tgt := 43) hx hb dJ0_getBytes_840e7_25 (by decide) ?_
  exact hret _ H locs _ ls rfl dJ0_getBytes_840e7_43 (ub_pickP hP [1, 0, 2] rfl) (hD.sub [1, 0, 2] (by decide) rfl) hS

theorem us_byt_fit : ∀ i : Nat, i < 14 → ∀ k : Nat, fits .byte (.int ((us_byt.getD i []).getD k 0)) = true := by
  intro i hi k
  have h1 : ∀ i : Nat, i < 14 → ∀ k : Nat, k < 7 → fits .byte (.int ((us_byt.getD i []).getD k 0)) = true := by decide +kernel
  by_cases hk : k < 7
  · exact h1 i hi k hk
  · have h2 := us_len_in i hi
    rw [List.getD_eq_getElem?_getD, List.getElem?_eq_none (by omega)]
    decide
set_option maxHeartbeats 4000000 in
set_option maxRecDepth 100000 in
theorem uj_getBytesK (l : Launch) (g : us_G) {sz : Nat} {v n cap : Nat} {a : Nat → Int32} {i0 : Nat} (hi0 : i0 < 14) (hnm : n + us_len.getD i0 0 ≤ cap) (hm : cap ≤ 100000) : Met l yJ0_getBytes_840e7 wsJ0_getBytes_840e7 ({ frames := 1, cells := 0, slots := 0, locals := 26 } : Room) (va_Pc [.ref (g.2.2.2.2.1 i0), .ref v, .int (nI n), .int 0] (us_pc g [(v, .inl (g.2.2.2.1, cap, .inl a))] sz)) (va_Qv (fun (u : va_W) => u = [(v, .inl (g.2.2.2.1, cap, .inl (va_cpy (fun j => (us_byt.getD i0 []).getD j 0) a 0 n (us_len.getD i0 0))))]) (fun u t => ub_pq g.1 u (va_A [(v, .inl (g.2.2.2.1, cap, .inl a))] sz) t) (va_A [(v, .inl (g.2.2.2.1, cap, .inl a))] sz)) 0 0 (va_A [(v, .inl (g.2.2.2.1, cap, .inl a))] sz) := by
  refine us_met_v (post := (fun (u : va_W) => u = [(v, .inl (g.2.2.2.1, cap, .inl (va_cpy (fun j => (us_byt.getD i0 []).getD j 0) a 0 n (us_len.getD i0 0))))])) (by decide +kernel) (Nat.le_of_ble_eq_true rfl) fun p e s m args below meth c Q A K hin hret ls hl hP hD hS => ?_
  obtain ⟨hx, hb, hml, hown, hts, hK, hN, hA, hZ⟩ := K
  have hl : lv_has ls 4 [(0, .ref (g.2.2.2.2.1 i0)), (1, .ref v), (2, .int (nI n)), (3, .int 0)] := hl
  refine lv_aload_n hx hb dJ0_getBytes_840e7_0 rfl (lv_at hl 0 rfl) ?_
  have hpm : ([(v, .inl (g.2.2.2.1, cap, .inl a))] : va_W).Perm ([] ++ [(v, .inl (g.2.2.2.1, cap, .inl a))]) := ub_permN 1 rfl [0] (by decide) rfl
  have hPc : va_P g.1 vwCl [] _ := ub_pickP hP [] rfl
  have hDc : va_D A [] := hD.sub [] (by decide) rfl
  have hFc := ub_freeP hD hS hA hpm
  refine us_calli (va_runV (As := []) (rest := []) ⟨hx, hb, hml, hown, hts⟩ (uj_coderK l g hi0) (cwV 0 hts gu_RJ0_335 rfl rfl rfl ⟨rfl, us_hJ0_coder_7d493⟩ ⟨Nat.le_of_ble_eq_true rfl, Nat.le_of_ble_eq_true rfl⟩) (us_preVk hi0 hZ hS hFc hPc hDc hK hN) rfl rfl hl.1 rfl (lv_room (Nat.le_of_ble_eq_true rfl)) dJ0_getBytes_840e7_1 ⟨Nat.le_of_ble_eq_true rfl, Nat.le_of_ble_eq_true rfl⟩) hP hD hS hA hpm (fun r u H locs hpost hP hD hS => ?_)
  obtain ⟨rfl, rfl⟩ := hpost
  have hP : va_P g.1 vwCl [(v, .inl (g.2.2.2.1, cap, .inl a))] _ := hP
  have hD : va_D A [(v, .inl (g.2.2.2.1, cap, .inl a))] := hD
  refine lv_iload_n hx hb dJ0_getBytes_840e7_4 rfl (lv_at hl 3 rfl) ?_
  refine lv_icmp_ne (tgt := 28) hx hb dJ0_getBytes_840e7_5 (by decide) (fun cc => absurd rfl cc) (fun _ => ?_)
  refine lv_aload_n hx hb dJ0_getBytes_840e7_8 rfl (lv_at hl 0 rfl) ?_
  refine vk_getf hx hb (hZ.1.1 i0 hi0).2.2.1 hS hown (hts _ us_m1023) (fun _ h9 => h9) dJ0_getBytes_840e7_9 ?_
  refine lv_iconst (v := 0) hx hb dJ0_getBytes_840e7_12 (by decide) ?_
  refine lv_aload_n hx hb dJ0_getBytes_840e7_13 rfl (lv_at hl 1 rfl) ?_
  refine lv_iload_n hx hb dJ0_getBytes_840e7_14 rfl (lv_at hl 2 rfl) ?_
  refine lv_iload_n hx hb dJ0_getBytes_840e7_15 rfl (lv_at hl 3 rfl) ?_
  refine lv_ishl hx hb dJ0_getBytes_840e7_16 ?_
  refine us_topi (sb_shl0 (nI n)) ?_
  refine lv_aload_n hx hb dJ0_getBytes_840e7_17 rfl (lv_at hl 0 rfl) ?_
  refine vk_getf hx hb (hZ.1.1 i0 hi0).2.2.1 hS hown (hts _ us_m1023) (fun _ h9 => h9) dJ0_getBytes_840e7_18 ?_
  refine va_tlen hx hb (hZ.1.1 i0 hi0).2.2.2 hS (v := nI (us_len.getD i0 0)) rfl dJ0_getBytes_840e7_21 ?_
  have hlen := (us_len_in i0 hi0).1
  refine vk_copyt hx hb (hml.trans hl.1.symm) hown (hts _ us_m1062) (hts _ us_m352) (hts _ us_m351) (hts _ us_m50) hK hP hD hS (hZ.1.1 i0 hi0).2.2.2 0 2 rfl rfl (by decide) (nI_pos (by omega)) (nI_pos (by omega)) (by rw [sb_cl0, nI_clamp (by omega)]; omega) (by rw [nI_clamp (show n < 2 ^ 31 by omega), nI_clamp (by omega)]; omega) (fun k _ => us_byt_fit i0 hi0 _) (Nat.le_of_ble_eq_true rfl) (Nat.le_of_ble_eq_true rfl) dJ0_getBytes_840e7_22 (fun H locs hP hD hS => ?_)
  rw [sb_cl0, nI_clamp (show n < 2 ^ 31 by omega), nI_clamp (show us_len.getD i0 0 < 2 ^ 31 by omega)] at hP hD
  have hP : va_P g.1 vwCl [(v, .inl (g.2.2.2.1, cap, .inl (va_cpy (fun j => (us_byt.getD i0 []).getD j 0) a 0 n (us_len.getD i0 0))))] _ := hP
  have hD : va_D A [(v, .inl (g.2.2.2.1, cap, .inl (va_cpy (fun j => (us_byt.getD i0 []).getD j 0) a 0 n (us_len.getD i0 0))))] := hD
  refine lv_goto (tgt := 43) hx hb dJ0_getBytes_840e7_25 (by decide) ?_
  exact hret _ H locs _ ls rfl dJ0_getBytes_840e7_43 (ub_pickP hP [0] rfl) (hD.sub [0] (by decide) rfl) hS

theorem us_hJ5_putStringAt_47b60 : yJ5_putStringAt_47b60.cls ≠ "java/lang/invoke/MethodHandle" ∧ yJ5_putStringAt_47b60.cls ≠ "java/lang/invoke/VarHandle" ∧ (parseMethodDescriptor yJ5_putStringAt_47b60.desc).map (fun d => d.parameters.length) = some 2 := by decide +kernel
set_option maxHeartbeats 4000000 in
set_option maxRecDepth 100000 in
theorem uj_putSS (l : Launch) (g : us_G) {sz : Nat} {b v : Nat} {ml cn : Int32} {n cap : Nat} {a : Nat → Int32} {r0 v0 : Nat} {hs hz : Int32} {n0 : Nat} {a0 : Nat → Int32} (hf0 : sb_Fit a0) (hnm : n + n0 ≤ cap) (hm : cap ≤ 100000) : Met l yJ5_putStringAt_47b60 wsJ5_putStringAt_47b60 ({ frames := 2, cells := 0, slots := 0, locals := 49 } : Room) (va_Pc [.ref b, .int (nI n), .ref r0] (us_pc g [(b, .inr (1, [.ref v, .int 0, .int ml, .int cn])), (v, .inl (g.2.2.2.1, cap, .inl a)), (r0, .inr (0, [.ref v0, .int 0, .int hs, .int hz])), (v0, .inl (g.2.2.2.1, n0, .inl a0))] sz)) (va_Qv (fun (u : va_W) => u = [(b, .inr (1, [.ref v, .int 0, .int ml, .int cn])), (v, .inl (g.2.2.2.1, cap, .inl (va_cpy a0 a 0 n n0))), (r0, .inr (0, [.ref v0, .int 0, .int hs, .int hz])), (v0, .inl (g.2.2.2.1, n0, .inl a0))]) (fun u t => ub_pq g.1 u (va_A [(b, .inr (1, [.ref v, .int 0, .int ml, .int cn])), (v, .inl (g.2.2.2.1, cap, .inl a)), (r0, .inr (0, [.ref v0, .int 0, .int hs, .int hz])), (v0, .inl (g.2.2.2.1, n0, .inl a0))] sz) t) (va_A [(b, .inr (1, [.ref v, .int 0, .int ml, .int cn])), (v, .inl (g.2.2.2.1, cap, .inl a)), (r0, .inr (0, [.ref v0, .int 0, .int hs, .int hz])), (v0, .inl (g.2.2.2.1, n0, .inl a0))] sz)) 0 0 (va_A [(b, .inr (1, [.ref v, .int 0, .int ml, .int cn])), (v, .inl (g.2.2.2.1, cap, .inl a)), (r0, .inr (0, [.ref v0, .int 0, .int hs, .int hz])), (v0, .inl (g.2.2.2.1, n0, .inl a0))] sz) := by
  refine us_met_v (post := (fun (u : va_W) => u = [(b, .inr (1, [.ref v, .int 0, .int ml, .int cn])), (v, .inl (g.2.2.2.1, cap, .inl (va_cpy a0 a 0 n n0))), (r0, .inr (0, [.ref v0, .int 0, .int hs, .int hz])), (v0, .inl (g.2.2.2.1, n0, .inl a0))])) (by decide +kernel) (Nat.le_of_ble_eq_true rfl) fun p e s m args below meth c Q A K hin hret ls hl hP hD hS => ?_
  obtain ⟨hx, hb, hml, hown, hts, hK, hN, hA, hZ⟩ := K
  have hl : lv_has ls 3 [(0, .ref b), (1, .int (nI n)), (2, .ref r0)] := hl
  refine lv_aload_n hx hb dJ5_putStringAt_47b60_0 rfl (lv_at hl 0 rfl) ?_
  refine lv_aload_n hx hb dJ5_putStringAt_47b60_1 rfl (lv_at hl 2 rfl) ?_
  have hpm : ([(b, .inr (1, [.ref v, .int 0, .int ml, .int cn])), (v, .inl (g.2.2.2.1, cap, .inl a)), (r0, .inr (0, [.ref v0, .int 0, .int hs, .int hz])), (v0, .inl (g.2.2.2.1, n0, .inl a0))] : va_W).Perm ([(b, .inr (1, [.ref v, .int 0, .int ml, .int cn])), (r0, .inr (0, [.ref v0, .int 0, .int hs, .int hz]))] ++ [(v, .inl (g.2.2.2.1, cap, .inl a)), (v0, .inl (g.2.2.2.1, n0, .inl a0))]) := ub_permN 4 rfl [0, 2, 1, 3] (by decide) rfl
  have hPc : va_P g.1 vwCl [(b, .inr (1, [.ref v, .int 0, .int ml, .int cn])), (r0, .inr (0, [.ref v0, .int 0, .int hs, .int hz]))] _ := ub_pickP hP [0, 2] rfl
  have hDc : va_D A [(b, .inr (1, [.ref v, .int 0, .int ml, .int cn])), (r0, .inr (0, [.ref v0, .int 0, .int hs, .int hz]))] := hD.sub [0, 2] (by decide) rfl
  have hFc := ub_freeP hD hS hA hpm
  refine us_callv (va_runU (As := [.ref r0]) (rest := []) ⟨hx, hb, hml, hown, hts⟩ (uj_inflS l g (n0 := n0) (a0 := a0)) (va_cwU 1 hts gu_RJ5_397 rfl rfl rfl rfl us_hJ5_inflateIfNeededFor_a7421 ⟨Nat.le_of_ble_eq_true rfl, Nat.le_of_ble_eq_true rfl⟩) (us_preV hZ hS hFc hPc hDc hK hN 0 (ci := 1) rfl rfl rfl) rfl rfl hl.1 rfl (lv_room (Nat.le_of_ble_eq_true rfl)) dJ5_putStringAt_47b60_2 ⟨Nat.le_of_ble_eq_true rfl, Nat.le_of_ble_eq_true rfl⟩) hP hD hS hA hpm (fun u H locs hpost hP hD hS => ?_)
  obtain rfl := hpost
  have hP : va_P g.1 vwCl [(b, .inr (1, [.ref v, .int 0, .int ml, .int cn])), (r0, .inr (0, [.ref v0, .int 0, .int hs, .int hz])), (v, .inl (g.2.2.2.1, cap, .inl a)), (v0, .inl (g.2.2.2.1, n0, .inl a0))] _ := hP
  have hD : va_D A [(b, .inr (1, [.ref v, .int 0, .int ml, .int cn])), (r0, .inr (0, [.ref v0, .int 0, .int hs, .int hz])), (v, .inl (g.2.2.2.1, cap, .inl a)), (v0, .inl (g.2.2.2.1, n0, .inl a0))] := hD
  refine lv_aload_n hx hb dJ5_putStringAt_47b60_5 rfl (lv_at hl 2 rfl) ?_
  refine lv_aload_n hx hb dJ5_putStringAt_47b60_6 rfl (lv_at hl 0 rfl) ?_
  refine va_get (ci := 1) (v := .ref v) (C := RJ4) (T := TJ4) (N := 4) hx hb hts us_inJ4 hown hK hP 0 rfl rfl 0 (by decide) (hts _ us_m835) (fun _ h9 => h9) rfl dJ5_putStringAt_47b60_7 ?_
  refine lv_iload_n hx hb dJ5_putStringAt_47b60_10 rfl (lv_at hl 1 rfl) ?_
  refine lv_aload_n hx hb dJ5_putStringAt_47b60_11 rfl (lv_at hl 0 rfl) ?_
  refine va_get (ci := 1) (v := .int 0) (C := RJ4) (T := TJ4) (N := 4) hx hb hts us_inJ4 hown hK hP 0 rfl rfl 1 (by decide) (hts _ us_m836) (fun _ h9 => h9) rfl dJ5_putStringAt_47b60_12 ?_
  have hpm : ([(b, .inr (1, [.ref v, .int 0, .int ml, .int cn])), (r0, .inr (0, [.ref v0, .int 0, .int hs, .int hz])), (v, .inl (g.2.2.2.1, cap, .inl a)), (v0, .inl (g.2.2.2.1, n0, .inl a0))] : va_W).Perm ([(v, .inl (g.2.2.2.1, cap, .inl a)), (r0, .inr (0, [.ref v0, .int 0, .int hs, .int hz])), (v0, .inl (g.2.2.2.1, n0, .inl a0))] ++ [(b, .inr (1, [.ref v, .int 0, .int ml, .int cn]))]) := ub_permN 4 rfl [2, 1, 3, 0] (by decide) rfl
  have hPc : va_P g.1 vwCl [(v, .inl (g.2.2.2.1, cap, .inl a)), (r0, .inr (0, [.ref v0, .int 0, .int hs, .int hz])), (v0, .inl (g.2.2.2.1, n0, .inl a0))] _ := ub_pickP hP [2, 1, 3] rfl
  have hDc : va_D A [(v, .inl (g.2.2.2.1, cap, .inl a)), (r0, .inr (0, [.ref v0, .int 0, .int hs, .int hz])), (v0, .inl (g.2.2.2.1, n0, .inl a0))] := hD.sub [2, 1, 3] (by decide) rfl
  have hFc := ub_freeP hD hS hA hpm
  refine us_callv (va_runV (As := [.ref v, .int (nI n), .int 0]) (rest := []) ⟨hx, hb, hml, hown, hts⟩ (uj_getBytesS l g hf0 hnm hm) (cwV 3 hts gu_RJ5_399 rfl rfl rfl ⟨rfl, us_hJ0_getBytes_840e7⟩ ⟨Nat.le_of_ble_eq_true rfl, Nat.le_of_ble_eq_true rfl⟩) (us_preV hZ hS hFc hPc hDc hK hN 1 (ci := 0) rfl rfl rfl) rfl rfl hl.1 rfl (lv_room (Nat.le_of_ble_eq_true rfl)) dJ5_putStringAt_47b60_15 ⟨Nat.le_of_ble_eq_true rfl, Nat.le_of_ble_eq_true rfl⟩) hP hD hS hA hpm (fun u H locs hpost hP hD hS => ?_)
  obtain rfl := hpost
  have hP : va_P g.1 vwCl [(v, .inl (g.2.2.2.1, cap, .inl (va_cpy a0 a 0 n n0))), (r0, .inr (0, [.ref v0, .int 0, .int hs, .int hz])), (v0, .inl (g.2.2.2.1, n0, .inl a0)), (b, .inr (1, [.ref v, .int 0, .int ml, .int cn]))] _ := hP
  have hD : va_D A [(v, .inl (g.2.2.2.1, cap, .inl (va_cpy a0 a 0 n n0))), (r0, .inr (0, [.ref v0, .int 0, .int hs, .int hz])), (v0, .inl (g.2.2.2.1, n0, .inl a0)), (b, .inr (1, [.ref v, .int 0, .int ml, .int cn]))] := hD
  exact hret _ H locs _ ls rfl dJ5_putStringAt_47b60_18 (ub_pickP hP [3, 0, 1, 2] rfl) (hD.sub [3, 0, 1, 2] (by decide) rfl) hS

set_option maxHeartbeats 4000000 in
set_option maxRecDepth 100000 in
theorem uj_putSK (l : Launch) (g : us_G) {sz : Nat} {b v : Nat} {ml cn : Int32} {n cap : Nat} {a : Nat → Int32} {i0 : Nat} (hi0 : i0 < 14) (hnm : n + us_len.getD i0 0 ≤ cap) (hm : cap ≤ 100000) : Met l yJ5_putStringAt_47b60 wsJ5_putStringAt_47b60 ({ frames := 2, cells := 0, slots := 0, locals := 49 } : Room) (va_Pc [.ref b, .int (nI n), .ref (g.2.2.2.2.1 i0)] (us_pc g [(b, .inr (1, [.ref v, .int 0, .int ml, .int cn])), (v, .inl (g.2.2.2.1, cap, .inl a))] sz)) (va_Qv (fun (u : va_W) => u = [(b, .inr (1, [.ref v, .int 0, .int ml, .int cn])), (v, .inl (g.2.2.2.1, cap, .inl (va_cpy (fun j => (us_byt.getD i0 []).getD j 0) a 0 n (us_len.getD i0 0))))]) (fun u t => ub_pq g.1 u (va_A [(b, .inr (1, [.ref v, .int 0, .int ml, .int cn])), (v, .inl (g.2.2.2.1, cap, .inl a))] sz) t) (va_A [(b, .inr (1, [.ref v, .int 0, .int ml, .int cn])), (v, .inl (g.2.2.2.1, cap, .inl a))] sz)) 0 0 (va_A [(b, .inr (1, [.ref v, .int 0, .int ml, .int cn])), (v, .inl (g.2.2.2.1, cap, .inl a))] sz) := by
  refine us_met_v (post := (fun (u : va_W) => u = [(b, .inr (1, [.ref v, .int 0, .int ml, .int cn])), (v, .inl (g.2.2.2.1, cap, .inl (va_cpy (fun j => (us_byt.getD i0 []).getD j 0) a 0 n (us_len.getD i0 0))))])) (by decide +kernel) (Nat.le_of_ble_eq_true rfl) fun p e s m args below meth c Q A K hin hret ls hl hP hD hS => ?_
  obtain ⟨hx, hb, hml, hown, hts, hK, hN, hA, hZ⟩ := K
  have hl : lv_has ls 3 [(0, .ref b), (1, .int (nI n)), (2, .ref (g.2.2.2.2.1 i0))] := hl
  refine lv_aload_n hx hb dJ5_putStringAt_47b60_0 rfl (lv_at hl 0 rfl) ?_
  refine lv_aload_n hx hb dJ5_putStringAt_47b60_1 rfl (lv_at hl 2 rfl) ?_
  have hpm : ([(b, .inr (1, [.ref v, .int 0, .int ml, .int cn])), (v, .inl (g.2.2.2.1, cap, .inl a))] : va_W).Perm ([(b, .inr (1, [.ref v, .int 0, .int ml, .int cn]))] ++ [(v, .inl (g.2.2.2.1, cap, .inl a))]) := ub_permN 2 rfl [0, 1] (by decide) rfl
  have hPc : va_P g.1 vwCl [(b, .inr (1, [.ref v, .int 0, .int ml, .int cn]))] _ := ub_pickP hP [0] rfl
  have hDc : va_D A [(b, .inr (1, [.ref v, .int 0, .int ml, .int cn]))] := hD.sub [0] (by decide) rfl
  have hFc := ub_freeP hD hS hA hpm
  refine us_callv (va_runU (As := [.ref (g.2.2.2.2.1 i0)]) (rest := []) ⟨hx, hb, hml, hown, hts⟩ (uj_inflK l g hi0) (va_cwU 1 hts gu_RJ5_397 rfl rfl rfl rfl us_hJ5_inflateIfNeededFor_a7421 ⟨Nat.le_of_ble_eq_true rfl, Nat.le_of_ble_eq_true rfl⟩) (us_preV hZ hS hFc hPc hDc hK hN 0 (ci := 1) rfl rfl rfl) rfl rfl hl.1 rfl (lv_room (Nat.le_of_ble_eq_true rfl)) dJ5_putStringAt_47b60_2 ⟨Nat.le_of_ble_eq_true rfl, Nat.le_of_ble_eq_true rfl⟩) hP hD hS hA hpm (fun u H locs hpost hP hD hS => ?_)
  obtain rfl := hpost
  have hP : va_P g.1 vwCl [(b, .inr (1, [.ref v, .int 0, .int ml, .int cn])), (v, .inl (g.2.2.2.1, cap, .inl a))] _ := hP
  have hD : va_D A [(b, .inr (1, [.ref v, .int 0, .int ml, .int cn])), (v, .inl (g.2.2.2.1, cap, .inl a))] := hD
  refine lv_aload_n hx hb dJ5_putStringAt_47b60_5 rfl (lv_at hl 2 rfl) ?_
  refine lv_aload_n hx hb dJ5_putStringAt_47b60_6 rfl (lv_at hl 0 rfl) ?_
  refine va_get (ci := 1) (v := .ref v) (C := RJ4) (T := TJ4) (N := 4) hx hb hts us_inJ4 hown hK hP 0 rfl rfl 0 (by decide) (hts _ us_m835) (fun _ h9 => h9) rfl dJ5_putStringAt_47b60_7 ?_
  refine lv_iload_n hx hb dJ5_putStringAt_47b60_10 rfl (lv_at hl 1 rfl) ?_
  refine lv_aload_n hx hb dJ5_putStringAt_47b60_11 rfl (lv_at hl 0 rfl) ?_
  refine va_get (ci := 1) (v := .int 0) (C := RJ4) (T := TJ4) (N := 4) hx hb hts us_inJ4 hown hK hP 0 rfl rfl 1 (by decide) (hts _ us_m836) (fun _ h9 => h9) rfl dJ5_putStringAt_47b60_12 ?_
  have hpm : ([(b, .inr (1, [.ref v, .int 0, .int ml, .int cn])), (v, .inl (g.2.2.2.1, cap, .inl a))] : va_W).Perm ([(v, .inl (g.2.2.2.1, cap, .inl a))] ++ [(b, .inr (1, [.ref v, .int 0, .int ml, .int cn]))]) := ub_permN 2 rfl [1, 0] (by decide) rfl
  have hPc : va_P g.1 vwCl [(v, .inl (g.2.2.2.1, cap, .inl a))] _ := ub_pickP hP [1] rfl
  have hDc : va_D A [(v, .inl (g.2.2.2.1, cap, .inl a))] := hD.sub [1] (by decide) rfl
  have hFc := ub_freeP hD hS hA hpm
  refine us_callv (va_runV (As := [.ref v, .int (nI n), .int 0]) (rest := []) ⟨hx, hb, hml, hown, hts⟩ (uj_getBytesK l g hi0 hnm hm) (cwV 3 hts gu_RJ5_399 rfl rfl rfl ⟨rfl, us_hJ0_getBytes_840e7⟩ ⟨Nat.le_of_ble_eq_true rfl, Nat.le_of_ble_eq_true rfl⟩) (us_preVk hi0 hZ hS hFc hPc hDc hK hN) rfl rfl hl.1 rfl (lv_room (Nat.le_of_ble_eq_true rfl)) dJ5_putStringAt_47b60_15 ⟨Nat.le_of_ble_eq_true rfl, Nat.le_of_ble_eq_true rfl⟩) hP hD hS hA hpm (fun u H locs hpost hP hD hS => ?_)
  obtain rfl := hpost
  have hP : va_P g.1 vwCl [(v, .inl (g.2.2.2.1, cap, .inl (va_cpy (fun j => (us_byt.getD i0 []).getD j 0) a 0 n (us_len.getD i0 0)))), (b, .inr (1, [.ref v, .int 0, .int ml, .int cn]))] _ := hP
  have hD : va_D A [(v, .inl (g.2.2.2.1, cap, .inl (va_cpy (fun j => (us_byt.getD i0 []).getD j 0) a 0 n (us_len.getD i0 0)))), (b, .inr (1, [.ref v, .int 0, .int ml, .int cn]))] := hD
  exact hret _ H locs _ ls rfl dJ5_putStringAt_47b60_18 (ub_pickP hP [1, 0] rfl) (hD.sub [1, 0] (by decide) rfl) hS

theorem us_hJ5_append_cf1ce : yJ5_append_cf1ce.cls ≠ "java/lang/invoke/MethodHandle" ∧ yJ5_append_cf1ce.cls ≠ "java/lang/invoke/VarHandle" ∧ (parseMethodDescriptor yJ5_append_cf1ce.desc).map (fun d => d.parameters.length) = some 1 := by decide +kernel
set_option maxHeartbeats 4000000 in
set_option maxRecDepth 100000 in
theorem uj_appendS5S (l : Launch) (g : us_G) {sz : Nat} {b v : Nat} {ml : Int32} {n cap : Nat} {a : Nat → Int32} (hnm : n ≤ cap) (hm : cap ≤ 30000) (hf : sb_Fit a) {r0 v0 : Nat} {hs hz : Int32} {n0 : Nat} {a0 : Nat → Int32} (hf0 : sb_Fit a0) (hn0 : n0 ≤ 20000) : Met l yJ5_append_cf1ce wsJ5_append_cf1ce ({ frames := 4, cells := (us_mc (n + n0) cap), slots := (us_ms (n + n0) cap), locals := 91 } : Room) (va_Pc [.ref b, .ref r0] (us_pc g [(b, .inr (1, [.ref v, .int 0, .int ml, .int (nI n)])), (v, .inl (g.2.2.2.1, cap, .inl a)), (r0, .inr (0, [.ref v0, .int 0, .int hs, .int hz])), (v0, .inl (g.2.2.2.1, n0, .inl a0))] sz)) (va_Qr (fun (_ : va_W) => True) (fun u r t => (fun (r : Nat) (u : va_W) => r = b ∧ ∃ (v2 : Nat) (a2 : Nat → Int32), u = [(b, .inr (1, [.ref v2, .int 0, .int ml, .int (nI (n + n0))])), (v2, .inl (g.2.2.2.1, sb_cap (n + n0) cap, .inl a2)), (r0, .inr (0, [.ref v0, .int 0, .int hs, .int hz])), (v0, .inl (g.2.2.2.1, n0, .inl a0))] ∧ (∀ j, j < n → a2 j = a j) ∧ (∀ i, i < n0 → a2 (n + i) = a0 i) ∧ sb_Fit a2) r u ∧ ub_pq g.1 u (va_A [(b, .inr (1, [.ref v, .int 0, .int ml, .int (nI n)])), (v, .inl (g.2.2.2.1, cap, .inl a)), (r0, .inr (0, [.ref v0, .int 0, .int hs, .int hz])), (v0, .inl (g.2.2.2.1, n0, .inl a0))] sz) t) (va_A [(b, .inr (1, [.ref v, .int 0, .int ml, .int (nI n)])), (v, .inl (g.2.2.2.1, cap, .inl a)), (r0, .inr (0, [.ref v0, .int 0, .int hs, .int hz])), (v0, .inl (g.2.2.2.1, n0, .inl a0))] sz)) (us_mc (n + n0) cap) (us_ms (n + n0) cap) (va_A [(b, .inr (1, [.ref v, .int 0, .int ml, .int (nI n)])), (v, .inl (g.2.2.2.1, cap, .inl a)), (r0, .inr (0, [.ref v0, .int 0, .int hs, .int hz])), (v0, .inl (g.2.2.2.1, n0, .inl a0))] sz) := by
  refine us_met_r (post := (fun (r : Nat) (u : va_W) => r = b ∧ ∃ (v2 : Nat) (a2 : Nat → Int32), u = [(b, .inr (1, [.ref v2, .int 0, .int ml, .int (nI (n + n0))])), (v2, .inl (g.2.2.2.1, sb_cap (n + n0) cap, .inl a2)), (r0, .inr (0, [.ref v0, .int 0, .int hs, .int hz])), (v0, .inl (g.2.2.2.1, n0, .inl a0))] ∧ (∀ j, j < n → a2 j = a j) ∧ (∀ i, i < n0 → a2 (n + i) = a0 i) ∧ sb_Fit a2)) (Or.inl ⟨_, rfl⟩) (by decide +kernel) (Nat.le_of_ble_eq_true rfl) fun p e s m args below meth c Q A K hret ls hl hP hD hS => ?_
  obtain ⟨hx, hb, hml, hown, hts, hK, hN, hA, hZ⟩ := K
  have hl : lv_has ls 3 [(0, .ref b), (1, .ref r0)] := hl
  refine lv_aload_n hx hb dJ5_append_cf1ce_0 rfl (lv_at hl 1 rfl) ?_
  refine lv_ifnonnull (tgt := 9) hx hb dJ5_append_cf1ce_1 (by decide) ?_
  refine lv_aload_n hx hb dJ5_append_cf1ce_9 rfl (lv_at hl 1 rfl) ?_
  have hpm : ([(b, .inr (1, [.ref v, .int 0, .int ml, .int (nI n)])), (v, .inl (g.2.2.2.1, cap, .inl a)), (r0, .inr (0, [.ref v0, .int 0, .int hs, .int hz])), (v0, .inl (g.2.2.2.1, n0, .inl a0))] : va_W).Perm ([(r0, .inr (0, [.ref v0, .int 0, .int hs, .int hz])), (v0, .inl (g.2.2.2.1, n0, .inl a0))] ++ [(b, .inr (1, [.ref v, .int 0, .int ml, .int (nI n)])), (v, .inl (g.2.2.2.1, cap, .inl a))]) := ub_permN 4 rfl [2, 3, 0, 1] (by decide) rfl
  have hPc : va_P g.1 vwCl [(r0, .inr (0, [.ref v0, .int 0, .int hs, .int hz])), (v0, .inl (g.2.2.2.1, n0, .inl a0))] _ := ub_pickP hP [2, 3] rfl
  have hDc : va_D A [(r0, .inr (0, [.ref v0, .int 0, .int hs, .int hz])), (v0, .inl (g.2.2.2.1, n0, .inl a0))] := hD.sub [2, 3] (by decide) rfl
  have hFc := ub_freeP hD hS hA hpm
  refine us_calli (va_runV (As := []) (rest := []) ⟨hx, hb, hml, hown, hts⟩ (uj_lengthS l g (by omega)) (cwV 0 hts gu_RJ5_32 rfl rfl rfl ⟨rfl, us_hJ0_length_8abf5⟩ ⟨Nat.le_of_ble_eq_true rfl, Nat.le_of_ble_eq_true rfl⟩) (us_preV hZ hS hFc hPc hDc hK hN 0 (ci := 0) rfl rfl rfl) rfl rfl hl.1 rfl (lv_room (Nat.le_of_ble_eq_true rfl)) dJ5_append_cf1ce_10 ⟨by show 0 + 0 ≤ us_mc (n + n0) cap; omega, by show 0 + 0 ≤ us_ms (n + n0) cap; omega⟩) hP hD hS hA hpm (fun r u H locs hpost hP hD hS => ?_)
  obtain ⟨rfl, rfl⟩ := hpost
  have hP : va_P g.1 vwCl [(r0, .inr (0, [.ref v0, .int 0, .int hs, .int hz])), (v0, .inl (g.2.2.2.1, n0, .inl a0)), (b, .inr (1, [.ref v, .int 0, .int ml, .int (nI n)])), (v, .inl (g.2.2.2.1, cap, .inl a))] _ := hP
  have hD : va_D A [(r0, .inr (0, [.ref v0, .int 0, .int hs, .int hz])), (v0, .inl (g.2.2.2.1, n0, .inl a0)), (b, .inr (1, [.ref v, .int 0, .int ml, .int (nI n)])), (v, .inl (g.2.2.2.1, cap, .inl a))] := hD
  refine lv_istore_n (lv' := [(2, .int (nI n0)), (0, .ref b), (1, .ref r0)]) hx hb dJ5_append_cf1ce_13 rfl hl (by decide) rfl (fun ls hl => ?_)
  refine lv_aload_n hx hb dJ5_append_cf1ce_14 rfl (lv_at hl 1 rfl) ?_
  refine lv_aload_n hx hb dJ5_append_cf1ce_15 rfl (lv_at hl 1 rfl) ?_
  refine va_get (ci := 1) (v := .int (nI n)) (C := RJ4) (T := TJ4) (N := 4) hx hb hts us_inJ4 hown hK hP 2 rfl rfl 3 (by decide) (hts _ us_m838) (fun _ h9 => h9) rfl dJ5_append_cf1ce_16 ?_
  refine lv_iload_n hx hb dJ5_append_cf1ce_19 rfl (lv_at hl 0 rfl) ?_
  refine lv_iadd hx hb dJ5_append_cf1ce_20 ?_
  refine us_topi (x := nI (n + n0)) (nI_add _ _) ?_
  have hpm : ([(r0, .inr (0, [.ref v0, .int 0, .int hs, .int hz])), (v0, .inl (g.2.2.2.1, n0, .inl a0)), (b, .inr (1, [.ref v, .int 0, .int ml, .int (nI n)])), (v, .inl (g.2.2.2.1, cap, .inl a))] : va_W).Perm ([(b, .inr (1, [.ref v, .int 0, .int ml, .int (nI n)])), (v, .inl (g.2.2.2.1, cap, .inl a))] ++ [(r0, .inr (0, [.ref v0, .int 0, .int hs, .int hz])), (v0, .inl (g.2.2.2.1, n0, .inl a0))]) := ub_permN 4 rfl [2, 3, 0, 1] (by decide) rfl
  have hPc : va_P g.1 vwCl [(b, .inr (1, [.ref v, .int 0, .int ml, .int (nI n)])), (v, .inl (g.2.2.2.1, cap, .inl a))] _ := ub_pickP hP [2, 3] rfl
  have hDc : va_D A [(b, .inr (1, [.ref v, .int 0, .int ml, .int (nI n)])), (v, .inl (g.2.2.2.1, cap, .inl a))] := hD.sub [2, 3] (by decide) rfl
  have hFc := ub_freeP hD hS hA hpm
  refine us_callv (va_runU (As := [.int (nI (n + n0))]) (rest := []) ⟨hx, hb, hml, hown, hts⟩ (uj_ensure l g (cap := cap) (q := n + n0) (a := a) (by omega) (by omega) hf) (va_cwU 1 hts gu_RJ5_100 rfl rfl rfl rfl us_hJ5_ensureCapacityInternal_d00df ⟨Nat.le_of_ble_eq_true rfl, Nat.le_of_ble_eq_true rfl⟩) (us_preV hZ hS hFc hPc hDc hK hN 0 (ci := 1) rfl rfl rfl) rfl rfl hl.1 rfl (lv_room (Nat.le_of_ble_eq_true rfl)) dJ5_append_cf1ce_21 ⟨by show 0 + 0 + us_mc (n + n0) cap ≤ us_mc (n + n0) cap; omega, by show 0 + 0 + us_ms (n + n0) cap ≤ us_ms (n + n0) cap; omega⟩) hP hD hS hA hpm (fun u H locs hpost hP hD hS => ?_)
  obtain ⟨v2, a2, rfl, hk, hf2⟩ := hpost
  have hP : va_P g.1 vwCl [(b, .inr (1, [.ref v2, .int 0, .int ml, .int (nI n)])), (v2, .inl (g.2.2.2.1, (sb_cap (n + n0) cap), .inl a2)), (r0, .inr (0, [.ref v0, .int 0, .int hs, .int hz])), (v0, .inl (g.2.2.2.1, n0, .inl a0))] _ := hP
  have hD : va_D A [(b, .inr (1, [.ref v2, .int 0, .int ml, .int (nI n)])), (v2, .inl (g.2.2.2.1, (sb_cap (n + n0) cap), .inl a2)), (r0, .inr (0, [.ref v0, .int 0, .int hs, .int hz])), (v0, .inl (g.2.2.2.1, n0, .inl a0))] := hD
  refine W.widen (k := us_mc (n + n0) cap) (n := us_ms (n + n0) cap) (by omega) (by omega) ?_
  have hg := sb_cap_ge (n + n0) cap
  have hC : sb_cap (n + n0) cap ≤ 70000 := by
      unfold sb_cap
      split
      · omega
      · split <;> omega
  refine lv_aload_n hx hb dJ5_append_cf1ce_24 rfl (lv_at hl 1 rfl) ?_
  refine lv_aload_n hx hb dJ5_append_cf1ce_25 rfl (lv_at hl 1 rfl) ?_
  refine va_get (ci := 1) (v := .int (nI n)) (C := RJ4) (T := TJ4) (N := 4) hx hb hts us_inJ4 hown hK hP 0 rfl rfl 3 (by decide) (hts _ us_m838) (fun _ h9 => h9) rfl dJ5_append_cf1ce_26 ?_
  refine lv_aload_n hx hb dJ5_append_cf1ce_29 rfl (lv_at hl 2 rfl) ?_
  have hpm : ([(b, .inr (1, [.ref v2, .int 0, .int ml, .int (nI n)])), (v2, .inl (g.2.2.2.1, (sb_cap (n + n0) cap), .inl a2)), (r0, .inr (0, [.ref v0, .int 0, .int hs, .int hz])), (v0, .inl (g.2.2.2.1, n0, .inl a0))] : va_W).Perm ([(b, .inr (1, [.ref v2, .int 0, .int ml, .int (nI n)])), (v2, .inl (g.2.2.2.1, (sb_cap (n + n0) cap), .inl a2)), (r0, .inr (0, [.ref v0, .int 0, .int hs, .int hz])), (v0, .inl (g.2.2.2.1, n0, .inl a0))] ++ []) := ub_permN 4 rfl [0, 1, 2, 3] (by decide) rfl
  have hPc : va_P g.1 vwCl [(b, .inr (1, [.ref v2, .int 0, .int ml, .int (nI n)])), (v2, .inl (g.2.2.2.1, (sb_cap (n + n0) cap), .inl a2)), (r0, .inr (0, [.ref v0, .int 0, .int hs, .int hz])), (v0, .inl (g.2.2.2.1, n0, .inl a0))] _ := ub_pickP hP [0, 1, 2, 3] rfl
  have hDc : va_D A [(b, .inr (1, [.ref v2, .int 0, .int ml, .int (nI n)])), (v2, .inl (g.2.2.2.1, (sb_cap (n + n0) cap), .inl a2)), (r0, .inr (0, [.ref v0, .int 0, .int hs, .int hz])), (v0, .inl (g.2.2.2.1, n0, .inl a0))] := hD.sub [0, 1, 2, 3] (by decide) rfl
  have hFc := ub_freeP hD hS hA hpm
  refine us_callv (va_runU (As := [.int (nI n), .ref r0]) (rest := []) ⟨hx, hb, hml, hown, hts⟩ (uj_putSS l g (cn := nI n) (n := n) hf0 (by omega) (by omega)) (va_cwU 2 hts gu_RJ5_208 rfl rfl rfl rfl us_hJ5_putStringAt_47b60 ⟨Nat.le_of_ble_eq_true rfl, Nat.le_of_ble_eq_true rfl⟩) (us_preV hZ hS hFc hPc hDc hK hN 0 (ci := 1) rfl rfl rfl) rfl rfl hl.1 rfl (lv_room (Nat.le_of_ble_eq_true rfl)) dJ5_append_cf1ce_30 ⟨Nat.le_refl _, Nat.le_refl _⟩) hP hD hS hA hpm (fun u H locs hpost hP hD hS => ?_)
  obtain rfl := hpost
  have hP : va_P g.1 vwCl [(b, .inr (1, [.ref v2, .int 0, .int ml, .int (nI n)])), (v2, .inl (g.2.2.2.1, (sb_cap (n + n0) cap), .inl (va_cpy a0 a2 0 n n0))), (r0, .inr (0, [.ref v0, .int 0, .int hs, .int hz])), (v0, .inl (g.2.2.2.1, n0, .inl a0))] _ := hP
  have hD : va_D A [(b, .inr (1, [.ref v2, .int 0, .int ml, .int (nI n)])), (v2, .inl (g.2.2.2.1, (sb_cap (n + n0) cap), .inl (va_cpy a0 a2 0 n n0))), (r0, .inr (0, [.ref v0, .int 0, .int hs, .int hz])), (v0, .inl (g.2.2.2.1, n0, .inl a0))] := hD
  refine lv_aload_n hx hb dJ5_append_cf1ce_33 rfl (lv_at hl 1 rfl) ?_
  refine lv_dup hx hb dJ5_append_cf1ce_34 rfl ?_
  refine va_get (ci := 1) (v := .int (nI n)) (C := RJ4) (T := TJ4) (N := 4) hx hb hts us_inJ4 hown hK hP 0 rfl rfl 3 (by decide) (hts _ us_m838) (fun _ h9 => h9) rfl dJ5_append_cf1ce_35 ?_
  refine lv_iload_n hx hb dJ5_append_cf1ce_38 rfl (lv_at hl 0 rfl) ?_
  refine lv_iadd hx hb dJ5_append_cf1ce_39 ?_
  refine us_topi (x := nI (n + n0)) (nI_add _ _) ?_
  refine ub_put (ws' := [(b, .inr (1, [.ref v2, .int 0, .int ml, .int (nI (n + n0))])), (v2, .inl (g.2.2.2.1, (sb_cap (n + n0) cap), .inl (va_cpy a0 a2 0 n n0))), (r0, .inr (0, [.ref v0, .int 0, .int hs, .int hz])), (v0, .inl (g.2.2.2.1, n0, .inl a0))]) (ci := 1) (C := RJ4) (T := TJ4) (N := 4) hx hb hts us_inJ4 tyJ4 tyJ4_ok nmJ4 hown hK hP hD hS 0 3 (v := .int (nI (n + n0))) (ty := tyJ4 3) rfl rfl (by decide) (hts _ us_m838) (fun _ h9 => h9) rfl (tyJ4_ok 3 (by decide)) rfl rfl (Nat.le_of_ble_eq_true rfl) rfl dJ5_append_cf1ce_40 (fun H locs hP hD hS => ?_)
  refine lv_aload_n hx hb dJ5_append_cf1ce_43 rfl (lv_at hl 1 rfl) ?_
  exact hret b _ H locs _ ls ⟨rfl, v2, _, rfl, fun j hj => (pk_cpy_out (by omega)).trans (hk j (by omega)), fun i hi => by rw [pk_cpy_in (by omega) (by omega), show 0 + (n + i - n) = i by omega], sb_fitC hf0 hf2⟩ dJ5_append_cf1ce_44 (ub_pickP hP [0, 1, 2, 3] rfl) (hD.sub [0, 1, 2, 3] (by decide) rfl) hS

theorem us_hJ4_append_15ec4 : yJ4_append_15ec4.cls ≠ "java/lang/invoke/MethodHandle" ∧ yJ4_append_15ec4.cls ≠ "java/lang/invoke/VarHandle" ∧ (parseMethodDescriptor yJ4_append_15ec4.desc).map (fun d => d.parameters.length) = some 1 := by decide +kernel
set_option maxHeartbeats 4000000 in
set_option maxRecDepth 100000 in
theorem uj_appendSS (l : Launch) (g : us_G) {sz : Nat} {b v : Nat} {ml : Int32} {n cap : Nat} {a : Nat → Int32} (hnm : n ≤ cap) (hm : cap ≤ 30000) (hf : sb_Fit a) {r0 v0 : Nat} {hs hz : Int32} {n0 : Nat} {a0 : Nat → Int32} (hf0 : sb_Fit a0) (hn0 : n0 ≤ 20000) : Met l yJ4_append_15ec4 wsJ4_append_15ec4 ({ frames := 5, cells := (us_mc (n + n0) cap), slots := (us_ms (n + n0) cap), locals := 113 } : Room) (va_Pc [.ref b, .ref r0] (us_pc g [(b, .inr (1, [.ref v, .int 0, .int ml, .int (nI n)])), (v, .inl (g.2.2.2.1, cap, .inl a)), (r0, .inr (0, [.ref v0, .int 0, .int hs, .int hz])), (v0, .inl (g.2.2.2.1, n0, .inl a0))] sz)) (va_Qr (fun (_ : va_W) => True) (fun u r t => (fun (r : Nat) (u : va_W) => r = b ∧ ∃ (v2 : Nat) (a2 : Nat → Int32), u = [(b, .inr (1, [.ref v2, .int 0, .int ml, .int (nI (n + n0))])), (v2, .inl (g.2.2.2.1, sb_cap (n + n0) cap, .inl a2)), (r0, .inr (0, [.ref v0, .int 0, .int hs, .int hz])), (v0, .inl (g.2.2.2.1, n0, .inl a0))] ∧ (∀ j, j < n → a2 j = a j) ∧ (∀ i, i < n0 → a2 (n + i) = a0 i) ∧ sb_Fit a2) r u ∧ ub_pq g.1 u (va_A [(b, .inr (1, [.ref v, .int 0, .int ml, .int (nI n)])), (v, .inl (g.2.2.2.1, cap, .inl a)), (r0, .inr (0, [.ref v0, .int 0, .int hs, .int hz])), (v0, .inl (g.2.2.2.1, n0, .inl a0))] sz) t) (va_A [(b, .inr (1, [.ref v, .int 0, .int ml, .int (nI n)])), (v, .inl (g.2.2.2.1, cap, .inl a)), (r0, .inr (0, [.ref v0, .int 0, .int hs, .int hz])), (v0, .inl (g.2.2.2.1, n0, .inl a0))] sz)) (us_mc (n + n0) cap) (us_ms (n + n0) cap) (va_A [(b, .inr (1, [.ref v, .int 0, .int ml, .int (nI n)])), (v, .inl (g.2.2.2.1, cap, .inl a)), (r0, .inr (0, [.ref v0, .int 0, .int hs, .int hz])), (v0, .inl (g.2.2.2.1, n0, .inl a0))] sz) := by
  refine us_met_r (post := (fun (r : Nat) (u : va_W) => r = b ∧ ∃ (v2 : Nat) (a2 : Nat → Int32), u = [(b, .inr (1, [.ref v2, .int 0, .int ml, .int (nI (n + n0))])), (v2, .inl (g.2.2.2.1, sb_cap (n + n0) cap, .inl a2)), (r0, .inr (0, [.ref v0, .int 0, .int hs, .int hz])), (v0, .inl (g.2.2.2.1, n0, .inl a0))] ∧ (∀ j, j < n → a2 j = a j) ∧ (∀ i, i < n0 → a2 (n + i) = a0 i) ∧ sb_Fit a2)) (Or.inl ⟨_, rfl⟩) (by decide +kernel) (Nat.le_of_ble_eq_true rfl) fun p e s m args below meth c Q A K hret ls hl hP hD hS => ?_
  obtain ⟨hx, hb, hml, hown, hts, hK, hN, hA, hZ⟩ := K
  have hl : lv_has ls 2 [(0, .ref b), (1, .ref r0)] := hl
  refine lv_aload_n hx hb dJ4_append_15ec4_0 rfl (lv_at hl 0 rfl) ?_
  refine lv_aload_n hx hb dJ4_append_15ec4_1 rfl (lv_at hl 1 rfl) ?_
  have hpm : ([(b, .inr (1, [.ref v, .int 0, .int ml, .int (nI n)])), (v, .inl (g.2.2.2.1, cap, .inl a)), (r0, .inr (0, [.ref v0, .int 0, .int hs, .int hz])), (v0, .inl (g.2.2.2.1, n0, .inl a0))] : va_W).Perm ([(b, .inr (1, [.ref v, .int 0, .int ml, .int (nI n)])), (v, .inl (g.2.2.2.1, cap, .inl a)), (r0, .inr (0, [.ref v0, .int 0, .int hs, .int hz])), (v0, .inl (g.2.2.2.1, n0, .inl a0))] ++ []) := ub_permN 4 rfl [0, 1, 2, 3] (by decide) rfl
  have hPc : va_P g.1 vwCl [(b, .inr (1, [.ref v, .int 0, .int ml, .int (nI n)])), (v, .inl (g.2.2.2.1, cap, .inl a)), (r0, .inr (0, [.ref v0, .int 0, .int hs, .int hz])), (v0, .inl (g.2.2.2.1, n0, .inl a0))] _ := ub_pickP hP [0, 1, 2, 3] rfl
  have hDc : va_D A [(b, .inr (1, [.ref v, .int 0, .int ml, .int (nI n)])), (v, .inl (g.2.2.2.1, cap, .inl a)), (r0, .inr (0, [.ref v0, .int 0, .int hs, .int hz])), (v0, .inl (g.2.2.2.1, n0, .inl a0))] := hD.sub [0, 1, 2, 3] (by decide) rfl
  have hFc := ub_freeP hD hS hA hpm
  refine us_callr (va_runSU (As := [.ref r0]) (rest := []) (hK.1 1 _ rfl).2 ⟨hx, hb, hml, hown, hts⟩ (uj_appendS5S l g hnm hm hf hf0 hn0) (va_cwSU 1 hts gu_RJ4_29 rfl rfl rfl ⟨by decide +kernel, us_hJ5_append_cf1ce.2.2⟩ ⟨Nat.le_of_ble_eq_true rfl, Nat.le_of_ble_eq_true rfl⟩) (us_preV hZ hS hFc hPc hDc hK hN 0 (ci := 1) rfl rfl rfl) rfl rfl hl.1 rfl (lv_room (Nat.le_of_ble_eq_true rfl)) dJ4_append_15ec4_2 ⟨by show 0 + (us_mc (n + n0) cap) ≤ (us_mc (n + n0) cap); omega, by show 0 + (us_ms (n + n0) cap) ≤ (us_ms (n + n0) cap); omega⟩) hP hD hS hA hpm (fun r u H locs hpost hP hD hS => ?_)
  refine lv_pop hx hb dJ4_append_15ec4_5 rfl ?_
  refine lv_aload_n hx hb dJ4_append_15ec4_6 rfl (lv_at hl 0 rfl) ?_
  refine W.widen (k := (us_mc (n + n0) cap)) (n := (us_ms (n + n0) cap)) (by omega) (by omega) ?_
  have hP : va_P g.1 vwCl u H := by
      have h9 := hP
      rw [List.append_nil] at h9
      exact h9
  have hD : va_D A u := by
      have h9 := hD
      rw [List.append_nil] at h9
      exact h9
  exact hret b u H locs _ ls ⟨rfl, hpost.2⟩ dJ4_append_15ec4_7 hP hD hS

set_option maxHeartbeats 4000000 in
set_option maxRecDepth 100000 in
theorem uj_appendS5K (l : Launch) (g : us_G) {sz : Nat} {b v : Nat} {ml : Int32} {n cap : Nat} {a : Nat → Int32} (hnm : n ≤ cap) (hm : cap ≤ 30000) (hf : sb_Fit a) {i0 : Nat} (hi0 : i0 < 14) : Met l yJ5_append_cf1ce wsJ5_append_cf1ce ({ frames := 4, cells := (us_mc (n + (us_len.getD i0 0)) cap), slots := (us_ms (n + (us_len.getD i0 0)) cap), locals := 91 } : Room) (va_Pc [.ref b, .ref (g.2.2.2.2.1 i0)] (us_pc g [(b, .inr (1, [.ref v, .int 0, .int ml, .int (nI n)])), (v, .inl (g.2.2.2.1, cap, .inl a))] sz)) (va_Qr (fun (_ : va_W) => True) (fun u r t => (fun (r : Nat) (u : va_W) => r = b ∧ ∃ (v2 : Nat) (a2 : Nat → Int32), u = [(b, .inr (1, [.ref v2, .int 0, .int ml, .int (nI (n + (us_len.getD i0 0)))])), (v2, .inl (g.2.2.2.1, sb_cap (n + (us_len.getD i0 0)) cap, .inl a2))] ∧ (∀ j, j < n → a2 j = a j) ∧ (∀ i, i < (us_len.getD i0 0) → a2 (n + i) = (fun j => (us_byt.getD i0 []).getD j 0) i) ∧ sb_Fit a2) r u ∧ ub_pq g.1 u (va_A [(b, .inr (1, [.ref v, .int 0, .int ml, .int (nI n)])), (v, .inl (g.2.2.2.1, cap, .inl a))] sz) t) (va_A [(b, .inr (1, [.ref v, .int 0, .int ml, .int (nI n)])), (v, .inl (g.2.2.2.1, cap, .inl a))] sz)) (us_mc (n + (us_len.getD i0 0)) cap) (us_ms (n + (us_len.getD i0 0)) cap) (va_A [(b, .inr (1, [.ref v, .int 0, .int ml, .int (nI n)])), (v, .inl (g.2.2.2.1, cap, .inl a))] sz) := by
  refine us_met_r (post := (fun (r : Nat) (u : va_W) => r = b ∧ ∃ (v2 : Nat) (a2 : Nat → Int32), u = [(b, .inr (1, [.ref v2, .int 0, .int ml, .int (nI (n + (us_len.getD i0 0)))])), (v2, .inl (g.2.2.2.1, sb_cap (n + (us_len.getD i0 0)) cap, .inl a2))] ∧ (∀ j, j < n → a2 j = a j) ∧ (∀ i, i < (us_len.getD i0 0) → a2 (n + i) = (fun j => (us_byt.getD i0 []).getD j 0) i) ∧ sb_Fit a2)) (Or.inl ⟨_, rfl⟩) (by decide +kernel) (Nat.le_of_ble_eq_true rfl) fun p e s m args below meth c Q A K hret ls hl hP hD hS => ?_
  obtain ⟨hx, hb, hml, hown, hts, hK, hN, hA, hZ⟩ := K
  have hl : lv_has ls 3 [(0, .ref b), (1, .ref (g.2.2.2.2.1 i0))] := hl
  have hlen := (us_len_in i0 hi0).1
  refine lv_aload_n hx hb dJ5_append_cf1ce_0 rfl (lv_at hl 1 rfl) ?_
  refine lv_ifnonnull (tgt := 9) hx hb dJ5_append_cf1ce_1 (by decide) ?_
  refine lv_aload_n hx hb dJ5_append_cf1ce_9 rfl (lv_at hl 1 rfl) ?_
  have hpm : ([(b, .inr (1, [.ref v, .int 0, .int ml, .int (nI n)])), (v, .inl (g.2.2.2.1, cap, .inl a))] : va_W).Perm ([] ++ [(b, .inr (1, [.ref v, .int 0, .int ml, .int (nI n)])), (v, .inl (g.2.2.2.1, cap, .inl a))]) := ub_permN 2 rfl [0, 1] (by decide) rfl
  have hPc : va_P g.1 vwCl [] _ := ub_pickP hP [] rfl
  have hDc : va_D A [] := hD.sub [] (by decide) rfl
  have hFc := ub_freeP hD hS hA hpm
  refine us_calli (va_runV (As := []) (rest := []) ⟨hx, hb, hml, hown, hts⟩ (uj_lengthK l g hi0) (cwV 0 hts gu_RJ5_32 rfl rfl rfl ⟨rfl, us_hJ0_length_8abf5⟩ ⟨Nat.le_of_ble_eq_true rfl, Nat.le_of_ble_eq_true rfl⟩) (us_preVk hi0 hZ hS hFc hPc hDc hK hN) rfl rfl hl.1 rfl (lv_room (Nat.le_of_ble_eq_true rfl)) dJ5_append_cf1ce_10 ⟨by show 0 + 0 ≤ us_mc (n + (us_len.getD i0 0)) cap; omega, by show 0 + 0 ≤ us_ms (n + (us_len.getD i0 0)) cap; omega⟩) hP hD hS hA hpm (fun r u H locs hpost hP hD hS => ?_)
  obtain ⟨rfl, rfl⟩ := hpost
  have hP : va_P g.1 vwCl [(b, .inr (1, [.ref v, .int 0, .int ml, .int (nI n)])), (v, .inl (g.2.2.2.1, cap, .inl a))] _ := hP
  have hD : va_D A [(b, .inr (1, [.ref v, .int 0, .int ml, .int (nI n)])), (v, .inl (g.2.2.2.1, cap, .inl a))] := hD
  refine lv_istore_n (lv' := [(2, .int (nI (us_len.getD i0 0))), (0, .ref b), (1, .ref (g.2.2.2.2.1 i0))]) hx hb dJ5_append_cf1ce_13 rfl hl (by decide) rfl (fun ls hl => ?_)
  refine lv_aload_n hx hb dJ5_append_cf1ce_14 rfl (lv_at hl 1 rfl) ?_
  refine lv_aload_n hx hb dJ5_append_cf1ce_15 rfl (lv_at hl 1 rfl) ?_
  refine va_get (ci := 1) (v := .int (nI n)) (C := RJ4) (T := TJ4) (N := 4) hx hb hts us_inJ4 hown hK hP 0 rfl rfl 3 (by decide) (hts _ us_m838) (fun _ h9 => h9) rfl dJ5_append_cf1ce_16 ?_
  refine lv_iload_n hx hb dJ5_append_cf1ce_19 rfl (lv_at hl 0 rfl) ?_
  refine lv_iadd hx hb dJ5_append_cf1ce_20 ?_
  refine us_topi (x := nI (n + (us_len.getD i0 0))) (nI_add _ _) ?_
  have hpm : ([(b, .inr (1, [.ref v, .int 0, .int ml, .int (nI n)])), (v, .inl (g.2.2.2.1, cap, .inl a))] : va_W).Perm ([(b, .inr (1, [.ref v, .int 0, .int ml, .int (nI n)])), (v, .inl (g.2.2.2.1, cap, .inl a))] ++ []) := ub_permN 2 rfl [0, 1] (by decide) rfl
  have hPc : va_P g.1 vwCl [(b, .inr (1, [.ref v, .int 0, .int ml, .int (nI n)])), (v, .inl (g.2.2.2.1, cap, .inl a))] _ := ub_pickP hP [0, 1] rfl
  have hDc : va_D A [(b, .inr (1, [.ref v, .int 0, .int ml, .int (nI n)])), (v, .inl (g.2.2.2.1, cap, .inl a))] := hD.sub [0, 1] (by decide) rfl
  have hFc := ub_freeP hD hS hA hpm
  refine us_callv (va_runU (As := [.int (nI (n + (us_len.getD i0 0)))]) (rest := []) ⟨hx, hb, hml, hown, hts⟩ (uj_ensure l g (cap := cap) (q := n + (us_len.getD i0 0)) (a := a) (by omega) (by omega) hf) (va_cwU 1 hts gu_RJ5_100 rfl rfl rfl rfl us_hJ5_ensureCapacityInternal_d00df ⟨Nat.le_of_ble_eq_true rfl, Nat.le_of_ble_eq_true rfl⟩) (us_preV hZ hS hFc hPc hDc hK hN 0 (ci := 1) rfl rfl rfl) rfl rfl hl.1 rfl (lv_room (Nat.le_of_ble_eq_true rfl)) dJ5_append_cf1ce_21 ⟨by show 0 + 0 + us_mc (n + (us_len.getD i0 0)) cap ≤ us_mc (n + (us_len.getD i0 0)) cap; omega, by show 0 + 0 + us_ms (n + (us_len.getD i0 0)) cap ≤ us_ms (n + (us_len.getD i0 0)) cap; omega⟩) hP hD hS hA hpm (fun u H locs hpost hP hD hS => ?_)
  obtain ⟨v2, a2, rfl, hk, hf2⟩ := hpost
  have hP : va_P g.1 vwCl [(b, .inr (1, [.ref v2, .int 0, .int ml, .int (nI n)])), (v2, .inl (g.2.2.2.1, (sb_cap (n + (us_len.getD i0 0)) cap), .inl a2))] _ := hP
  have hD : va_D A [(b, .inr (1, [.ref v2, .int 0, .int ml, .int (nI n)])), (v2, .inl (g.2.2.2.1, (sb_cap (n + (us_len.getD i0 0)) cap), .inl a2))] := hD
  refine W.widen (k := us_mc (n + (us_len.getD i0 0)) cap) (n := us_ms (n + (us_len.getD i0 0)) cap) (by omega) (by omega) ?_
  have hg := sb_cap_ge (n + (us_len.getD i0 0)) cap
  have hC : sb_cap (n + (us_len.getD i0 0)) cap ≤ 70000 := by
      unfold sb_cap
      split
      · omega
      · split <;> omega
  refine lv_aload_n hx hb dJ5_append_cf1ce_24 rfl (lv_at hl 1 rfl) ?_
  refine lv_aload_n hx hb dJ5_append_cf1ce_25 rfl (lv_at hl 1 rfl) ?_
  refine va_get (ci := 1) (v := .int (nI n)) (C := RJ4) (T := TJ4) (N := 4) hx hb hts us_inJ4 hown hK hP 0 rfl rfl 3 (by decide) (hts _ us_m838) (fun _ h9 => h9) rfl dJ5_append_cf1ce_26 ?_
  refine lv_aload_n hx hb dJ5_append_cf1ce_29 rfl (lv_at hl 2 rfl) ?_
  have hpm : ([(b, .inr (1, [.ref v2, .int 0, .int ml, .int (nI n)])), (v2, .inl (g.2.2.2.1, (sb_cap (n + (us_len.getD i0 0)) cap), .inl a2))] : va_W).Perm ([(b, .inr (1, [.ref v2, .int 0, .int ml, .int (nI n)])), (v2, .inl (g.2.2.2.1, (sb_cap (n + (us_len.getD i0 0)) cap), .inl a2))] ++ []) := ub_permN 2 rfl [0, 1] (by decide) rfl
  have hPc : va_P g.1 vwCl [(b, .inr (1, [.ref v2, .int 0, .int ml, .int (nI n)])), (v2, .inl (g.2.2.2.1, (sb_cap (n + (us_len.getD i0 0)) cap), .inl a2))] _ := ub_pickP hP [0, 1] rfl
  have hDc : va_D A [(b, .inr (1, [.ref v2, .int 0, .int ml, .int (nI n)])), (v2, .inl (g.2.2.2.1, (sb_cap (n + (us_len.getD i0 0)) cap), .inl a2))] := hD.sub [0, 1] (by decide) rfl
  have hFc := ub_freeP hD hS hA hpm
  refine us_callv (va_runU (As := [.int (nI n), .ref (g.2.2.2.2.1 i0)]) (rest := []) ⟨hx, hb, hml, hown, hts⟩ (uj_putSK l g (cn := nI n) (n := n) hi0 (by omega) (by omega)) (va_cwU 2 hts gu_RJ5_208 rfl rfl rfl rfl us_hJ5_putStringAt_47b60 ⟨Nat.le_of_ble_eq_true rfl, Nat.le_of_ble_eq_true rfl⟩) (us_preV hZ hS hFc hPc hDc hK hN 0 (ci := 1) rfl rfl rfl) rfl rfl hl.1 rfl (lv_room (Nat.le_of_ble_eq_true rfl)) dJ5_append_cf1ce_30 ⟨Nat.le_refl _, Nat.le_refl _⟩) hP hD hS hA hpm (fun u H locs hpost hP hD hS => ?_)
  obtain rfl := hpost
  have hP : va_P g.1 vwCl [(b, .inr (1, [.ref v2, .int 0, .int ml, .int (nI n)])), (v2, .inl (g.2.2.2.1, (sb_cap (n + (us_len.getD i0 0)) cap), .inl (va_cpy (fun j => (us_byt.getD i0 []).getD j 0) a2 0 n (us_len.getD i0 0))))] _ := hP
  have hD : va_D A [(b, .inr (1, [.ref v2, .int 0, .int ml, .int (nI n)])), (v2, .inl (g.2.2.2.1, (sb_cap (n + (us_len.getD i0 0)) cap), .inl (va_cpy (fun j => (us_byt.getD i0 []).getD j 0) a2 0 n (us_len.getD i0 0))))] := hD
  refine lv_aload_n hx hb dJ5_append_cf1ce_33 rfl (lv_at hl 1 rfl) ?_
  refine lv_dup hx hb dJ5_append_cf1ce_34 rfl ?_
  refine va_get (ci := 1) (v := .int (nI n)) (C := RJ4) (T := TJ4) (N := 4) hx hb hts us_inJ4 hown hK hP 0 rfl rfl 3 (by decide) (hts _ us_m838) (fun _ h9 => h9) rfl dJ5_append_cf1ce_35 ?_
  refine lv_iload_n hx hb dJ5_append_cf1ce_38 rfl (lv_at hl 0 rfl) ?_
  refine lv_iadd hx hb dJ5_append_cf1ce_39 ?_
  refine us_topi (x := nI (n + (us_len.getD i0 0))) (nI_add _ _) ?_
  refine ub_put (ws' := [(b, .inr (1, [.ref v2, .int 0, .int ml, .int (nI (n + (us_len.getD i0 0)))])), (v2, .inl (g.2.2.2.1, (sb_cap (n + (us_len.getD i0 0)) cap), .inl (va_cpy (fun j => (us_byt.getD i0 []).getD j 0) a2 0 n (us_len.getD i0 0))))]) (ci := 1) (C := RJ4) (T := TJ4) (N := 4) hx hb hts us_inJ4 tyJ4 tyJ4_ok nmJ4 hown hK hP hD hS 0 3 (v := .int (nI (n + (us_len.getD i0 0)))) (ty := tyJ4 3) rfl rfl (by decide) (hts _ us_m838) (fun _ h9 => h9) rfl (tyJ4_ok 3 (by decide)) rfl rfl (Nat.le_of_ble_eq_true rfl) rfl dJ5_append_cf1ce_40 (fun H locs hP hD hS => ?_)
  refine lv_aload_n hx hb dJ5_append_cf1ce_43 rfl (lv_at hl 1 rfl) ?_
  exact hret b _ H locs _ ls ⟨rfl, v2, _, rfl, fun j hj => (pk_cpy_out (by omega)).trans (hk j (by omega)), fun i hi => by rw [pk_cpy_in (by omega) (by omega), show 0 + (n + i - n) = i by omega], sb_fitC (us_byt_fit i0 hi0) hf2⟩ dJ5_append_cf1ce_44 (ub_pickP hP [0, 1] rfl) (hD.sub [0, 1] (by decide) rfl) hS

set_option maxHeartbeats 4000000 in
set_option maxRecDepth 100000 in
theorem uj_appendSK (l : Launch) (g : us_G) {sz : Nat} {b v : Nat} {ml : Int32} {n cap : Nat} {a : Nat → Int32} (hnm : n ≤ cap) (hm : cap ≤ 30000) (hf : sb_Fit a) {i0 : Nat} (hi0 : i0 < 14) : Met l yJ4_append_15ec4 wsJ4_append_15ec4 ({ frames := 5, cells := (us_mc (n + (us_len.getD i0 0)) cap), slots := (us_ms (n + (us_len.getD i0 0)) cap), locals := 113 } : Room) (va_Pc [.ref b, .ref (g.2.2.2.2.1 i0)] (us_pc g [(b, .inr (1, [.ref v, .int 0, .int ml, .int (nI n)])), (v, .inl (g.2.2.2.1, cap, .inl a))] sz)) (va_Qr (fun (_ : va_W) => True) (fun u r t => (fun (r : Nat) (u : va_W) => r = b ∧ ∃ (v2 : Nat) (a2 : Nat → Int32), u = [(b, .inr (1, [.ref v2, .int 0, .int ml, .int (nI (n + (us_len.getD i0 0)))])), (v2, .inl (g.2.2.2.1, sb_cap (n + (us_len.getD i0 0)) cap, .inl a2))] ∧ (∀ j, j < n → a2 j = a j) ∧ (∀ i, i < (us_len.getD i0 0) → a2 (n + i) = (fun j => (us_byt.getD i0 []).getD j 0) i) ∧ sb_Fit a2) r u ∧ ub_pq g.1 u (va_A [(b, .inr (1, [.ref v, .int 0, .int ml, .int (nI n)])), (v, .inl (g.2.2.2.1, cap, .inl a))] sz) t) (va_A [(b, .inr (1, [.ref v, .int 0, .int ml, .int (nI n)])), (v, .inl (g.2.2.2.1, cap, .inl a))] sz)) (us_mc (n + (us_len.getD i0 0)) cap) (us_ms (n + (us_len.getD i0 0)) cap) (va_A [(b, .inr (1, [.ref v, .int 0, .int ml, .int (nI n)])), (v, .inl (g.2.2.2.1, cap, .inl a))] sz) := by
  refine us_met_r (post := (fun (r : Nat) (u : va_W) => r = b ∧ ∃ (v2 : Nat) (a2 : Nat → Int32), u = [(b, .inr (1, [.ref v2, .int 0, .int ml, .int (nI (n + (us_len.getD i0 0)))])), (v2, .inl (g.2.2.2.1, sb_cap (n + (us_len.getD i0 0)) cap, .inl a2))] ∧ (∀ j, j < n → a2 j = a j) ∧ (∀ i, i < (us_len.getD i0 0) → a2 (n + i) = (fun j => (us_byt.getD i0 []).getD j 0) i) ∧ sb_Fit a2)) (Or.inl ⟨_, rfl⟩) (by decide +kernel) (Nat.le_of_ble_eq_true rfl) fun p e s m args below meth c Q A K hret ls hl hP hD hS => ?_
  obtain ⟨hx, hb, hml, hown, hts, hK, hN, hA, hZ⟩ := K
  have hl : lv_has ls 2 [(0, .ref b), (1, .ref (g.2.2.2.2.1 i0))] := hl
  refine lv_aload_n hx hb dJ4_append_15ec4_0 rfl (lv_at hl 0 rfl) ?_
  refine lv_aload_n hx hb dJ4_append_15ec4_1 rfl (lv_at hl 1 rfl) ?_
  have hpm : ([(b, .inr (1, [.ref v, .int 0, .int ml, .int (nI n)])), (v, .inl (g.2.2.2.1, cap, .inl a))] : va_W).Perm ([(b, .inr (1, [.ref v, .int 0, .int ml, .int (nI n)])), (v, .inl (g.2.2.2.1, cap, .inl a))] ++ []) := ub_permN 2 rfl [0, 1] (by decide) rfl
  have hPc : va_P g.1 vwCl [(b, .inr (1, [.ref v, .int 0, .int ml, .int (nI n)])), (v, .inl (g.2.2.2.1, cap, .inl a))] _ := ub_pickP hP [0, 1] rfl
  have hDc : va_D A [(b, .inr (1, [.ref v, .int 0, .int ml, .int (nI n)])), (v, .inl (g.2.2.2.1, cap, .inl a))] := hD.sub [0, 1] (by decide) rfl
  have hFc := ub_freeP hD hS hA hpm
  refine us_callr (va_runSU (As := [.ref (g.2.2.2.2.1 i0)]) (rest := []) (hK.1 1 _ rfl).2 ⟨hx, hb, hml, hown, hts⟩ (uj_appendS5K l g hnm hm hf hi0) (va_cwSU 1 hts gu_RJ4_29 rfl rfl rfl ⟨by decide +kernel, us_hJ5_append_cf1ce.2.2⟩ ⟨Nat.le_of_ble_eq_true rfl, Nat.le_of_ble_eq_true rfl⟩) (us_preV hZ hS hFc hPc hDc hK hN 0 (ci := 1) rfl rfl rfl) rfl rfl hl.1 rfl (lv_room (Nat.le_of_ble_eq_true rfl)) dJ4_append_15ec4_2 ⟨by show 0 + (us_mc (n + (us_len.getD i0 0)) cap) ≤ (us_mc (n + (us_len.getD i0 0)) cap); omega, by show 0 + (us_ms (n + (us_len.getD i0 0)) cap) ≤ (us_ms (n + (us_len.getD i0 0)) cap); omega⟩) hP hD hS hA hpm (fun r u H locs hpost hP hD hS => ?_)
  refine lv_pop hx hb dJ4_append_15ec4_5 rfl ?_
  refine lv_aload_n hx hb dJ4_append_15ec4_6 rfl (lv_at hl 0 rfl) ?_
  refine W.widen (k := (us_mc (n + (us_len.getD i0 0)) cap)) (n := (us_ms (n + (us_len.getD i0 0)) cap)) (by omega) (by omega) ?_
  have hP : va_P g.1 vwCl u H := by
      have h9 := hP
      rw [List.append_nil] at h9
      exact h9
  have hD : va_D A u := by
      have h9 := hD
      rw [List.append_nil] at h9
      exact h9
  exact hret b u H locs _ ls ⟨rfl, hpost.2⟩ dJ4_append_15ec4_7 hP hD hS

