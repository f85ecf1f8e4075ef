/-! ===== stock: what is done at first ===== -/
def us_s0 : Nat → Nat := fun _ => 0
def us_s1 : Nat → Nat := uq_ropeF us_s0 0
def us_s2 : Nat → Nat := uq_ropeF us_s1 1
def us_s3 : Nat → Nat := uq_ropeF us_s2 1
def us_s4 : Nat → Nat := uq_ropeF us_s3 2
def us_s5 : Nat → Nat := um_up us_s4 (12 + 6 * 3) 0
def us_s6 : Nat → Nat := um_insF us_s5 (um_pos us_s5 0 2 5 (us_s5 1)) 0 2 5
def us_s7 : Nat → Nat := um_insF us_s6 (um_pos us_s6 1 2 7 (us_s6 1)) 1 2 7
def us_s8 : Nat → Nat := um_insF us_s7 (um_pos us_s7 3 1 9 (us_s7 1)) 3 1 9
def us_s9 : Nat → Nat := um_insF us_s8 (um_pos us_s8 0 2 3 (us_s8 1)) 0 2 3
def us_s10 : Nat → Nat := um_insF us_s9 (um_pos us_s9 2 6 1 (us_s9 1)) 2 6 1
def us_s11 : Nat → Nat := um_insF us_s10 (um_pos us_s10 1 6 1 (us_s10 1)) 1 6 1
def us_s12 : Nat → Nat := um_ringF us_s11
def us_s13 : Nat → Nat := (uq_hr (us_s12 84) (us_s12 1) us_s12).1
def us_s14 : Nat → Nat := um_up us_s13 (13 + 6 * 0) (us_s13 (13 + 6 * 0) - 1)
theorem ust1 {f' : Nat → Nat} {r : Int32} (hU : uq_rope us_s0 f' 0 r) : f' = us_s1 ∧ r = nI (us_s0 0) := by
  rcases hU with ⟨h, -, -⟩ | ⟨p, hp, e, ⟨h, -, -⟩ | ⟨-, rfl, rfl⟩⟩
  · exact absurd h (by decide +kernel)
  · exact absurd h (by decide +kernel)
  · obtain rfl : p = 0 := ((nI_eq (a := 0) (b := p) (by decide) (by omega)).mp e).symm
    exact ⟨rfl, rfl⟩
theorem ust2 {f' : Nat → Nat} {r : Int32} (hU : uq_rope us_s1 f' 1 r) : f' = us_s2 ∧ r = nI (us_s1 0) := by
  rcases hU with ⟨h, -, -⟩ | ⟨p, hp, e, ⟨h, -, -⟩ | ⟨-, rfl, rfl⟩⟩
  · exact absurd h (by decide +kernel)
  · exact absurd h (by decide +kernel)
  · obtain rfl : p = 1 := ((nI_eq (a := 1) (b := p) (by decide) (by omega)).mp e).symm
    exact ⟨rfl, rfl⟩
theorem ust3 {f' : Nat → Nat} {r : Int32} (hU : uq_rope us_s2 f' 1 r) : f' = us_s3 ∧ r = nI (us_s2 0) := by
  rcases hU with ⟨h, -, -⟩ | ⟨p, hp, e, ⟨h, -, -⟩ | ⟨-, rfl, rfl⟩⟩
  · exact absurd h (by decide +kernel)
  · exact absurd h (by decide +kernel)
  · obtain rfl : p = 1 := ((nI_eq (a := 1) (b := p) (by decide) (by omega)).mp e).symm
    exact ⟨rfl, rfl⟩
theorem ust4 {f' : Nat → Nat} {r : Int32} (hU : uq_rope us_s3 f' 2 r) : f' = us_s4 ∧ r = nI (us_s3 0) := by
  rcases hU with ⟨h, -, -⟩ | ⟨p, hp, e, ⟨h, -, -⟩ | ⟨-, rfl, rfl⟩⟩
  · exact absurd h (by decide +kernel)
  · exact absurd h (by decide +kernel)
  · obtain rfl : p = 2 := ((nI_eq (a := 2) (b := p) (by decide) (by omega)).mp e).symm
    exact ⟨rfl, rfl⟩
theorem ust5 {f' : Nat → Nat} {r : Int32} (hU : uq_sensor us_s4 f' 3 0 r) : f' = us_s5 ∧ r = nI (um_sum (fun r' => um_up us_s4 (12 + 6 * 3) 0 (12 + 6 * r')) (us_s4 0)) := by
  have z0 : us_s4 0 ≤ 12 := by decide +kernel
  rcases hU with ⟨h, -, -⟩ | ⟨q, hq, e, ⟨h, -, -⟩ | ⟨k, hk, e2, h3⟩⟩
  · exact absurd h (by decide +kernel)
  · exact absurd h (by decide +kernel)
  · obtain rfl : q = 3 := ((nI_eq (a := 3) (b := q) (by decide) (by omega)).mp e).symm
    obtain rfl : k = 0 := ((nI_eq (a := 0) (b := k) (by decide) (by omega)).mp e2).symm
    rcases h3 with ⟨h, -, -⟩ | ⟨-, rfl, rfl⟩
    · exact absurd h (by decide +kernel)
    · exact ⟨rfl, rfl⟩
theorem ust6 {f' : Nat → Nat} {r : Int32} (hU : uq_pull us_s5 f' 0 2 5 r) : f' = us_s6 ∧ r = nI (um_pos us_s5 0 2 5 (us_s5 1)) := by
  have z0 : us_s5 0 ≤ 12 := by decide +kernel
  rcases hU with ⟨h, -, -⟩ | ⟨q, hq, e, ⟨h, -, -⟩ | ⟨t, ht, e2, ⟨h, -, -⟩ | ⟨k, hk, hk9, e3, h4⟩⟩⟩
  · exact absurd h (by decide +kernel)
  · exact absurd h (by decide +kernel)
  · exact absurd h (by decide +kernel)
  · obtain rfl : q = 0 := ((nI_eq (a := 0) (b := q) (by decide) (by omega)).mp e).symm
    obtain rfl : t = 2 := ((nI_eq (a := 2) (b := t) (by decide) (by omega)).mp e2).symm
    obtain rfl : k = 5 := ((nI_eq (a := 5) (b := k) (by decide) (by omega)).mp e3).symm
    rcases h4 with ⟨h, -, -⟩ | ⟨-, -, rfl, rfl⟩
    · exact absurd h (by decide +kernel)
    · exact ⟨rfl, rfl⟩
theorem ust7 {f' : Nat → Nat} {r : Int32} (hU : uq_pull us_s6 f' 1 2 7 r) : f' = us_s7 ∧ r = nI (um_pos us_s6 1 2 7 (us_s6 1)) := by
  have z0 : us_s6 0 ≤ 12 := by decide +kernel
  rcases hU with ⟨h, -, -⟩ | ⟨q, hq, e, ⟨h, -, -⟩ | ⟨t, ht, e2, ⟨h, -, -⟩ | ⟨k, hk, hk9, e3, h4⟩⟩⟩
  · exact absurd h (by decide +kernel)
  · exact absurd h (by decide +kernel)
  · exact absurd h (by decide +kernel)
  · obtain rfl : q = 1 := ((nI_eq (a := 1) (b := q) (by decide) (by omega)).mp e).symm
    obtain rfl : t = 2 := ((nI_eq (a := 2) (b := t) (by decide) (by omega)).mp e2).symm
    obtain rfl : k = 7 := ((nI_eq (a := 7) (b := k) (by decide) (by omega)).mp e3).symm
    rcases h4 with ⟨h, -, -⟩ | ⟨-, -, rfl, rfl⟩
    · exact absurd h (by decide +kernel)
    · exact ⟨rfl, rfl⟩
theorem ust8 {f' : Nat → Nat} {r : Int32} (hU : uq_pull us_s7 f' 3 1 9 r) : f' = us_s8 ∧ r = nI (um_pos us_s7 3 1 9 (us_s7 1)) := by
  have z0 : us_s7 0 ≤ 12 := by decide +kernel
  rcases hU with ⟨h, -, -⟩ | ⟨q, hq, e, ⟨h, -, -⟩ | ⟨t, ht, e2, ⟨h, -, -⟩ | ⟨k, hk, hk9, e3, h4⟩⟩⟩
  · exact absurd h (by decide +kernel)
  · exact absurd h (by decide +kernel)
  · exact absurd h (by decide +kernel)
  · obtain rfl : q = 3 := ((nI_eq (a := 3) (b := q) (by decide) (by omega)).mp e).symm
    obtain rfl : t = 1 := ((nI_eq (a := 1) (b := t) (by decide) (by omega)).mp e2).symm
    obtain rfl : k = 9 := ((nI_eq (a := 9) (b := k) (by decide) (by omega)).mp e3).symm
    rcases h4 with ⟨h, -, -⟩ | ⟨-, -, rfl, rfl⟩
    · exact absurd h (by decide +kernel)
    · exact ⟨rfl, rfl⟩
theorem ust9 {f' : Nat → Nat} {r : Int32} (hU : uq_pull us_s8 f' 0 2 3 r) : f' = us_s9 ∧ r = nI (um_pos us_s8 0 2 3 (us_s8 1)) := by
  have z0 : us_s8 0 ≤ 12 := by decide +kernel
  rcases hU with ⟨h, -, -⟩ | ⟨q, hq, e, ⟨h, -, -⟩ | ⟨t, ht, e2, ⟨h, -, -⟩ | ⟨k, hk, hk9, e3, h4⟩⟩⟩
  · exact absurd h (by decide +kernel)
  · exact absurd h (by decide +kernel)
  · exact absurd h (by decide +kernel)
  · obtain rfl : q = 0 := ((nI_eq (a := 0) (b := q) (by decide) (by omega)).mp e).symm
    obtain rfl : t = 2 := ((nI_eq (a := 2) (b := t) (by decide) (by omega)).mp e2).symm
    obtain rfl : k = 3 := ((nI_eq (a := 3) (b := k) (by decide) (by omega)).mp e3).symm
    rcases h4 with ⟨h, -, -⟩ | ⟨-, -, rfl, rfl⟩
    · exact absurd h (by decide +kernel)
    · exact ⟨rfl, rfl⟩
theorem ust10 {f' : Nat → Nat} {r : Int32} (hU : uq_pull us_s9 f' 2 6 1 r) : f' = us_s10 ∧ r = nI (um_pos us_s9 2 6 1 (us_s9 1)) := by
  have z0 : us_s9 0 ≤ 12 := by decide +kernel
  rcases hU with ⟨h, -, -⟩ | ⟨q, hq, e, ⟨h, -, -⟩ | ⟨t, ht, e2, ⟨h, -, -⟩ | ⟨k, hk, hk9, e3, h4⟩⟩⟩
  · exact absurd h (by decide +kernel)
  · exact absurd h (by decide +kernel)
  · exact absurd h (by decide +kernel)
  · obtain rfl : q = 2 := ((nI_eq (a := 2) (b := q) (by decide) (by omega)).mp e).symm
    obtain rfl : t = 6 := ((nI_eq (a := 6) (b := t) (by decide) (by omega)).mp e2).symm
    obtain rfl : k = 1 := ((nI_eq (a := 1) (b := k) (by decide) (by omega)).mp e3).symm
    rcases h4 with ⟨h, -, -⟩ | ⟨-, -, rfl, rfl⟩
    · exact absurd h (by decide +kernel)
    · exact ⟨rfl, rfl⟩
theorem ust11 {f' : Nat → Nat} {r : Int32} (hU : uq_pull us_s10 f' 1 6 1 r) : f' = us_s11 ∧ r = nI (um_pos us_s10 1 6 1 (us_s10 1)) := by
  have z0 : us_s10 0 ≤ 12 := by decide +kernel
  rcases hU with ⟨h, -, -⟩ | ⟨q, hq, e, ⟨h, -, -⟩ | ⟨t, ht, e2, ⟨h, -, -⟩ | ⟨k, hk, hk9, e3, h4⟩⟩⟩
  · exact absurd h (by decide +kernel)
  · exact absurd h (by decide +kernel)
  · exact absurd h (by decide +kernel)
  · obtain rfl : q = 1 := ((nI_eq (a := 1) (b := q) (by decide) (by omega)).mp e).symm
    obtain rfl : t = 6 := ((nI_eq (a := 6) (b := t) (by decide) (by omega)).mp e2).symm
    obtain rfl : k = 1 := ((nI_eq (a := 1) (b := k) (by decide) (by omega)).mp e3).symm
    rcases h4 with ⟨h, -, -⟩ | ⟨-, -, rfl, rfl⟩
    · exact absurd h (by decide +kernel)
    · exact ⟨rfl, rfl⟩
theorem ust12 {f' : Nat → Nat} {r lr ld lr' ld' : Int32} (hU : uq_ring us_s11 f' r lr ld lr' ld') : f' = us_s12 ∧ r = nI (um_ringR us_s11) := by
  rcases hU with ⟨h, -⟩ | ⟨-, rfl, rfl, -⟩
  · exact absurd h (by decide +kernel)
  · exact ⟨rfl, rfl⟩
theorem ust13 {f' : Nat → Nat} {r : Int32} (hU : uq_hour us_s12 f' r) : f' = us_s13 ∧ r = nI (uq_hr (us_s12 84) (us_s12 1) us_s12).2 := by
  rcases hU with ⟨h, -⟩ | ⟨-, rfl, rfl⟩
  · exact absurd h (by decide +kernel)
  · exact ⟨rfl, rfl⟩
theorem ust14 {f' : Nat → Nat} {r : Int32} (hU : uq_oil us_s13 f' 0 1 r) : f' = us_s14 ∧ r = nI (us_s13 (13 + 6 * 0) - 1) := by
  have z0 : us_s13 0 ≤ 12 := by decide +kernel
  rcases hU with ⟨h, -, -⟩ | ⟨q, hq, e, ⟨h, -, -⟩ | ⟨k, hk, hk9, e3, h4⟩⟩
  · exact absurd h (by decide +kernel)
  · exact absurd h (by decide +kernel)
  · obtain rfl : q = 0 := ((nI_eq (a := 0) (b := q) (by decide) (by omega)).mp e).symm
    obtain rfl : k = 1 := ((nI_eq (a := 1) (b := k) (by decide) (by omega)).mp e3).symm
    rcases h4 with ⟨h, -, -⟩ | ⟨-, rfl, rfl⟩
    · exact absurd h (by decide +kernel)
    · exact ⟨rfl, rfl⟩
theorem us_hL_stock : yL_stock.cls ≠ "java/lang/invoke/MethodHandle" ∧ yL_stock.cls ≠ "java/lang/invoke/VarHandle" ∧ (parseMethodDescriptor yL_stock.desc).map (fun d => d.parameters.length) = some 1 := by decide +kernel
theorem ust_sum : (0 : Int32) < (((((((((nI (us_s0 0)) + (nI (us_s1 0))) + (nI (us_s2 0))) + (nI (us_s3 0))) + (nI (um_sum (fun r' => um_up us_s4 (12 + 6 * 3) 0 (12 + 6 * r')) (us_s4 0)))) + ((((((nI (um_pos us_s5 0 2 5 (us_s5 1))) + (nI (um_pos us_s6 1 2 7 (us_s6 1)))) + (nI (um_pos us_s7 3 1 9 (us_s7 1)))) + (nI (um_pos us_s8 0 2 3 (us_s8 1)))) + (nI (um_pos us_s9 2 6 1 (us_s9 1)))) + (nI (um_pos us_s10 1 6 1 (us_s10 1))))) + (nI (um_ringR us_s11))) + (nI (uq_hr (us_s12 84) (us_s12 1) us_s12).2)) + (nI (us_s13 (13 + 6 * 0) - 1))) := by decide +kernel
set_option maxHeartbeats 4000000 in
set_option maxRecDepth 100000 in
theorem ul_stock (l : Launch) (g : us_G) {sz : Nat} {h0 k : Nat} {hist : List (Nat → Nat)} {sv : Option (Nat → Nat)} {lr ld : Int32} {L : List Nat} {Wo : va_W} (hR : uo_W g h0 k us_s0 hist sv lr ld L Wo) (hk : k + 14 ≤ 2 ^ 20) : Met l yL_stock wsL_stock ({ frames := 6, cells := 252, slots := 3542, locals := 133 } : Room) (va_Pc [.ref h0] (us_pc g Wo sz)) (va_Qi (fun (r : Int32) (u : va_W) => ∃ (hist2 : List (Nat → Nat)) (lr2 ld2 : Int32), uo_W g h0 (k + 14) us_s14 hist2 sv lr2 ld2 L u ∧ 0 < r) (fun u t => ub_pq g.1 u (va_A Wo sz) t) (va_A Wo sz)) 252 3542 (va_A Wo sz) := by
  refine us_met_i (post := (fun (r : Int32) (u : va_W) => ∃ (hist2 : List (Nat → Nat)) (lr2 ld2 : Int32), uo_W g h0 (k + 14) us_s14 hist2 sv lr2 ld2 L u ∧ 0 < r)) (by decide +kernel) (Nat.le_of_ble_eq_true rfl) fun p e s m args below meth c Q A K hret ls hl hP hD hS => ?_
  obtain ⟨hx, hb, hml, hown, hts, hK, hN, hA, hZ⟩ := K
  have hl : lv_has ls 2 [(0, .ref h0)] := hl
  refine lv_aload_n hx hb dL_stock_0 rfl (lv_at hl 0 rfl) ?_
  refine lv_iconst (v := 0) hx hb dL_stock_1 (by decide) ?_
  have hpm : (Wo : va_W).Perm (Wo ++ ([] : va_W)) := List.Perm.of_eq (List.append_nil _).symm
  have hFc := ub_freeP hD hS hA hpm
  obtain ⟨hPc, hDc⟩ := ub_subP hP hD hpm
  refine us_calli (va_runV (As := [.int 0]) (rest := []) ⟨hx, hb, hml, hown, hts⟩ (uo_rope l g hR (x1 := 0) (show k + 1 ≤ 2 ^ 20 by omega)) (cwV 1 hts gu_RL_43 rfl rfl rfl ⟨rfl, uhX8_rope⟩ ⟨Nat.le_of_ble_eq_true rfl, Nat.le_of_ble_eq_true rfl⟩) (us_preO hR hZ hS hFc hPc hDc hK hN) rfl rfl hl.1 rfl (lv_room (Nat.le_of_ble_eq_true rfl)) dL_stock_2 ⟨Nat.le_of_ble_eq_true rfl, Nat.le_of_ble_eq_true rfl⟩) hP hD hS hA hpm (fun r Wo1 H locs hpost hP hD hS => ?_)
  have hP : va_P g.1 vwCl Wo1 H := by
      have h9 := hP
      rw [List.append_nil] at h9
      exact h9
  have hD : va_D A Wo1 := by
      have h9 := hD
      rw [List.append_nil] at h9
      exact h9
  obtain ⟨f1, lr1, ld1, hU, hR⟩ := hpost
  obtain ⟨rfl, rfl⟩ := ust1 hU
  refine lv_aload_n hx hb dL_stock_5 rfl (lv_at hl 0 rfl) ?_
  refine lv_iconst (v := 1) hx hb dL_stock_6 (by decide) ?_
  have hpm : (Wo1 : va_W).Perm (Wo1 ++ ([] : va_W)) := List.Perm.of_eq (List.append_nil _).symm
  have hFc := ub_freeP hD hS hA hpm
  obtain ⟨hPc, hDc⟩ := ub_subP hP hD hpm
  refine us_calli (va_runV (As := [.int 1]) (rest := [.int (nI (us_s0 0))]) ⟨hx, hb, hml, hown, hts⟩ (uo_rope l g hR (x1 := 1) (show k + 1 + 1 ≤ 2 ^ 20 by omega)) (cwV 1 hts gu_RL_43 rfl rfl rfl ⟨rfl, uhX8_rope⟩ ⟨Nat.le_of_ble_eq_true rfl, Nat.le_of_ble_eq_true rfl⟩) (us_preO hR hZ hS hFc hPc hDc hK hN) rfl rfl hl.1 rfl (lv_room (Nat.le_of_ble_eq_true rfl)) dL_stock_7 ⟨Nat.le_of_ble_eq_true rfl, Nat.le_of_ble_eq_true rfl⟩) hP hD hS hA hpm (fun r Wo2 H locs hpost hP hD hS => ?_)
  have hP : va_P g.1 vwCl Wo2 H := by
      have h9 := hP
      rw [List.append_nil] at h9
      exact h9
  have hD : va_D A Wo2 := by
      have h9 := hD
      rw [List.append_nil] at h9
      exact h9
  obtain ⟨f2, lr2, ld2, hU, hR⟩ := hpost
  obtain ⟨rfl, rfl⟩ := ust2 hU
  refine lv_iadd hx hb dL_stock_10 ?_
  refine lv_aload_n hx hb dL_stock_11 rfl (lv_at hl 0 rfl) ?_
  refine lv_iconst (v := 1) hx hb dL_stock_12 (by decide) ?_
  have hpm : (Wo2 : va_W).Perm (Wo2 ++ ([] : va_W)) := List.Perm.of_eq (List.append_nil _).symm
  have hFc := ub_freeP hD hS hA hpm
  obtain ⟨hPc, hDc⟩ := ub_subP hP hD hpm
  refine us_calli (va_runV (As := [.int 1]) (rest := [.int ((nI (us_s0 0)) + (nI (us_s1 0)))]) ⟨hx, hb, hml, hown, hts⟩ (uo_rope l g hR (x1 := 1) (show k + 2 + 1 ≤ 2 ^ 20 by omega)) (cwV 1 hts gu_RL_43 rfl rfl rfl ⟨rfl, uhX8_rope⟩ ⟨Nat.le_of_ble_eq_true rfl, Nat.le_of_ble_eq_true rfl⟩) (us_preO hR hZ hS hFc hPc hDc hK hN) rfl rfl hl.1 rfl (lv_room (Nat.le_of_ble_eq_true rfl)) dL_stock_13 ⟨Nat.le_of_ble_eq_true rfl, Nat.le_of_ble_eq_true rfl⟩) hP hD hS hA hpm (fun r Wo3 H locs hpost hP hD hS => ?_)
  have hP : va_P g.1 vwCl Wo3 H := by
      have h9 := hP
      rw [List.append_nil] at h9
      exact h9
  have hD : va_D A Wo3 := by
      have h9 := hD
      rw [List.append_nil] at h9
      exact h9
  obtain ⟨f3, lr3, ld3, hU, hR⟩ := hpost
  obtain ⟨rfl, rfl⟩ := ust3 hU
  refine lv_iadd hx hb dL_stock_16 ?_
  refine lv_aload_n hx hb dL_stock_17 rfl (lv_at hl 0 rfl) ?_
  refine lv_iconst (v := 2) hx hb dL_stock_18 (by decide) ?_
  have hpm : (Wo3 : va_W).Perm (Wo3 ++ ([] : va_W)) := List.Perm.of_eq (List.append_nil _).symm
  have hFc := ub_freeP hD hS hA hpm
  obtain ⟨hPc, hDc⟩ := ub_subP hP hD hpm
  refine us_calli (va_runV (As := [.int 2]) (rest := [.int (((nI (us_s0 0)) + (nI (us_s1 0))) + (nI (us_s2 0)))]) ⟨hx, hb, hml, hown, hts⟩ (uo_rope l g hR (x1 := 2) (show k + 3 + 1 ≤ 2 ^ 20 by omega)) (cwV 1 hts gu_RL_43 rfl rfl rfl ⟨rfl, uhX8_rope⟩ ⟨Nat.le_of_ble_eq_true rfl, Nat.le_of_ble_eq_true rfl⟩) (us_preO hR hZ hS hFc hPc hDc hK hN) rfl rfl hl.1 rfl (lv_room (Nat.le_of_ble_eq_true rfl)) dL_stock_19 ⟨Nat.le_of_ble_eq_true rfl, Nat.le_of_ble_eq_true rfl⟩) hP hD hS hA hpm (fun r Wo4 H locs hpost hP hD hS => ?_)
  have hP : va_P g.1 vwCl Wo4 H := by
      have h9 := hP
      rw [List.append_nil] at h9
      exact h9
  have hD : va_D A Wo4 := by
      have h9 := hD
      rw [List.append_nil] at h9
      exact h9
  obtain ⟨f4, lr4, ld4, hU, hR⟩ := hpost
  obtain ⟨rfl, rfl⟩ := ust4 hU
  refine lv_iadd hx hb dL_stock_22 ?_
  refine lv_aload_n hx hb dL_stock_23 rfl (lv_at hl 0 rfl) ?_
  refine lv_iconst (v := 3) hx hb dL_stock_24 (by decide) ?_
  refine lv_iconst (v := 0) hx hb dL_stock_25 (by decide) ?_
  have hpm : (Wo4 : va_W).Perm (Wo4 ++ ([] : va_W)) := List.Perm.of_eq (List.append_nil _).symm
  have hFc := ub_freeP hD hS hA hpm
  obtain ⟨hPc, hDc⟩ := ub_subP hP hD hpm
  refine us_calli (va_runV (As := [.int 3, .int 0]) (rest := [.int ((((nI (us_s0 0)) + (nI (us_s1 0))) + (nI (us_s2 0))) + (nI (us_s3 0)))]) ⟨hx, hb, hml, hown, hts⟩ (uo_sensor l g hR (x1 := 3) (x2 := 0) (show k + 4 + 1 ≤ 2 ^ 20 by omega)) (cwV 2 hts gu_RL_49 rfl rfl rfl ⟨rfl, uhX8_sensor⟩ ⟨Nat.le_of_ble_eq_true rfl, Nat.le_of_ble_eq_true rfl⟩) (us_preO hR hZ hS hFc hPc hDc hK hN) rfl rfl hl.1 rfl (lv_room (Nat.le_of_ble_eq_true rfl)) dL_stock_26 ⟨Nat.le_of_ble_eq_true rfl, Nat.le_of_ble_eq_true rfl⟩) hP hD hS hA hpm (fun r Wo5 H locs hpost hP hD hS => ?_)
  have hP : va_P g.1 vwCl Wo5 H := by
      have h9 := hP
      rw [List.append_nil] at h9
      exact h9
  have hD : va_D A Wo5 := by
      have h9 := hD
      rw [List.append_nil] at h9
      exact h9
  obtain ⟨f5, lr5, ld5, hU, hR⟩ := hpost
  obtain ⟨rfl, rfl⟩ := ust5 hU
  refine lv_iadd hx hb dL_stock_29 ?_
  refine lv_istore_n (lv' := [(1, .int (((((nI (us_s0 0)) + (nI (us_s1 0))) + (nI (us_s2 0))) + (nI (us_s3 0))) + (nI (um_sum (fun r' => um_up us_s4 (12 + 6 * 3) 0 (12 + 6 * r')) (us_s4 0))))), (0, .ref h0)]) hx hb dL_stock_30 rfl hl (by decide) rfl (fun ls hl => ?_)
  refine lv_iload_n hx hb dL_stock_31 rfl (lv_at hl 0 rfl) ?_
  refine lv_aload_n hx hb dL_stock_32 rfl (lv_at hl 1 rfl) ?_
  refine lv_iconst (v := 0) hx hb dL_stock_33 (by decide) ?_
  refine lv_iconst (v := 2) hx hb dL_stock_34 (by decide) ?_
  refine lv_iconst (v := 5) hx hb dL_stock_35 (by decide) ?_
  have hpm : (Wo5 : va_W).Perm (Wo5 ++ ([] : va_W)) := List.Perm.of_eq (List.append_nil _).symm
  have hFc := ub_freeP hD hS hA hpm
  obtain ⟨hPc, hDc⟩ := ub_subP hP hD hpm
  refine us_calli (va_runV (As := [.int 0, .int 2, .int 5]) (rest := [.int (((((nI (us_s0 0)) + (nI (us_s1 0))) + (nI (us_s2 0))) + (nI (us_s3 0))) + (nI (um_sum (fun r' => um_up us_s4 (12 + 6 * 3) 0 (12 + 6 * r')) (us_s4 0))))]) ⟨hx, hb, hml, hown, hts⟩ (uo_pull l g hR (x1 := 0) (x2 := 2) (x3 := 5) (show k + 5 + 1 ≤ 2 ^ 20 by omega)) (cwV 3 hts gu_RL_55 rfl rfl rfl ⟨rfl, uhX8_pull⟩ ⟨Nat.le_of_ble_eq_true rfl, Nat.le_of_ble_eq_true rfl⟩) (us_preO hR hZ hS hFc hPc hDc hK hN) rfl rfl hl.1 rfl (lv_room (Nat.le_of_ble_eq_true rfl)) dL_stock_36 ⟨Nat.le_of_ble_eq_true rfl, Nat.le_of_ble_eq_true rfl⟩) hP hD hS hA hpm (fun r Wo6 H locs hpost hP hD hS => ?_)
  have hP : va_P g.1 vwCl Wo6 H := by
      have h9 := hP
      rw [List.append_nil] at h9
      exact h9
  have hD : va_D A Wo6 := by
      have h9 := hD
      rw [List.append_nil] at h9
      exact h9
  obtain ⟨f6, lr6, ld6, hU, hR⟩ := hpost
  obtain ⟨rfl, rfl⟩ := ust6 hU
  refine lv_aload_n hx hb dL_stock_39 rfl (lv_at hl 1 rfl) ?_
  refine lv_iconst (v := 1) hx hb dL_stock_40 (by decide) ?_
  refine lv_iconst (v := 2) hx hb dL_stock_41 (by decide) ?_
  refine lv_bipush (v := 7) hx hb dL_stock_42 (by decide) ?_
  have hpm : (Wo6 : va_W).Perm (Wo6 ++ ([] : va_W)) := List.Perm.of_eq (List.append_nil _).symm
  have hFc := ub_freeP hD hS hA hpm
  obtain ⟨hPc, hDc⟩ := ub_subP hP hD hpm
  refine us_calli (va_runV (As := [.int 1, .int 2, .int 7]) (rest := [.int (nI (um_pos us_s5 0 2 5 (us_s5 1))), .int (((((nI (us_s0 0)) + (nI (us_s1 0))) + (nI (us_s2 0))) + (nI (us_s3 0))) + (nI (um_sum (fun r' => um_up us_s4 (12 + 6 * 3) 0 (12 + 6 * r')) (us_s4 0))))]) ⟨hx, hb, hml, hown, hts⟩ (uo_pull l g hR (x1 := 1) (x2 := 2) (x3 := 7) (show k + 6 + 1 ≤ 2 ^ 20 by omega)) (cwV 3 hts gu_RL_55 rfl rfl rfl ⟨rfl, uhX8_pull⟩ ⟨Nat.le_of_ble_eq_true rfl, Nat.le_of_ble_eq_true rfl⟩) (us_preO hR hZ hS hFc hPc hDc hK hN) rfl rfl hl.1 rfl (lv_room (Nat.le_of_ble_eq_true rfl)) dL_stock_44 ⟨Nat.le_of_ble_eq_true rfl, Nat.le_of_ble_eq_true rfl⟩) hP hD hS hA hpm (fun r Wo7 H locs hpost hP hD hS => ?_)
  have hP : va_P g.1 vwCl Wo7 H := by
      have h9 := hP
      rw [List.append_nil] at h9
      exact h9
  have hD : va_D A Wo7 := by
      have h9 := hD
      rw [List.append_nil] at h9
      exact h9
  obtain ⟨f7, lr7, ld7, hU, hR⟩ := hpost
  obtain ⟨rfl, rfl⟩ := ust7 hU
  refine lv_iadd hx hb dL_stock_47 ?_
  refine lv_aload_n hx hb dL_stock_48 rfl (lv_at hl 1 rfl) ?_
  refine lv_iconst (v := 3) hx hb dL_stock_49 (by decide) ?_
  refine lv_iconst (v := 1) hx hb dL_stock_50 (by decide) ?_
  refine lv_bipush (v := 9) hx hb dL_stock_51 (by decide) ?_
  have hpm : (Wo7 : va_W).Perm (Wo7 ++ ([] : va_W)) := List.Perm.of_eq (List.append_nil _).symm
  have hFc := ub_freeP hD hS hA hpm
  obtain ⟨hPc, hDc⟩ := ub_subP hP hD hpm
  refine us_calli (va_runV (As := [.int 3, .int 1, .int 9]) (rest := [.int ((nI (um_pos us_s5 0 2 5 (us_s5 1))) + (nI (um_pos us_s6 1 2 7 (us_s6 1)))), .int (((((nI (us_s0 0)) + (nI (us_s1 0))) + (nI (us_s2 0))) + (nI (us_s3 0))) + (nI (um_sum (fun r' => um_up us_s4 (12 + 6 * 3) 0 (12 + 6 * r')) (us_s4 0))))]) ⟨hx, hb, hml, hown, hts⟩ (uo_pull l g hR (x1 := 3) (x2 := 1) (x3 := 9) (show k + 7 + 1 ≤ 2 ^ 20 by omega)) (cwV 3 hts gu_RL_55 rfl rfl rfl ⟨rfl, uhX8_pull⟩ ⟨Nat.le_of_ble_eq_true rfl, Nat.le_of_ble_eq_true rfl⟩) (us_preO hR hZ hS hFc hPc hDc hK hN) rfl rfl hl.1 rfl (lv_room (Nat.le_of_ble_eq_true rfl)) dL_stock_53 ⟨Nat.le_of_ble_eq_true rfl, Nat.le_of_ble_eq_true rfl⟩) hP hD hS hA hpm (fun r Wo8 H locs hpost hP hD hS => ?_)
  have hP : va_P g.1 vwCl Wo8 H := by
      have h9 := hP
      rw [List.append_nil] at h9
      exact h9
  have hD : va_D A Wo8 := by
      have h9 := hD
      rw [List.append_nil] at h9
      exact h9
  obtain ⟨f8, lr8, ld8, hU, hR⟩ := hpost
  obtain ⟨rfl, rfl⟩ := ust8 hU
  refine lv_iadd hx hb dL_stock_56 ?_
  refine lv_aload_n hx hb dL_stock_57 rfl (lv_at hl 1 rfl) ?_
  refine lv_iconst (v := 0) hx hb dL_stock_58 (by decide) ?_
  refine lv_iconst (v := 2) hx hb dL_stock_59 (by decide) ?_
  refine lv_iconst (v := 3) hx hb dL_stock_60 (by decide) ?_
  have hpm : (Wo8 : va_W).Perm (Wo8 ++ ([] : va_W)) := List.Perm.of_eq (List.append_nil _).symm
  have hFc := ub_freeP hD hS hA hpm
  obtain ⟨hPc, hDc⟩ := ub_subP hP hD hpm
  refine us_calli (va_runV (As := [.int 0, .int 2, .int 3]) (rest := [.int (((nI (um_pos us_s5 0 2 5 (us_s5 1))) + (nI (um_pos us_s6 1 2 7 (us_s6 1)))) + (nI (um_pos us_s7 3 1 9 (us_s7 1)))), .int (((((nI (us_s0 0)) + (nI (us_s1 0))) + (nI (us_s2 0))) + (nI (us_s3 0))) + (nI (um_sum (fun r' => um_up us_s4 (12 + 6 * 3) 0 (12 + 6 * r')) (us_s4 0))))]) ⟨hx, hb, hml, hown, hts⟩ (uo_pull l g hR (x1 := 0) (x2 := 2) (x3 := 3) (show k + 8 + 1 ≤ 2 ^ 20 by omega)) (cwV 3 hts gu_RL_55 rfl rfl rfl ⟨rfl, uhX8_pull⟩ ⟨Nat.le_of_ble_eq_true rfl, Nat.le_of_ble_eq_true rfl⟩) (us_preO hR hZ hS hFc hPc hDc hK hN) rfl rfl hl.1 rfl (lv_room (Nat.le_of_ble_eq_true rfl)) dL_stock_61 ⟨Nat.le_of_ble_eq_true rfl, Nat.le_of_ble_eq_true rfl⟩) hP hD hS hA hpm (fun r Wo9 H locs hpost hP hD hS => ?_)
  have hP : va_P g.1 vwCl Wo9 H := by
      have h9 := hP
      rw [List.append_nil] at h9
      exact h9
  have hD : va_D A Wo9 := by
      have h9 := hD
      rw [List.append_nil] at h9
      exact h9
  obtain ⟨f9, lr9, ld9, hU, hR⟩ := hpost
  obtain ⟨rfl, rfl⟩ := ust9 hU
  refine lv_iadd hx hb dL_stock_64 ?_
  refine lv_aload_n hx hb dL_stock_65 rfl (lv_at hl 1 rfl) ?_
  refine lv_iconst (v := 2) hx hb dL_stock_66 (by decide) ?_
  refine lv_bipush (v := 6) hx hb dL_stock_67 (by decide) ?_
  refine lv_iconst (v := 1) hx hb dL_stock_69 (by decide) ?_
  have hpm : (Wo9 : va_W).Perm (Wo9 ++ ([] : va_W)) := List.Perm.of_eq (List.append_nil _).symm
  have hFc := ub_freeP hD hS hA hpm
  obtain ⟨hPc, hDc⟩ := ub_subP hP hD hpm
  refine us_calli (va_runV (As := [.int 2, .int 6, .int 1]) (rest := [.int ((((nI (um_pos us_s5 0 2 5 (us_s5 1))) + (nI (um_pos us_s6 1 2 7 (us_s6 1)))) + (nI (um_pos us_s7 3 1 9 (us_s7 1)))) + (nI (um_pos us_s8 0 2 3 (us_s8 1)))), .int (((((nI (us_s0 0)) + (nI (us_s1 0))) + (nI (us_s2 0))) + (nI (us_s3 0))) + (nI (um_sum (fun r' => um_up us_s4 (12 + 6 * 3) 0 (12 + 6 * r')) (us_s4 0))))]) ⟨hx, hb, hml, hown, hts⟩ (uo_pull l g hR (x1 := 2) (x2 := 6) (x3 := 1) (show k + 9 + 1 ≤ 2 ^ 20 by omega)) (cwV 3 hts gu_RL_55 rfl rfl rfl ⟨rfl, uhX8_pull⟩ ⟨Nat.le_of_ble_eq_true rfl, Nat.le_of_ble_eq_true rfl⟩) (us_preO hR hZ hS hFc hPc hDc hK hN) rfl rfl hl.1 rfl (lv_room (Nat.le_of_ble_eq_true rfl)) dL_stock_70 ⟨Nat.le_of_ble_eq_true rfl, Nat.le_of_ble_eq_true rfl⟩) hP hD hS hA hpm (fun r Wo10 H locs hpost hP hD hS => ?_)
  have hP : va_P g.1 vwCl Wo10 H := by
      have h9 := hP
      rw [List.append_nil] at h9
      exact h9
  have hD : va_D A Wo10 := by
      have h9 := hD
      rw [List.append_nil] at h9
      exact h9
  obtain ⟨f10, lr10, ld10, hU, hR⟩ := hpost
  obtain ⟨rfl, rfl⟩ := ust10 hU
  refine lv_iadd hx hb dL_stock_73 ?_
  refine lv_aload_n hx hb dL_stock_74 rfl (lv_at hl 1 rfl) ?_
  refine lv_iconst (v := 1) hx hb dL_stock_75 (by decide) ?_
  refine lv_bipush (v := 6) hx hb dL_stock_76 (by decide) ?_
  refine lv_iconst (v := 1) hx hb dL_stock_78 (by decide) ?_
  have hpm : (Wo10 : va_W).Perm (Wo10 ++ ([] : va_W)) := List.Perm.of_eq (List.append_nil _).symm
  have hFc := ub_freeP hD hS hA hpm
  obtain ⟨hPc, hDc⟩ := ub_subP hP hD hpm
  refine us_calli (va_runV (As := [.int 1, .int 6, .int 1]) (rest := [.int (((((nI (um_pos us_s5 0 2 5 (us_s5 1))) + (nI (um_pos us_s6 1 2 7 (us_s6 1)))) + (nI (um_pos us_s7 3 1 9 (us_s7 1)))) + (nI (um_pos us_s8 0 2 3 (us_s8 1)))) + (nI (um_pos us_s9 2 6 1 (us_s9 1)))), .int (((((nI (us_s0 0)) + (nI (us_s1 0))) + (nI (us_s2 0))) + (nI (us_s3 0))) + (nI (um_sum (fun r' => um_up us_s4 (12 + 6 * 3) 0 (12 + 6 * r')) (us_s4 0))))]) ⟨hx, hb, hml, hown, hts⟩ (uo_pull l g hR (x1 := 1) (x2 := 6) (x3 := 1) (show k + 10 + 1 ≤ 2 ^ 20 by omega)) (cwV 3 hts gu_RL_55 rfl rfl rfl ⟨rfl, uhX8_pull⟩ ⟨Nat.le_of_ble_eq_true rfl, Nat.le_of_ble_eq_true rfl⟩) (us_preO hR hZ hS hFc hPc hDc hK hN) rfl rfl hl.1 rfl (lv_room (Nat.le_of_ble_eq_true rfl)) dL_stock_79 ⟨Nat.le_of_ble_eq_true rfl, Nat.le_of_ble_eq_true rfl⟩) hP hD hS hA hpm (fun r Wo11 H locs hpost hP hD hS => ?_)
  have hP : va_P g.1 vwCl Wo11 H := by
      have h9 := hP
      rw [List.append_nil] at h9
      exact h9
  have hD : va_D A Wo11 := by
      have h9 := hD
      rw [List.append_nil] at h9
      exact h9
  obtain ⟨f11, lr11, ld11, hU, hR⟩ := hpost
  obtain ⟨rfl, rfl⟩ := ust11 hU
  refine lv_iadd hx hb dL_stock_82 ?_
  refine lv_iadd hx hb dL_stock_83 ?_
  refine lv_istore_n (lv' := [(1, .int ((((((nI (us_s0 0)) + (nI (us_s1 0))) + (nI (us_s2 0))) + (nI (us_s3 0))) + (nI (um_sum (fun r' => um_up us_s4 (12 + 6 * 3) 0 (12 + 6 * r')) (us_s4 0)))) + ((((((nI (um_pos us_s5 0 2 5 (us_s5 1))) + (nI (um_pos us_s6 1 2 7 (us_s6 1)))) + (nI (um_pos us_s7 3 1 9 (us_s7 1)))) + (nI (um_pos us_s8 0 2 3 (us_s8 1)))) + (nI (um_pos us_s9 2 6 1 (us_s9 1)))) + (nI (um_pos us_s10 1 6 1 (us_s10 1)))))), (0, .ref h0)]) hx hb dL_stock_84 rfl hl (by decide) rfl (fun ls hl => ?_)
  refine lv_iload_n hx hb dL_stock_85 rfl (lv_at hl 0 rfl) ?_
  refine lv_aload_n hx hb dL_stock_86 rfl (lv_at hl 1 rfl) ?_
  have hpm : (Wo11 : va_W).Perm (Wo11 ++ ([] : va_W)) := List.Perm.of_eq (List.append_nil _).symm
  have hFc := ub_freeP hD hS hA hpm
  obtain ⟨hPc, hDc⟩ := ub_subP hP hD hpm
  refine us_calli (va_runV (As := []) (rest := [.int ((((((nI (us_s0 0)) + (nI (us_s1 0))) + (nI (us_s2 0))) + (nI (us_s3 0))) + (nI (um_sum (fun r' => um_up us_s4 (12 + 6 * 3) 0 (12 + 6 * r')) (us_s4 0)))) + ((((((nI (um_pos us_s5 0 2 5 (us_s5 1))) + (nI (um_pos us_s6 1 2 7 (us_s6 1)))) + (nI (um_pos us_s7 3 1 9 (us_s7 1)))) + (nI (um_pos us_s8 0 2 3 (us_s8 1)))) + (nI (um_pos us_s9 2 6 1 (us_s9 1)))) + (nI (um_pos us_s10 1 6 1 (us_s10 1)))))]) ⟨hx, hb, hml, hown, hts⟩ (uo_ring l g hR  (show k + 11 + 1 ≤ 2 ^ 20 by omega)) (cwV 0 hts gu_RL_62 rfl rfl rfl ⟨rfl, uhX8_ring⟩ ⟨Nat.le_of_ble_eq_true rfl, Nat.le_of_ble_eq_true rfl⟩) (us_preO hR hZ hS hFc hPc hDc hK hN) rfl rfl hl.1 rfl (lv_room (Nat.le_of_ble_eq_true rfl)) dL_stock_87 ⟨Nat.le_of_ble_eq_true rfl, Nat.le_of_ble_eq_true rfl⟩) hP hD hS hA hpm (fun r Wo12 H locs hpost hP hD hS => ?_)
  have hP : va_P g.1 vwCl Wo12 H := by
      have h9 := hP
      rw [List.append_nil] at h9
      exact h9
  have hD : va_D A Wo12 := by
      have h9 := hD
      rw [List.append_nil] at h9
      exact h9
  obtain ⟨f12, lr12, ld12, hU, hR⟩ := hpost
  obtain ⟨rfl, rfl⟩ := ust12 hU
  refine lv_iadd hx hb dL_stock_90 ?_
  refine lv_aload_n hx hb dL_stock_91 rfl (lv_at hl 1 rfl) ?_
  have hpm : (Wo12 : va_W).Perm (Wo12 ++ ([] : va_W)) := List.Perm.of_eq (List.append_nil _).symm
  have hFc := ub_freeP hD hS hA hpm
  obtain ⟨hPc, hDc⟩ := ub_subP hP hD hpm
  refine us_calli (va_runV (As := []) (rest := [.int (((((((nI (us_s0 0)) + (nI (us_s1 0))) + (nI (us_s2 0))) + (nI (us_s3 0))) + (nI (um_sum (fun r' => um_up us_s4 (12 + 6 * 3) 0 (12 + 6 * r')) (us_s4 0)))) + ((((((nI (um_pos us_s5 0 2 5 (us_s5 1))) + (nI (um_pos us_s6 1 2 7 (us_s6 1)))) + (nI (um_pos us_s7 3 1 9 (us_s7 1)))) + (nI (um_pos us_s8 0 2 3 (us_s8 1)))) + (nI (um_pos us_s9 2 6 1 (us_s9 1)))) + (nI (um_pos us_s10 1 6 1 (us_s10 1))))) + (nI (um_ringR us_s11)))]) ⟨hx, hb, hml, hown, hts⟩ (uo_hour l g hR  (show k + 12 + 1 ≤ 2 ^ 20 by omega)) (cwV 0 hts gu_RL_65 rfl rfl rfl ⟨rfl, uhX8_hour⟩ ⟨Nat.le_of_ble_eq_true rfl, Nat.le_of_ble_eq_true rfl⟩) (us_preO hR hZ hS hFc hPc hDc hK hN) rfl rfl hl.1 rfl (lv_room (Nat.le_of_ble_eq_true rfl)) dL_stock_92 ⟨Nat.le_of_ble_eq_true rfl, Nat.le_of_ble_eq_true rfl⟩) hP hD hS hA hpm (fun r Wo13 H locs hpost hP hD hS => ?_)
  have hP : va_P g.1 vwCl Wo13 H := by
      have h9 := hP
      rw [List.append_nil] at h9
      exact h9
  have hD : va_D A Wo13 := by
      have h9 := hD
      rw [List.append_nil] at h9
      exact h9
  obtain ⟨f13, lr13, ld13, hU, hR⟩ := hpost
  obtain ⟨rfl, rfl⟩ := ust13 hU
  refine lv_iadd hx hb dL_stock_95 ?_
  refine lv_aload_n hx hb dL_stock_96 rfl (lv_at hl 1 rfl) ?_
  refine lv_iconst (v := 0) hx hb dL_stock_97 (by decide) ?_
  refine lv_iconst (v := 1) hx hb dL_stock_98 (by decide) ?_
  have hpm : (Wo13 : va_W).Perm (Wo13 ++ ([] : va_W)) := List.Perm.of_eq (List.append_nil _).symm
  have hFc := ub_freeP hD hS hA hpm
  obtain ⟨hPc, hDc⟩ := ub_subP hP hD hpm
  refine us_calli (va_runV (As := [.int 0, .int 1]) (rest := [.int ((((((((nI (us_s0 0)) + (nI (us_s1 0))) + (nI (us_s2 0))) + (nI (us_s3 0))) + (nI (um_sum (fun r' => um_up us_s4 (12 + 6 * 3) 0 (12 + 6 * r')) (us_s4 0)))) + ((((((nI (um_pos us_s5 0 2 5 (us_s5 1))) + (nI (um_pos us_s6 1 2 7 (us_s6 1)))) + (nI (um_pos us_s7 3 1 9 (us_s7 1)))) + (nI (um_pos us_s8 0 2 3 (us_s8 1)))) + (nI (um_pos us_s9 2 6 1 (us_s9 1)))) + (nI (um_pos us_s10 1 6 1 (us_s10 1))))) + (nI (um_ringR us_s11))) + (nI (uq_hr (us_s12 84) (us_s12 1) us_s12).2))]) ⟨hx, hb, hml, hown, hts⟩ (uo_oil l g hR (x1 := 0) (x2 := 1) (show k + 13 + 1 ≤ 2 ^ 20 by omega)) (cwV 2 hts gu_RL_68 rfl rfl rfl ⟨rfl, uhX8_oil⟩ ⟨Nat.le_of_ble_eq_true rfl, Nat.le_of_ble_eq_true rfl⟩) (us_preO hR hZ hS hFc hPc hDc hK hN) rfl rfl hl.1 rfl (lv_room (Nat.le_of_ble_eq_true rfl)) dL_stock_99 ⟨Nat.le_of_ble_eq_true rfl, Nat.le_of_ble_eq_true rfl⟩) hP hD hS hA hpm (fun r Wo14 H locs hpost hP hD hS => ?_)
  have hP : va_P g.1 vwCl Wo14 H := by
      have h9 := hP
      rw [List.append_nil] at h9
      exact h9
  have hD : va_D A Wo14 := by
      have h9 := hD
      rw [List.append_nil] at h9
      exact h9
  obtain ⟨f14, lr14, ld14, hU, hR⟩ := hpost
  obtain ⟨rfl, rfl⟩ := ust14 hU
  refine lv_iadd hx hb dL_stock_102 ?_
  exact hret _ _ H locs _ ls ⟨_, _, _, hR, ust_sum⟩ dL_stock_103 rfl hP hD hS

