/-! ===== the pulls, one by one, are rings ===== -/
theorem up_out {f : Nat → Nat} {q : Nat} (h83 : f 83 < 12) (h : q = 0 ∨ ∃ r, r < 12 ∧ (q = 11 + 6 * r ∨ q = 12 + 6 * r)) : um_ringF f q = f q := by
  have h9 : q = 0 ∨ (11 ≤ q ∧ q < 83 ∧ ((q - 11) % 6 = 0 ∨ (q - 11) % 6 = 1)) := by
    rcases h with h | ⟨r, h1, h2⟩ <;> omega
  unfold um_ringF um_ansF
  split
  · rw [um_up_ne (by omega), um_up_ne (by omega), um_ring2_at (by omega)]
  · split
    · rw [um_up_ne (by omega), um_up_ne (by omega), um_up_ne (by omega), um_up_ne (by omega), um_up_ne (by omega), um_mix_out (by omega), um_up_ne (by omega), um_up_ne (by omega), um_up_ne (by omega), um_up_ne (by omega), um_ring2_at (by omega)]
    · rw [um_up_ne (by omega), um_up_ne (by omega), um_ring2_at (by omega)]
theorem up_s : ∀ (k : Nat) (f : Nat → Nat), um_rings (k + 1) f = um_ringF (um_rings k f)
  | 0, _ => rfl
  | k + 1, f => up_s k (um_ringF f)
theorem up_fc : ∀ (k : Nat) (f : Nat → Nat), um_fc (k + 1) f = um_fc k f + um_b2n (decide (um_ringR (um_rings k f) = 1))
  | 0, f => by
    rw [um_fc, um_fc, um_fc, um_rings]
    omega
  | k + 1, f => by
    have h := up_fc k (um_ringF f)
    rw [um_fc, h, um_fc, um_rings]
    omega
theorem up_fc_le : ∀ (k : Nat) (f : Nat → Nat), um_fc k f ≤ k
  | 0, _ => Nat.le_refl 0
  | k + 1, f => by
    have h := up_fc_le k f
    have h2 := um_b2n_lt (b := decide (um_ringR (um_rings k f) = 1))
    rw [up_fc]
    omega
theorem up_all {f : Nat → Nat} {c : Nat} (hI : um_I f c) : ∀ k, k ≤ f 1 → um_I (um_rings k f) c ∧ um_rings k f 1 = f 1 - k ∧ um_rings k f 0 = f 0 ∧ (∀ r, r < 12 → um_rings k f (11 + 6 * r) = f (11 + 6 * r) ∧ um_rings k f (12 + 6 * r) = f (12 + 6 * r)) ∧ (∀ j i, i < 3 → j + k < 16 → um_rings k f (83 + 3 * j + i) = f (83 + 3 * (j + k) + i))
  | 0, _ => ⟨hI, rfl, rfl, fun r hr => ⟨rfl, rfl⟩, fun j i hi hj => rfl⟩
  | k + 1, hk => by
    obtain ⟨h1, h2, h3, h4, h5⟩ := up_all hI k (by omega)
    have h12 := h1.2.1
    have h83 : um_rings k f 83 < 12 := by
      have := (h1.2.2.2.2.2.2.2.2.2.2.2.2.2.2.1 0 (by omega)).1
      have e : um_rings k f (83 + 3 * 0) = um_rings k f 83 := rfl
      omega
    rw [up_s]
    refine ⟨um_I_ring h1 (by omega), by rw [um_ringF_1, h2]; omega, by rw [up_out h83 (Or.inl rfl), h3], fun r hr => ⟨?_, ?_⟩, fun j i hi hj => ?_⟩
    · rw [up_out h83 (Or.inr ⟨r, hr, Or.inl rfl⟩)]
      exact (h4 r hr).1
    · rw [up_out h83 (Or.inr ⟨r, hr, Or.inr rfl⟩)]
      exact (h4 r hr).2
    · rw [um_ringF_p (by omega) h83, show 83 + 3 * j + i + 3 = 83 + 3 * (j + 1) + i by omega, h5 (j + 1) i hi (by omega), show j + 1 + k = j + (k + 1) by omega]
theorem up_first {f : Nat → Nat} {c k : Nat} (hI : um_I f c) (hk : k < f 1) : um_rings k f 83 = f (83 + 3 * k) ∧ um_rings k f 84 = f (84 + 3 * k) ∧ um_rings k f 85 = f (85 + 3 * k) := by
  obtain ⟨h1, h2, h3, h4, h5⟩ := up_all hI k (by omega)
  have h16 := hI.2.2.1
  have g0 := h5 0 0 (by decide) (by omega)
  have g1 := h5 0 1 (by decide) (by omega)
  have g2 := h5 0 2 (by decide) (by omega)
  refine ⟨?_, ?_, ?_⟩
  · rw [show 83 = 83 + 3 * 0 + 0 from rfl, g0]
    congr 1
    omega
  · rw [show 84 = 83 + 3 * 0 + 1 from rfl, g1]
    congr 1
    omega
  · rw [show 85 = 83 + 3 * 0 + 2 from rfl, g2]
    congr 1
    omega
theorem up_is {f : Nat → Nat} {c k : Nat} (hI : um_I f c) (hk : k < f 1) : um_ringR (um_rings k f) = 1 ↔ (¬ (um_rings k f (211 + f (84 + 3 * k))).testBit (f (83 + 3 * k)) = true ∧ f (12 + 6 * f (83 + 3 * k)) = 1 ∧ um_rings k f (13 + 6 * f (83 + 3 * k)) < f (85 + 3 * k)) := by
  obtain ⟨e1, e2, e3⟩ := up_first hI hk
  obtain ⟨h1, h2, h3, h4, h5⟩ := up_all hI k (by omega)
  have hr : f (83 + 3 * k) < 12 := by
    have := (hI.2.2.2.2.2.2.2.2.2.2.2.2.2.2.1 k hk).1
    have := hI.2.1
    omega
  unfold um_ringR
  rw [e1, e2, e3, (h4 _ hr).2]
  split
  · rename_i h
    exact ⟨fun z => absurd z (by decide), fun z => absurd h z.1⟩
  · rename_i h
    split
    · rename_i h2
      exact ⟨fun _ => ⟨h, h2.1, h2.2⟩, fun _ => rfl⟩
    · rename_i h2
      exact ⟨fun z => absurd z (by decide), fun z => absurd ⟨z.2.1, z.2.2⟩ h2⟩
theorem up_read {f : Nat → Nat} {c k : Nat} (hI : um_I f c) (hk : k < f 1) :
    (∀ r, r < 12 → um_rings (k + 1) f (13 + 6 * r) = if um_ringR (um_rings k f) = 1 ∧ r = f (83 + 3 * k) then (if 9 ≤ um_rings k f (13 + 6 * r) then 9 else um_rings k f (13 + 6 * r) + 1) else um_rings k f (13 + 6 * r)) ∧
    (∀ h, h < 24 → um_rings (k + 1) f (211 + h) = if um_ringR (um_rings k f) = 1 ∧ h = f (84 + 3 * k) then um_rings k f (211 + h) ||| 2 ^ f (83 + 3 * k) else um_rings k f (211 + h)) := by
  obtain ⟨e1, e2, e3⟩ := up_first hI hk
  have hq := hI.2.2.2.2.2.2.2.2.2.2.2.2.2.2.1 k hk
  have := hI.2.1
  obtain ⟨-, -, -, -, -, -, g1, g2⟩ := um_ring_read (f := um_rings k f) (by omega) (by omega)
  rw [e1] at g1 g2
  rw [e2] at g2
  rw [up_s]
  exact ⟨fun r hr => (g1 r hr).1, g2⟩
theorem up_a {a : Nat → Int32} {g g' : Nat → Nat} {n P : Nat} {x : Int32} (h : ∀ r, r < n → a r = nI (g r)) (hP : x = nI (g' P)) (hne : ∀ r, r < n → r ≠ P → g' r = g r) : ∀ r, r < n → upd a P x r = nI (g' r) := by
  intro r hr
  by_cases e : r = P
  · rw [e, um_upd_at, hP]
  · rw [um_upd_other e, h r hr, hne r hr e]
theorem up_b {a : Nat → Int32} {g : Nat → Nat} {i : Nat} {x : Int32} (h : ∀ r, r < i → a r = nI (g r)) (hx : x = nI (g i)) : ∀ r, r < i + 1 → upd a i x r = nI (g r) := by
  intro r hr
  by_cases e : r = i
  · rw [e, um_upd_at, hx]
  · rw [um_upd_other e, h r (by omega)]
theorem up_min {R : Nat} (h : R ≤ 9) : (if nI (R + 1) < 9 then nI (R + 1) else 9) = nI (if 9 ≤ R then 9 else R + 1) := by
  by_cases e : 9 ≤ R
  · rw [if_pos e, if_neg (show ¬ nI (R + 1) < (9 : Int32) from nI_nlt (a := R + 1) (b := 9) (by omega) (by omega))]
    rfl
  · rw [if_neg e]
    by_cases e2 : R = 8
    · rw [e2]
      rfl
    · rw [if_pos (show nI (R + 1) < (9 : Int32) from nI_lt (a := R + 1) (b := 9) (by omega) (by decide))]
theorem us_hL_pulls : yL_pulls.cls ≠ "java/lang/invoke/MethodHandle" ∧ yL_pulls.cls ≠ "java/lang/invoke/VarHandle" ∧ (parseMethodDescriptor yL_pulls.desc).map (fun d => d.parameters.length) = some 1 := by decide +kernel
set_option maxHeartbeats 4000000 in
set_option maxRecDepth 100000 in
theorem ul_pulls (l : Launch) (g : us_G) {sz : Nat} {h0 k : Nat} {f : Nat → Nat} {hist : List (Nat → Nat)} {sv : Option (Nat → Nat)} {lr ld : Int32} {L : List Nat} {Wo : va_W} (hR : uo_W g h0 k f hist sv lr ld L Wo) (hJ : uJ f) : Met l yL_pulls wsL_pulls ({ frames := 5, cells := 2, slots := 36, locals := 112 } : Room) (va_Pc [.ref h0] (us_pc g Wo sz)) (va_Qi (fun (r : Int32) (u : va_W) => r = 1 ∧ uo_W g h0 k f hist sv lr ld L u) (fun u t => ub_pq g.1 u (va_A Wo sz) t) (va_A Wo sz)) 2 36 (va_A Wo sz) := by
  refine us_met_i (y := yL_pulls) (cc := cL_pulls) (nL := 11) (av := [.ref h0]) (post := (fun (r : Int32) (u : va_W) => r = 1 ∧ uo_W g h0 k f hist sv lr ld L u)) (by decide +kernel) (Nat.le_of_ble_eq_true rfl) fun p e s m args below meth c Q A K hret ls hl hP hD hS => ?_
  obtain ⟨hx, hb, hml, hown, hts, hK, hN, hA, hZ⟩ := K
  have hl : lv_has ls 11 [(0, .ref h0)] := hl
  have hI := (uo_W_len hR).2
  have q1 : f 0 ≤ 12 := hI.2.1
  have q2 : f 1 ≤ 16 := hI.2.2.1
  have hPl := hI.2.2.2.2.2.2.2.2.2.2.2.2.2.2.1
  refine lv_aload_n hx hb dL_pulls_0 rfl (lv_at hl 0 rfl) ?_
  refine lv_iconst (v := 1) hx hb dL_pulls_1 (by decide) ?_
  have hpm : (Wo : va_W).Perm (Wo ++ ([] : va_W)) := List.Perm.of_eq (List.append_nil _).symm
  have hFc := ub_freeP hD hS hA hpm
  obtain ⟨hPc, hDc⟩ := ub_subP hP hD hpm
  refine us_calli (va_runV (As := [.int 1]) (rest := []) ⟨hx, hb, hml, hown, hts⟩ (uo_account l g hR (x := 1)) (cwV 1 hts gu_RL_34 rfl rfl rfl ⟨rfl, uhX8_account⟩ ⟨Nat.le_of_ble_eq_true rfl, Nat.le_of_ble_eq_true rfl⟩) (us_preO hR hZ hS hFc hPc hDc hK hN) rfl rfl hl.1 rfl (lv_room (Nat.le_of_ble_eq_true rfl)) dL_pulls_2 ⟨Nat.le_of_ble_eq_true rfl, Nat.le_of_ble_eq_true rfl⟩) hP hD hS hA hpm (fun r Wo1 H locs hpost hP hD hS => ?_)
  have hP : va_P g.1 vwCl Wo1 H := by
      have h9 := hP
      rw [List.append_nil] at h9
      exact h9
  have hD : va_D A Wo1 := by
      have h9 := hD
      rw [List.append_nil] at h9
      exact h9
  obtain ⟨hr, hR⟩ := hpost
  have er : r = nI (f 1) := by rw [hr]; rfl
  rw [er]
  refine lv_istore_n (lv' := [(1, .int (nI (f 1))), (0, .ref h0)]) hx hb dL_pulls_5 rfl hl (by decide) rfl (fun ls hl => ?_)
  refine lv_aload_n hx hb dL_pulls_6 rfl (lv_at hl 1 rfl) ?_
  refine lv_iconst (v := 0) hx hb dL_pulls_7 (by decide) ?_
  have hpm : (Wo1 : va_W).Perm (Wo1 ++ ([] : va_W)) := List.Perm.of_eq (List.append_nil _).symm
  have hFc := ub_freeP hD hS hA hpm
  obtain ⟨hPc, hDc⟩ := ub_subP hP hD hpm
  refine us_calli (va_runV (As := [.int 0]) (rest := []) ⟨hx, hb, hml, hown, hts⟩ (uo_account l g hR (x := 0)) (cwV 1 hts gu_RL_34 rfl rfl rfl ⟨rfl, uhX8_account⟩ ⟨Nat.le_of_ble_eq_true rfl, Nat.le_of_ble_eq_true rfl⟩) (us_preO hR hZ hS hFc hPc hDc hK hN) rfl rfl hl.1 rfl (lv_room (Nat.le_of_ble_eq_true rfl)) dL_pulls_8 ⟨Nat.le_of_ble_eq_true rfl, Nat.le_of_ble_eq_true rfl⟩) hP hD hS hA hpm (fun r Wo2 H locs hpost hP hD hS => ?_)
  have hP : va_P g.1 vwCl Wo2 H := by
      have h9 := hP
      rw [List.append_nil] at h9
      exact h9
  have hD : va_D A Wo2 := by
      have h9 := hD
      rw [List.append_nil] at h9
      exact h9
  obtain ⟨hr, hR⟩ := hpost
  have er : r = nI (f 0) := by rw [hr]; rfl
  rw [er]
  refine us_newi (g := g) (N := (f 0)) hx hb (hts _ us_m115) hK hP hD hS hA (nI_pos (by omega)) (nI_clamp (by omega)) (by omega) (by show 0 + 1 ≤ 2; omega) (by show 0 + (f 0) ≤ 36; omega) dL_pulls_11 (fun q2 H hP hD hS => ?_)
  have hP : va_P g.1 vwCl ([(q2, .inl (g.2.1, (f 0), .inl (fun _ => 0)))] ++ Wo2) H := ub_P_perm List.perm_append_comm hP
  have hD : va_D A ([(q2, .inl (g.2.1, (f 0), .inl (fun _ => 0)))] ++ Wo2) := ub_D_perm List.perm_append_comm hD
  refine lv_astore_n (lv' := [(2, .ref q2), (1, .int (nI (f 1))), (0, .ref h0)]) hx hb dL_pulls_13 rfl hl (by decide) rfl (fun ls hl => ?_)
  refine lv_bipush (v := 24) hx hb dL_pulls_14 (by decide) ?_
  refine us_newi (g := g) (N := 24) hx hb (hts _ us_m115) hK hP hD hS hA (by decide) (by decide) (by decide) (by show (0 + 1) + 1 ≤ 2; omega) (by show (0 + (f 0)) + 24 ≤ 36; omega) dL_pulls_16 (fun q3 H hP hD hS => ?_)
  have hP : va_P g.1 vwCl ([(q2, .inl (g.2.1, (f 0), .inl (fun _ => 0))), (q3, .inl (g.2.1, 24, .inl (fun _ => 0)))] ++ Wo2) H := ub_P_perm us_pn hP
  have hD : va_D A ([(q2, .inl (g.2.1, (f 0), .inl (fun _ => 0))), (q3, .inl (g.2.1, 24, .inl (fun _ => 0)))] ++ Wo2) := ub_D_perm us_pn hD
  refine W.widen (k := 2) (n := 36) (by omega) (by omega) ?_
  refine lv_astore_n (lv' := [(3, .ref q3), (2, .ref q2), (1, .int (nI (f 1))), (0, .ref h0)]) hx hb dL_pulls_18 rfl hl (by decide) rfl (fun ls hl => ?_)
  refine lv_iconst (v := 0) hx hb dL_pulls_19 (by decide) ?_
  refine lv_istore (lv' := [(4, .int 0), (3, .ref q3), (2, .ref q2), (1, .int (nI (f 1))), (0, .ref h0)]) hx hb dL_pulls_20 hl (by decide) rfl (fun ls hl => ?_)
  refine lv_iconst (v := 0) hx hb dL_pulls_22 (by decide) ?_
  refine lv_istore (lv' := [(5, .int 0), (4, .int 0), (3, .ref q3), (2, .ref q2), (1, .int (nI (f 1))), (0, .ref h0)]) hx hb dL_pulls_23 hl (by decide) rfl (fun ls hl => ?_)
  have loopC : ∀ (q i : Nat) (ru : Nat → Int32) (he : Nat → Int32) (Wo : va_W) (H : Heap) (locs : List Loc) (ls : Array Slot), f 1 = i + q → (∀ r, r < f 0 → ru r = nI (um_rings i f (13 + 6 * r))) → (∀ t, t < 24 → he t = nI (um_rings i f (211 + t))) → uo_W g h0 k f hist sv lr ld L Wo → lv_has ls 11 [(5, .int (nI i)), (4, .int (nI (um_fc i f))), (0, .ref h0), (1, .int (nI (f 1))), (2, .ref q2), (3, .ref q3)] → va_P g.1 vwCl ([(q2, .inl (g.2.1, (f 0), .inl ru)), (q3, .inl (g.2.1, 24, .inl he))] ++ Wo) H → va_D A ([(q2, .inl (g.2.1, (f 0), .inl ru)), (q3, .inl (g.2.1, 24, .inl he))] ++ Wo) → va_S A s.heap H locs → W p l e ({ frames := 5, cells := 2, slots := 36, locals := 112 } : Room) s m args below meth c H locs 2 36 Q (F0 m 78 ls []) := by
    intro q
    induction q with
    | zero =>
      intro i ru he Wo H locs ls hiq g2 g3 hR hl hP hD hS
      have ei : i = f 1 := by omega
      rw [ei] at hl
      refine lv_iload hx hb dL_pulls_78 (lv_at hl 0 rfl) ?_
      refine lv_iload_n hx hb dL_pulls_80 rfl (lv_at hl 3 rfl) ?_
      refine lv_icmp_ge (tgt := 306) hx hb dL_pulls_81 (by decide) (fun _ => ?_) (fun cc => absurd (nI_le (by omega) (by omega)) cc)
      refine lv_aload_n hx hb dL_pulls_306 rfl (lv_at hl 2 rfl) ?_
      have hpm : List.Perm (([(q2, .inl (g.2.1, (f 0), .inl ru)), (q3, .inl (g.2.1, 24, .inl he))] ++ Wo) : va_W) (Wo ++ [(q2, .inl (g.2.1, (f 0), .inl ru)), (q3, .inl (g.2.1, 24, .inl he))]) := List.perm_append_comm
      have hFc := ub_freeP hD hS hA hpm
      obtain ⟨hPc, hDc⟩ := ub_subP hP hD hpm
      refine us_calli (va_runV (As := []) (rest := []) ⟨hx, hb, hml, hown, hts⟩ (uo_forecast l g hR ) (cwV 0 hts gu_RL_112 rfl rfl rfl ⟨rfl, uhX8_forecast⟩ ⟨Nat.le_of_ble_eq_true rfl, Nat.le_of_ble_eq_true rfl⟩) (us_preO hR hZ hS hFc hPc hDc hK hN) rfl rfl hl.1 rfl (lv_room (Nat.le_of_ble_eq_true rfl)) dL_pulls_307 ⟨Nat.le_of_ble_eq_true rfl, Nat.le_of_ble_eq_true rfl⟩) hP hD hS hA hpm (fun r Wo3 H locs hpost hP hD hS => ?_)
      have hP : va_P g.1 vwCl ([(q2, .inl (g.2.1, (f 0), .inl ru)), (q3, .inl (g.2.1, 24, .inl he))] ++ Wo3) H := ub_P_perm List.perm_append_comm hP
      have hD : va_D A ([(q2, .inl (g.2.1, (f 0), .inl ru)), (q3, .inl (g.2.1, 24, .inl he))] ++ Wo3) := ub_D_perm List.perm_append_comm hD
      obtain ⟨hr, hR⟩ := hpost
      have er : r = nI (um_fc (f 1) f) := hr
      rw [er]
      refine lv_iload hx hb dL_pulls_310 (lv_at hl 1 rfl) ?_
      refine lv_icmp_ne (tgt := 346) hx hb dL_pulls_312 (by decide) (fun cc => absurd rfl cc) (fun _ => ?_)
      refine lv_aload_n hx hb dL_pulls_315 rfl (lv_at hl 2 rfl) ?_
      have hpm : List.Perm (([(q2, .inl (g.2.1, (f 0), .inl ru)), (q3, .inl (g.2.1, 24, .inl he))] ++ Wo3) : va_W) (Wo3 ++ [(q2, .inl (g.2.1, (f 0), .inl ru)), (q3, .inl (g.2.1, 24, .inl he))]) := List.perm_append_comm
      have hFc := ub_freeP hD hS hA hpm
      obtain ⟨hPc, hDc⟩ := ub_subP hP hD hpm
      refine us_calli (va_runV (As := []) (rest := []) ⟨hx, hb, hml, hown, hts⟩ (uo_forecastAgain l g hR ) (cwV 0 hts gu_RL_115 rfl rfl rfl ⟨rfl, uhX8_forecastAgain⟩ ⟨Nat.le_of_ble_eq_true rfl, Nat.le_of_ble_eq_true rfl⟩) (us_preO hR hZ hS hFc hPc hDc hK hN) rfl rfl hl.1 rfl (lv_room (Nat.le_of_ble_eq_true rfl)) dL_pulls_316 ⟨Nat.le_of_ble_eq_true rfl, Nat.le_of_ble_eq_true rfl⟩) hP hD hS hA hpm (fun r Wo4 H locs hpost hP hD hS => ?_)
      have hP : va_P g.1 vwCl ([(q2, .inl (g.2.1, (f 0), .inl ru)), (q3, .inl (g.2.1, 24, .inl he))] ++ Wo4) H := ub_P_perm List.perm_append_comm hP
      have hD : va_D A ([(q2, .inl (g.2.1, (f 0), .inl ru)), (q3, .inl (g.2.1, 24, .inl he))] ++ Wo4) := ub_D_perm List.perm_append_comm hD
      obtain ⟨hr, hR⟩ := hpost
      have er : r = nI (um_fc (f 1) f) := hr
      rw [er]
      refine lv_iload hx hb dL_pulls_319 (lv_at hl 1 rfl) ?_
      refine lv_icmp_ne (tgt := 346) hx hb dL_pulls_321 (by decide) (fun cc => absurd rfl cc) (fun _ => ?_)
      refine lv_aload_n hx hb dL_pulls_324 rfl (lv_at hl 2 rfl) ?_
      refine lv_iload_n hx hb dL_pulls_325 rfl (lv_at hl 3 rfl) ?_
      refine lv_iconst (v := 0) hx hb dL_pulls_326 (by decide) ?_
      have hpm : List.Perm (([(q2, .inl (g.2.1, (f 0), .inl ru)), (q3, .inl (g.2.1, 24, .inl he))] ++ Wo4) : va_W) (Wo4 ++ [(q2, .inl (g.2.1, (f 0), .inl ru)), (q3, .inl (g.2.1, 24, .inl he))]) := List.perm_append_comm
      have hFc := ub_freeP hD hS hA hpm
      obtain ⟨hPc, hDc⟩ := ub_subP hP hD hpm
      refine us_calli (va_runV (As := [.int (nI (f 1)), .int 0]) (rest := []) ⟨hx, hb, hml, hown, hts⟩ (uo_waiting l g hR (x := (nI (f 1))) (v := 0)) (cwV 2 hts gu_RL_109 rfl rfl rfl ⟨rfl, uhX8_waiting⟩ ⟨Nat.le_of_ble_eq_true rfl, Nat.le_of_ble_eq_true rfl⟩) (us_preO hR hZ hS hFc hPc hDc hK hN) rfl rfl hl.1 rfl (lv_room (Nat.le_of_ble_eq_true rfl)) dL_pulls_327 ⟨Nat.le_of_ble_eq_true rfl, Nat.le_of_ble_eq_true rfl⟩) hP hD hS hA hpm (fun r Wo5 H locs hpost hP hD hS => ?_)
      have hP : va_P g.1 vwCl ([(q2, .inl (g.2.1, (f 0), .inl ru)), (q3, .inl (g.2.1, 24, .inl he))] ++ Wo5) H := ub_P_perm List.perm_append_comm hP
      have hD : va_D A ([(q2, .inl (g.2.1, (f 0), .inl ru)), (q3, .inl (g.2.1, 24, .inl he))] ++ Wo5) := ub_D_perm List.perm_append_comm hD
      obtain ⟨hr, hR⟩ := hpost
      have er : r = (-1011) := hr.trans (uw_waitingNo hI (Nat.lt_irrefl _) (by omega))
      rw [er]
      refine lv_sipush (v := (-1011)) hx hb dL_pulls_330 (by decide) ?_
      refine lv_icmp_ne (tgt := 346) hx hb dL_pulls_333 (by decide) (fun cc => absurd rfl cc) (fun _ => ?_)
      refine lv_iload_n hx hb dL_pulls_336 rfl (lv_at hl 3 rfl) ?_
      refine lv_bipush (v := 16) hx hb dL_pulls_337 (by decide) ?_
      refine lv_icmp_gt (tgt := 346) hx hb dL_pulls_339 (by decide) (fun cc => absurd cc (nI_nlt (a := 16) (b := f 1) (by omega) (by decide))) (fun _ => ?_)
      refine lv_iconst (v := 1) hx hb dL_pulls_342 (by decide) ?_
      refine lv_goto (tgt := 347) hx hb dL_pulls_343 (by decide) ?_
      have hP : va_P g.1 vwCl Wo5 H := us_dropP hP
      have hD : va_D A Wo5 := us_dropD hD
      exact hret _ _ H locs _ ls ⟨rfl, hR⟩ dL_pulls_347 rfl hP hD hS
    | succ q ih =>
      intro i ru he Wo H locs ls hiq g2 g3 hR hl hP hD hS
      have hi1 : i < f 1 := by omega
      obtain ⟨p1, p2, p3, p4⟩ := hPl i hi1
      obtain ⟨hF, -, hF0, -, -⟩ := up_all hI i (by omega)
      have f13 := (hF.2.2.2.2.2.2.2.2.2.1 (f (83 + 3 * i)) (by omega)).2.2
      have fH := um_I_set hF p2
      have hs12 := (hI.2.2.2.2.2.2.2.2.2.1 (f (83 + 3 * i)) (by omega)).2.1
      obtain ⟨rd1, rd2⟩ := up_read hI hi1
      have his := up_is hI hi1
      have hfc := up_fc i f
      have hfl := up_fc_le i f
      have h2 := hJ.2.1 i hi1
      have J283 : ∀ (by0 : Int32) (ru : Nat → Int32) (he : Nat → Int32) (Wo : va_W) (H : Heap) (locs : List Loc) (ls : Array Slot), ¬ by0 < 0 → (∀ r, r < f 0 → ru r = nI (um_rings (i + 1) f (13 + 6 * r))) → (∀ t, t < 24 → he t = nI (um_rings (i + 1) f (211 + t))) → uo_W g h0 k f hist sv lr ld L Wo → lv_has ls 11 [(9, .int by0), (8, .int (nI (f (85 + 3 * i)))), (7, .int (nI (f (84 + 3 * i)))), (6, .int (nI (f (83 + 3 * i)))), (5, .int (nI i)), (4, .int (nI (um_fc (i + 1) f))), (0, .ref h0), (1, .int (nI (f 1))), (2, .ref q2), (3, .ref q3)] → va_P g.1 vwCl ([(q2, .inl (g.2.1, (f 0), .inl ru)), (q3, .inl (g.2.1, 24, .inl he))] ++ Wo) H → va_D A ([(q2, .inl (g.2.1, (f 0), .inl ru)), (q3, .inl (g.2.1, 24, .inl he))] ++ Wo) → va_S A s.heap H locs → W p l e ({ frames := 5, cells := 2, slots := 36, locals := 112 } : Room) s m args below meth c H locs 2 36 Q (F0 m 283 ls []) := by
        intro by0 ru he Wo H locs ls hby g2 g3 hR hl hP hD hS
        refine lv_iload hx hb dL_pulls_283 (lv_at hl 0 rfl) ?_
        refine lv_if_lt (tgt := 298) hx hb dL_pulls_285 (by decide) (fun cc => absurd cc hby) (fun _ => ?_)
        refine lv_iload hx hb dL_pulls_288 (lv_at hl 2 rfl) ?_
        refine lv_aload_n hx hb dL_pulls_290 rfl (lv_at hl 6 rfl) ?_
        refine lv_iconst (v := 2) hx hb dL_pulls_291 (by decide) ?_
        have hpm : List.Perm (([(q2, .inl (g.2.1, (f 0), .inl ru)), (q3, .inl (g.2.1, 24, .inl he))] ++ Wo) : va_W) (Wo ++ [(q2, .inl (g.2.1, (f 0), .inl ru)), (q3, .inl (g.2.1, 24, .inl he))]) := List.perm_append_comm
        have hFc := ub_freeP hD hS hA hpm
        obtain ⟨hPc, hDc⟩ := ub_subP hP hD hpm
        refine us_calli (va_runV (As := [.int 2]) (rest := [.int (nI (f (84 + 3 * i)))]) ⟨hx, hb, hml, hown, hts⟩ (uo_account l g hR (x := 2)) (cwV 1 hts gu_RL_34 rfl rfl rfl ⟨rfl, uhX8_account⟩ ⟨Nat.le_of_ble_eq_true rfl, Nat.le_of_ble_eq_true rfl⟩) (us_preO hR hZ hS hFc hPc hDc hK hN) rfl rfl hl.1 rfl (lv_room (Nat.le_of_ble_eq_true rfl)) dL_pulls_292 ⟨Nat.le_of_ble_eq_true rfl, Nat.le_of_ble_eq_true rfl⟩) hP hD hS hA hpm (fun r Wo6 H locs hpost hP hD hS => ?_)
        have hP : va_P g.1 vwCl ([(q2, .inl (g.2.1, (f 0), .inl ru)), (q3, .inl (g.2.1, 24, .inl he))] ++ Wo6) H := ub_P_perm List.perm_append_comm hP
        have hD : va_D A ([(q2, .inl (g.2.1, (f 0), .inl ru)), (q3, .inl (g.2.1, 24, .inl he))] ++ Wo6) := ub_D_perm List.perm_append_comm hD
        obtain ⟨hr, hR⟩ := hpost
        have er : r = nI (f 2) := by rw [hr]; rfl
        rw [er]
        refine lv_icmp_ge (tgt := 300) hx hb dL_pulls_295 (by decide) (fun _ => ?_) (fun cc => absurd (nI_le (by omega) (by omega)) cc)
        refine lv_iinc (v := nI i + 1) (lv' := [(5, .int (nI i + 1)), (9, .int by0), (8, .int (nI (f (85 + 3 * i)))), (7, .int (nI (f (84 + 3 * i)))), (6, .int (nI (f (83 + 3 * i)))), (4, .int (nI (um_fc (i + 1) f))), (0, .ref h0), (1, .int (nI (f 1))), (2, .ref q2), (3, .ref q3)]) hx hb dL_pulls_300 hl (k := 4) rfl rfl (by decide) rfl (fun ls hl => ?_)
        refine lv_goto (tgt := 78) hx hb dL_pulls_303 (by decide) ?_
        rw [nI_1] at hl
        exact ih (i + 1) ru he Wo6 _ _ ls (by omega) g2 g3 hR (lv_sub hl [0, 5, 6, 7, 8, 9] rfl) hP hD hS
      have J182 : ∀ (by0 : Int32) (Wo : va_W) (H : Heap) (locs : List Loc) (ls : Array Slot), ¬ by0 < 0 → uo_W g h0 k f hist sv lr ld L Wo → lv_has ls 11 [(9, .int by0), (8, .int (nI (f (85 + 3 * i)))), (7, .int (nI (f (84 + 3 * i)))), (6, .int (nI (f (83 + 3 * i)))), (5, .int (nI i)), (4, .int (nI (um_fc i f))), (0, .ref h0), (1, .int (nI (f 1))), (2, .ref q2), (3, .ref q3)] → va_P g.1 vwCl ([(q2, .inl (g.2.1, (f 0), .inl ru)), (q3, .inl (g.2.1, 24, .inl he))] ++ Wo) H → va_D A ([(q2, .inl (g.2.1, (f 0), .inl ru)), (q3, .inl (g.2.1, 24, .inl he))] ++ Wo) → va_S A s.heap H locs → W p l e ({ frames := 5, cells := 2, slots := 36, locals := 112 } : Room) s m args below meth c H locs 2 36 Q (F0 m 182 ls []) := by
        intro by0 Wo H locs ls hby hR hl hP hD hS
        have J218 : ∀ (Wo : va_W) (H : Heap) (locs : List Loc) (ls : Array Slot), ¬ um_ringR (um_rings i f) = 1 → uo_W g h0 k f hist sv lr ld L Wo → lv_has ls 11 [(9, .int by0), (8, .int (nI (f (85 + 3 * i)))), (7, .int (nI (f (84 + 3 * i)))), (6, .int (nI (f (83 + 3 * i)))), (5, .int (nI i)), (4, .int (nI (um_fc i f))), (0, .ref h0), (1, .int (nI (f 1))), (2, .ref q2), (3, .ref q3)] → va_P g.1 vwCl ([(q2, .inl (g.2.1, (f 0), .inl ru)), (q3, .inl (g.2.1, 24, .inl he))] ++ Wo) H → va_D A ([(q2, .inl (g.2.1, (f 0), .inl ru)), (q3, .inl (g.2.1, 24, .inl he))] ++ Wo) → va_S A s.heap H locs → W p l e ({ frames := 5, cells := 2, slots := 36, locals := 112 } : Room) s m args below meth c H locs 2 36 Q (F0 m 218 ls []) := by
          intro Wo H locs ls hR1 hR hl hP hD hS
          refine lv_iconst (v := 0) hx hb dL_pulls_218 (by decide) ?_
          refine lv_istore (lv' := [(10, .int 0), (9, .int by0), (8, .int (nI (f (85 + 3 * i)))), (7, .int (nI (f (84 + 3 * i)))), (6, .int (nI (f (83 + 3 * i)))), (5, .int (nI i)), (4, .int (nI (um_fc i f))), (0, .ref h0), (1, .int (nI (f 1))), (2, .ref q2), (3, .ref q3)]) hx hb dL_pulls_219 hl (by decide) rfl (fun ls hl => ?_)
          refine lv_iload hx hb dL_pulls_221 (lv_at hl 6 rfl) ?_
          refine lv_iload hx hb dL_pulls_223 (lv_at hl 0 rfl) ?_
          refine lv_if_eq (tgt := 232) hx hb dL_pulls_225 (by decide) (fun _ => ?_) (fun cc => absurd rfl cc)
          refine lv_iconst (v := 0) hx hb dL_pulls_232 (by decide) ?_
          refine lv_iadd hx hb dL_pulls_233 ?_
          refine us_topi (x := nI (um_fc i f + 0)) (nI_add (um_fc i f) 0) ?_
          have e4 : um_fc i f + 0 = um_fc (i + 1) f := by rw [hfc, decide_eq_false hR1]; rfl
          rw [e4]
          refine lv_istore (lv' := [(4, .int (nI (um_fc (i + 1) f))), (10, .int 0), (9, .int by0), (8, .int (nI (f (85 + 3 * i)))), (7, .int (nI (f (84 + 3 * i)))), (6, .int (nI (f (83 + 3 * i)))), (5, .int (nI i)), (0, .ref h0), (1, .int (nI (f 1))), (2, .ref q2), (3, .ref q3)]) hx hb dL_pulls_234 hl (by decide) rfl (fun ls hl => ?_)
          refine lv_aload_n hx hb dL_pulls_236 rfl (lv_at hl 10 rfl) ?_
          refine lv_iload hx hb dL_pulls_237 (lv_at hl 4 rfl) ?_
          refine lv_dup2_11 hx hb dL_pulls_239 rfl rfl ?_
          refine va_iald hx hb hK hP 1 0 rfl rfl (i := nI (f (84 + 3 * i))) (vp_in_nI p2 (by decide)) dL_pulls_240 ?_
          refine us_topi (x := nI (um_rings i f (211 + f (84 + 3 * i)))) (by rw [nI_clamp (by omega)]; exact g3 _ p2) ?_
          refine lv_iload hx hb dL_pulls_241 (lv_at hl 1 rfl) ?_
          refine lv_if_eq (tgt := 253) hx hb dL_pulls_243 (by decide) (fun _ => ?_) (fun cc => absurd rfl cc)
          refine lv_iconst (v := 0) hx hb dL_pulls_253 (by decide) ?_
          refine lv_ior hx hb dL_pulls_254 ?_
          refine us_topi (x := nI (um_rings i f (211 + f (84 + 3 * i)) ||| 0)) (um_or (um_rings i f (211 + f (84 + 3 * i))) 0) ?_
          refine va_iast hx hb hK hP hD hS 1 0 rfl rfl (i := nI (f (84 + 3 * i))) (vp_in_nI p2 (by decide)) dL_pulls_255 (fun H locs hP hD hS => ?_)
          rw [nI_clamp (show f (84 + 3 * i) < 2 ^ 31 by omega)] at hP hD
          have hP : va_P g.1 vwCl ([(q2, .inl (g.2.1, (f 0), .inl ru)), (q3, .inl (g.2.1, 24, .inl (upd he (f (84 + 3 * i)) (nI (um_rings i f (211 + f (84 + 3 * i)) ||| 0)))))] ++ Wo) H := hP
          have hD : va_D A ([(q2, .inl (g.2.1, (f 0), .inl ru)), (q3, .inl (g.2.1, 24, .inl (upd he (f (84 + 3 * i)) (nI (um_rings i f (211 + f (84 + 3 * i)) ||| 0)))))] ++ Wo) := hD
          refine lv_aload_n hx hb dL_pulls_256 rfl (lv_at hl 9 rfl) ?_
          refine lv_iload hx hb dL_pulls_257 (lv_at hl 5 rfl) ?_
          refine lv_iload hx hb dL_pulls_259 (lv_at hl 1 rfl) ?_
          refine lv_if_eq (tgt := 278) hx hb dL_pulls_261 (by decide) (fun _ => ?_) (fun cc => absurd rfl cc)
          refine lv_aload_n hx hb dL_pulls_278 rfl (lv_at hl 9 rfl) ?_
          refine lv_iload hx hb dL_pulls_279 (lv_at hl 5 rfl) ?_
          refine va_iald hx hb hK hP 0 0 rfl rfl (i := nI (f (83 + 3 * i))) (vp_in_nI p1 (by omega)) dL_pulls_281 ?_
          refine us_topi (x := nI (um_rings i f (13 + 6 * f (83 + 3 * i)))) (by rw [nI_clamp (by omega)]; exact g2 _ p1) ?_
          refine va_iast hx hb hK hP hD hS 0 0 rfl rfl (i := nI (f (83 + 3 * i))) (vp_in_nI p1 (by omega)) dL_pulls_282 (fun H locs hP hD hS => ?_)
          rw [nI_clamp (show f (83 + 3 * i) < 2 ^ 31 by omega)] at hP hD
          have hP : va_P g.1 vwCl ([(q2, .inl (g.2.1, (f 0), .inl (upd ru (f (83 + 3 * i)) (nI (um_rings i f (13 + 6 * f (83 + 3 * i))))))), (q3, .inl (g.2.1, 24, .inl (upd he (f (84 + 3 * i)) (nI (um_rings i f (211 + f (84 + 3 * i)) ||| 0)))))] ++ Wo) H := hP
          have hD : va_D A ([(q2, .inl (g.2.1, (f 0), .inl (upd ru (f (83 + 3 * i)) (nI (um_rings i f (13 + 6 * f (83 + 3 * i))))))), (q3, .inl (g.2.1, 24, .inl (upd he (f (84 + 3 * i)) (nI (um_rings i f (211 + f (84 + 3 * i)) ||| 0)))))] ++ Wo) := hD
          exact J283 by0 (upd ru (f (83 + 3 * i)) (nI (um_rings i f (13 + 6 * f (83 + 3 * i))))) (upd he (f (84 + 3 * i)) (nI (um_rings i f (211 + f (84 + 3 * i)) ||| 0))) Wo _ _ ls hby (up_a (g' := fun r => um_rings (i + 1) f (13 + 6 * r)) g2 (by rw [rd1 _ (by omega), if_neg (fun z => hR1 z.1)]) (fun t ht hne => by rw [rd1 t (by omega), if_neg (fun z => hR1 z.1)])) (up_a (g' := fun t => um_rings (i + 1) f (211 + t)) g3 (by rw [rd2 _ p2, if_neg (fun z => hR1 z.1), Nat.or_zero]) (fun t ht hne => by rw [rd2 t ht, if_neg (fun z => hR1 z.1)])) hR (lv_sub hl [2, 3, 4, 5, 6, 0, 7, 8, 9, 10] rfl) hP hD hS
        refine lv_aload_n hx hb dL_pulls_182 rfl (lv_at hl 9 rfl) ?_
        refine lv_iload hx hb dL_pulls_183 (lv_at hl 2 rfl) ?_
        refine va_iald hx hb hK hP 1 0 rfl rfl (i := nI (f (84 + 3 * i))) (vp_in_nI p2 (by decide)) dL_pulls_185 ?_
        refine us_topi (x := nI (um_rings i f (211 + f (84 + 3 * i)))) (by rw [nI_clamp (by omega)]; exact g3 _ p2) ?_
        refine lv_iload hx hb dL_pulls_186 (lv_at hl 3 rfl) ?_
        refine lv_ishr hx hb dL_pulls_188 ?_
        refine lv_iconst (v := 1) hx hb dL_pulls_189 (by decide) ?_
        refine lv_iand hx hb dL_pulls_190 ?_
        refine us_topi (x := nI (um_b2n ((um_rings i f (211 + f (84 + 3 * i))).testBit (f (83 + 3 * i))))) (um_bit1 (by omega) (by omega)) ?_
        by_cases hb0 : (um_rings i f (211 + f (84 + 3 * i))).testBit (f (83 + 3 * i)) = true
        · refine lv_if_ne (tgt := 218) hx hb dL_pulls_191 (by decide) (fun _ => ?_) (fun cc => absurd cc (by rw [hb0]; decide))
          exact J218 Wo _ _ ls (fun z => (his.mp z).1 hb0) hR (lv_sub hl [0, 1, 2, 3, 4, 5, 6, 7, 8, 9] rfl) hP hD hS
        · refine lv_if_ne (tgt := 218) hx hb dL_pulls_191 (by decide) (fun cc => absurd (um_b2n_e.mpr (Bool.eq_false_iff.mpr hb0)) cc) (fun _ => ?_)
          refine lv_aload_n hx hb dL_pulls_194 rfl (lv_at hl 6 rfl) ?_
          refine lv_iload hx hb dL_pulls_195 (lv_at hl 3 rfl) ?_
          refine lv_iconst (v := 1) hx hb dL_pulls_197 (by decide) ?_
          have hpm : List.Perm (([(q2, .inl (g.2.1, (f 0), .inl ru)), (q3, .inl (g.2.1, 24, .inl he))] ++ Wo) : va_W) (Wo ++ [(q2, .inl (g.2.1, (f 0), .inl ru)), (q3, .inl (g.2.1, 24, .inl he))]) := List.perm_append_comm
          have hFc := ub_freeP hD hS hA hpm
          obtain ⟨hPc, hDc⟩ := ub_subP hP hD hpm
          refine us_calli (va_runV (As := [.int (nI (f (83 + 3 * i))), .int 1]) (rest := []) ⟨hx, hb, hml, hown, hts⟩ (uo_ropeOf l g hR (x := (nI (f (83 + 3 * i)))) (v := 1)) (cwV 2 hts gu_RL_100 rfl rfl rfl ⟨rfl, uhX8_ropeOf⟩ ⟨Nat.le_of_ble_eq_true rfl, Nat.le_of_ble_eq_true rfl⟩) (us_preO hR hZ hS hFc hPc hDc hK hN) rfl rfl hl.1 rfl (lv_room (Nat.le_of_ble_eq_true rfl)) dL_pulls_198 ⟨Nat.le_of_ble_eq_true rfl, Nat.le_of_ble_eq_true rfl⟩) hP hD hS hA hpm (fun r Wo7 H locs hpost hP hD hS => ?_)
          have hP : va_P g.1 vwCl ([(q2, .inl (g.2.1, (f 0), .inl ru)), (q3, .inl (g.2.1, 24, .inl he))] ++ Wo7) H := ub_P_perm List.perm_append_comm hP
          have hD : va_D A ([(q2, .inl (g.2.1, (f 0), .inl ru)), (q3, .inl (g.2.1, 24, .inl he))] ++ Wo7) := ub_D_perm List.perm_append_comm hD
          obtain ⟨hr, hR⟩ := hpost
          have er : r = nI (f (12 + 6 * f (83 + 3 * i))) := hr.trans ((uw_ropeOf (i := 1) hI p1 (by decide)).trans (congrArg nI (congrArg f (by omega))))
          rw [er]
          refine lv_iconst (v := 1) hx hb dL_pulls_201 (by decide) ?_
          by_cases hs1 : f (12 + 6 * f (83 + 3 * i)) = 1
          · refine lv_icmp_ne (tgt := 218) hx hb dL_pulls_202 (by decide) (fun cc => absurd (by rw [hs1]; rfl) cc) (fun _ => ?_)
            refine lv_iload hx hb dL_pulls_205 (lv_at hl 1 rfl) ?_
            refine lv_aload_n hx hb dL_pulls_207 rfl (lv_at hl 8 rfl) ?_
            refine lv_iload hx hb dL_pulls_208 (lv_at hl 3 rfl) ?_
            refine va_iald hx hb hK hP 0 0 rfl rfl (i := nI (f (83 + 3 * i))) (vp_in_nI p1 (by omega)) dL_pulls_210 ?_
            refine us_topi (x := nI (um_rings i f (13 + 6 * f (83 + 3 * i)))) (by rw [nI_clamp (by omega)]; exact g2 _ p1) ?_
            by_cases hlt : um_rings i f (13 + 6 * f (83 + 3 * i)) < f (85 + 3 * i)
            · refine lv_icmp_le (tgt := 218) hx hb dL_pulls_211 (by decide) (fun cc => absurd cc (nI_ge hlt (by omega))) (fun _ => ?_)
              refine lv_iconst (v := 1) hx hb dL_pulls_214 (by decide) ?_
              refine lv_goto (tgt := 219) hx hb dL_pulls_215 (by decide) ?_
              refine lv_istore (lv' := [(10, .int 1), (9, .int by0), (8, .int (nI (f (85 + 3 * i)))), (7, .int (nI (f (84 + 3 * i)))), (6, .int (nI (f (83 + 3 * i)))), (5, .int (nI i)), (4, .int (nI (um_fc i f))), (0, .ref h0), (1, .int (nI (f 1))), (2, .ref q2), (3, .ref q3)]) hx hb dL_pulls_219 hl (by decide) rfl (fun ls hl => ?_)
              have hR1 := his.mpr ⟨hb0, hs1, hlt⟩
              refine lv_iload hx hb dL_pulls_221 (lv_at hl 6 rfl) ?_
              refine lv_iload hx hb dL_pulls_223 (lv_at hl 0 rfl) ?_
              refine lv_if_eq (tgt := 232) hx hb dL_pulls_225 (by decide) (fun cc => absurd cc (show ¬ (1 : Int32) = 0 by decide)) (fun _ => ?_)
              refine lv_iconst (v := 1) hx hb dL_pulls_228 (by decide) ?_
              refine lv_goto (tgt := 233) hx hb dL_pulls_229 (by decide) ?_
              refine lv_iadd hx hb dL_pulls_233 ?_
              refine us_topi (x := nI (um_fc i f + 1)) (nI_add (um_fc i f) 1) ?_
              have e4 : um_fc i f + 1 = um_fc (i + 1) f := by rw [hfc, decide_eq_true hR1]; rfl
              rw [e4]
              refine lv_istore (lv' := [(4, .int (nI (um_fc (i + 1) f))), (10, .int 1), (9, .int by0), (8, .int (nI (f (85 + 3 * i)))), (7, .int (nI (f (84 + 3 * i)))), (6, .int (nI (f (83 + 3 * i)))), (5, .int (nI i)), (0, .ref h0), (1, .int (nI (f 1))), (2, .ref q2), (3, .ref q3)]) hx hb dL_pulls_234 hl (by decide) rfl (fun ls hl => ?_)
              refine lv_aload_n hx hb dL_pulls_236 rfl (lv_at hl 10 rfl) ?_
              refine lv_iload hx hb dL_pulls_237 (lv_at hl 4 rfl) ?_
              refine lv_dup2_11 hx hb dL_pulls_239 rfl rfl ?_
              refine va_iald hx hb hK hP 1 0 rfl rfl (i := nI (f (84 + 3 * i))) (vp_in_nI p2 (by decide)) dL_pulls_240 ?_
              refine us_topi (x := nI (um_rings i f (211 + f (84 + 3 * i)))) (by rw [nI_clamp (by omega)]; exact g3 _ p2) ?_
              refine lv_iload hx hb dL_pulls_241 (lv_at hl 1 rfl) ?_
              refine lv_if_eq (tgt := 253) hx hb dL_pulls_243 (by decide) (fun cc => absurd cc (show ¬ (1 : Int32) = 0 by decide)) (fun _ => ?_)
              refine lv_iconst (v := 1) hx hb dL_pulls_246 (by decide) ?_
              refine lv_iload hx hb dL_pulls_247 (lv_at hl 5 rfl) ?_
              refine lv_ishl hx hb dL_pulls_249 ?_
              refine us_topi (x := nI (2 ^ f (83 + 3 * i))) (um_shl (show f (83 + 3 * i) < 31 by omega)) ?_
              refine lv_goto (tgt := 254) hx hb dL_pulls_250 (by decide) ?_
              refine lv_ior hx hb dL_pulls_254 ?_
              refine us_topi (x := nI (um_rings i f (211 + f (84 + 3 * i)) ||| 2 ^ f (83 + 3 * i))) (um_or _ _) ?_
              refine va_iast hx hb hK hP hD hS 1 0 rfl rfl (i := nI (f (84 + 3 * i))) (vp_in_nI p2 (by decide)) dL_pulls_255 (fun H locs hP hD hS => ?_)
              rw [nI_clamp (show f (84 + 3 * i) < 2 ^ 31 by omega)] at hP hD
              have hP : va_P g.1 vwCl ([(q2, .inl (g.2.1, (f 0), .inl ru)), (q3, .inl (g.2.1, 24, .inl (upd he (f (84 + 3 * i)) (nI (um_rings i f (211 + f (84 + 3 * i)) ||| 2 ^ f (83 + 3 * i))))))] ++ Wo7) H := hP
              have hD : va_D A ([(q2, .inl (g.2.1, (f 0), .inl ru)), (q3, .inl (g.2.1, 24, .inl (upd he (f (84 + 3 * i)) (nI (um_rings i f (211 + f (84 + 3 * i)) ||| 2 ^ f (83 + 3 * i))))))] ++ Wo7) := hD
              refine lv_aload_n hx hb dL_pulls_256 rfl (lv_at hl 9 rfl) ?_
              refine lv_iload hx hb dL_pulls_257 (lv_at hl 5 rfl) ?_
              refine lv_iload hx hb dL_pulls_259 (lv_at hl 1 rfl) ?_
              refine lv_if_eq (tgt := 278) hx hb dL_pulls_261 (by decide) (fun cc => absurd cc (show ¬ (1 : Int32) = 0 by decide)) (fun _ => ?_)
              refine lv_bipush (v := 9) hx hb dL_pulls_264 (by decide) ?_
              refine lv_aload_n hx hb dL_pulls_266 rfl (lv_at hl 9 rfl) ?_
              refine lv_iload hx hb dL_pulls_267 (lv_at hl 5 rfl) ?_
              refine va_iald hx hb hK hP 0 0 rfl rfl (i := nI (f (83 + 3 * i))) (vp_in_nI p1 (by omega)) dL_pulls_269 ?_
              refine us_topi (x := nI (um_rings i f (13 + 6 * f (83 + 3 * i)))) (by rw [nI_clamp (by omega)]; exact g2 _ p1) ?_
              refine lv_iconst (v := 1) hx hb dL_pulls_270 (by decide) ?_
              refine lv_iadd hx hb dL_pulls_271 ?_
              refine us_topi (x := nI (um_rings i f (13 + 6 * f (83 + 3 * i)) + 1)) (nI_1 _) ?_
              refine va_mmin hx hb (hml.trans hl.1.symm) hown (hts _ us_m806) (hts _ us_m348) (hts _ us_m49) (hts _ us_m349) (Nat.le_of_ble_eq_true rfl) (Nat.le_of_ble_eq_true rfl) (Nat.le_of_ble_eq_true rfl) (Nat.le_of_ble_eq_true rfl) dL_pulls_272 ?_
              refine us_topi (x := nI (if 9 ≤ um_rings i f (13 + 6 * f (83 + 3 * i)) then 9 else um_rings i f (13 + 6 * f (83 + 3 * i)) + 1)) (up_min f13) ?_
              refine lv_goto (tgt := 282) hx hb dL_pulls_275 (by decide) ?_
              refine va_iast hx hb hK hP hD hS 0 0 rfl rfl (i := nI (f (83 + 3 * i))) (vp_in_nI p1 (by omega)) dL_pulls_282 (fun H locs hP hD hS => ?_)
              rw [nI_clamp (show f (83 + 3 * i) < 2 ^ 31 by omega)] at hP hD
              have hP : va_P g.1 vwCl ([(q2, .inl (g.2.1, (f 0), .inl (upd ru (f (83 + 3 * i)) (nI (if 9 ≤ um_rings i f (13 + 6 * f (83 + 3 * i)) then 9 else um_rings i f (13 + 6 * f (83 + 3 * i)) + 1))))), (q3, .inl (g.2.1, 24, .inl (upd he (f (84 + 3 * i)) (nI (um_rings i f (211 + f (84 + 3 * i)) ||| 2 ^ f (83 + 3 * i))))))] ++ Wo7) H := hP
              have hD : va_D A ([(q2, .inl (g.2.1, (f 0), .inl (upd ru (f (83 + 3 * i)) (nI (if 9 ≤ um_rings i f (13 + 6 * f (83 + 3 * i)) then 9 else um_rings i f (13 + 6 * f (83 + 3 * i)) + 1))))), (q3, .inl (g.2.1, 24, .inl (upd he (f (84 + 3 * i)) (nI (um_rings i f (211 + f (84 + 3 * i)) ||| 2 ^ f (83 + 3 * i))))))] ++ Wo7) := hD
              exact J283 by0 (upd ru (f (83 + 3 * i)) (nI (if 9 ≤ um_rings i f (13 + 6 * f (83 + 3 * i)) then 9 else um_rings i f (13 + 6 * f (83 + 3 * i)) + 1))) (upd he (f (84 + 3 * i)) (nI (um_rings i f (211 + f (84 + 3 * i)) ||| 2 ^ f (83 + 3 * i)))) Wo7 _ _ ls hby (up_a (g' := fun r => um_rings (i + 1) f (13 + 6 * r)) g2 (by rw [rd1 _ (by omega), if_pos (show um_ringR (um_rings i f) = 1 ∧ f (83 + 3 * i) = f (83 + 3 * i) from ⟨hR1, rfl⟩)]) (fun t ht hne => by rw [rd1 t (by omega), if_neg (fun z => hne z.2)])) (up_a (g' := fun t => um_rings (i + 1) f (211 + t)) g3 (by rw [rd2 _ p2, if_pos (show um_ringR (um_rings i f) = 1 ∧ f (84 + 3 * i) = f (84 + 3 * i) from ⟨hR1, rfl⟩)]) (fun t ht hne => by rw [rd2 t ht, if_neg (fun z => hne z.2)])) hR (lv_sub hl [2, 3, 4, 5, 6, 0, 7, 8, 9, 10] rfl) hP hD hS
            · refine lv_icmp_le (tgt := 218) hx hb dL_pulls_211 (by decide) (fun _ => ?_) (fun cc => absurd (nI_le (by omega) (by omega)) cc)
              exact J218 Wo7 _ _ ls (fun z => hlt (his.mp z).2.2) hR (lv_sub hl [0, 1, 2, 3, 4, 5, 6, 7, 8, 9] rfl) hP hD hS
          · refine lv_icmp_ne (tgt := 218) hx hb dL_pulls_202 (by decide) (fun _ => ?_) (fun cc => absurd cc (fun z => hs1 ((nI_eq (by omega) (by decide) (b := 1)).mp z)))
            exact J218 Wo7 _ _ ls (fun z => hs1 (his.mp z).2.1) hR (lv_sub hl [0, 1, 2, 3, 4, 5, 6, 7, 8, 9] rfl) hP hD hS
      refine lv_iload hx hb dL_pulls_78 (lv_at hl 0 rfl) ?_
      refine lv_iload_n hx hb dL_pulls_80 rfl (lv_at hl 3 rfl) ?_
      refine lv_icmp_ge (tgt := 306) hx hb dL_pulls_81 (by decide) (fun cc => absurd cc (nI_ge (by omega) (by omega))) (fun _ => ?_)
      refine lv_aload_n hx hb dL_pulls_84 rfl (lv_at hl 2 rfl) ?_
      refine lv_iload hx hb dL_pulls_85 (lv_at hl 0 rfl) ?_
      refine lv_iconst (v := 0) hx hb dL_pulls_87 (by decide) ?_
      have hpm : List.Perm (([(q2, .inl (g.2.1, (f 0), .inl ru)), (q3, .inl (g.2.1, 24, .inl he))] ++ Wo) : va_W) (Wo ++ [(q2, .inl (g.2.1, (f 0), .inl ru)), (q3, .inl (g.2.1, 24, .inl he))]) := List.perm_append_comm
      have hFc := ub_freeP hD hS hA hpm
      obtain ⟨hPc, hDc⟩ := ub_subP hP hD hpm
      refine us_calli (va_runV (As := [.int (nI i), .int 0]) (rest := []) ⟨hx, hb, hml, hown, hts⟩ (uo_waiting l g hR (x := (nI i)) (v := 0)) (cwV 2 hts gu_RL_109 rfl rfl rfl ⟨rfl, uhX8_waiting⟩ ⟨Nat.le_of_ble_eq_true rfl, Nat.le_of_ble_eq_true rfl⟩) (us_preO hR hZ hS hFc hPc hDc hK hN) rfl rfl hl.1 rfl (lv_room (Nat.le_of_ble_eq_true rfl)) dL_pulls_88 ⟨Nat.le_of_ble_eq_true rfl, Nat.le_of_ble_eq_true rfl⟩) hP hD hS hA hpm (fun r Wo8 H locs hpost hP hD hS => ?_)
      have hP : va_P g.1 vwCl ([(q2, .inl (g.2.1, (f 0), .inl ru)), (q3, .inl (g.2.1, 24, .inl he))] ++ Wo8) H := ub_P_perm List.perm_append_comm hP
      have hD : va_D A ([(q2, .inl (g.2.1, (f 0), .inl ru)), (q3, .inl (g.2.1, 24, .inl he))] ++ Wo8) := ub_D_perm List.perm_append_comm hD
      obtain ⟨hr, hR⟩ := hpost
      have er : r = nI (f (83 + 3 * i)) := hr.trans ((uw_waiting (i := 0) hI (by omega) (by decide)).trans (congrArg nI (congrArg f (by omega))))
      rw [er]
      refine lv_istore (lv' := [(6, .int (nI (f (83 + 3 * i)))), (5, .int (nI i)), (4, .int (nI (um_fc i f))), (0, .ref h0), (1, .int (nI (f 1))), (2, .ref q2), (3, .ref q3)]) hx hb dL_pulls_91 hl (by decide) rfl (fun ls hl => ?_)
      refine lv_aload_n hx hb dL_pulls_93 rfl (lv_at hl 3 rfl) ?_
      refine lv_iload hx hb dL_pulls_94 (lv_at hl 1 rfl) ?_
      refine lv_iconst (v := 1) hx hb dL_pulls_96 (by decide) ?_
      have hpm : List.Perm (([(q2, .inl (g.2.1, (f 0), .inl ru)), (q3, .inl (g.2.1, 24, .inl he))] ++ Wo8) : va_W) (Wo8 ++ [(q2, .inl (g.2.1, (f 0), .inl ru)), (q3, .inl (g.2.1, 24, .inl he))]) := List.perm_append_comm
      have hFc := ub_freeP hD hS hA hpm
      obtain ⟨hPc, hDc⟩ := ub_subP hP hD hpm
      refine us_calli (va_runV (As := [.int (nI i), .int 1]) (rest := []) ⟨hx, hb, hml, hown, hts⟩ (uo_waiting l g hR (x := (nI i)) (v := 1)) (cwV 2 hts gu_RL_109 rfl rfl rfl ⟨rfl, uhX8_waiting⟩ ⟨Nat.le_of_ble_eq_true rfl, Nat.le_of_ble_eq_true rfl⟩) (us_preO hR hZ hS hFc hPc hDc hK hN) rfl rfl hl.1 rfl (lv_room (Nat.le_of_ble_eq_true rfl)) dL_pulls_97 ⟨Nat.le_of_ble_eq_true rfl, Nat.le_of_ble_eq_true rfl⟩) hP hD hS hA hpm (fun r Wo9 H locs hpost hP hD hS => ?_)
      have hP : va_P g.1 vwCl ([(q2, .inl (g.2.1, (f 0), .inl ru)), (q3, .inl (g.2.1, 24, .inl he))] ++ Wo9) H := ub_P_perm List.perm_append_comm hP
      have hD : va_D A ([(q2, .inl (g.2.1, (f 0), .inl ru)), (q3, .inl (g.2.1, 24, .inl he))] ++ Wo9) := ub_D_perm List.perm_append_comm hD
      obtain ⟨hr, hR⟩ := hpost
      have er : r = nI (f (84 + 3 * i)) := hr.trans ((uw_waiting (i := 1) hI (by omega) (by decide)).trans (congrArg nI (congrArg f (by omega))))
      rw [er]
      refine lv_istore (lv' := [(7, .int (nI (f (84 + 3 * i)))), (6, .int (nI (f (83 + 3 * i)))), (5, .int (nI i)), (4, .int (nI (um_fc i f))), (0, .ref h0), (1, .int (nI (f 1))), (2, .ref q2), (3, .ref q3)]) hx hb dL_pulls_100 hl (by decide) rfl (fun ls hl => ?_)
      refine lv_aload_n hx hb dL_pulls_102 rfl (lv_at hl 4 rfl) ?_
      refine lv_iload hx hb dL_pulls_103 (lv_at hl 2 rfl) ?_
      refine lv_iconst (v := 2) hx hb dL_pulls_105 (by decide) ?_
      have hpm : List.Perm (([(q2, .inl (g.2.1, (f 0), .inl ru)), (q3, .inl (g.2.1, 24, .inl he))] ++ Wo9) : va_W) (Wo9 ++ [(q2, .inl (g.2.1, (f 0), .inl ru)), (q3, .inl (g.2.1, 24, .inl he))]) := List.perm_append_comm
      have hFc := ub_freeP hD hS hA hpm
      obtain ⟨hPc, hDc⟩ := ub_subP hP hD hpm
      refine us_calli (va_runV (As := [.int (nI i), .int 2]) (rest := []) ⟨hx, hb, hml, hown, hts⟩ (uo_waiting l g hR (x := (nI i)) (v := 2)) (cwV 2 hts gu_RL_109 rfl rfl rfl ⟨rfl, uhX8_waiting⟩ ⟨Nat.le_of_ble_eq_true rfl, Nat.le_of_ble_eq_true rfl⟩) (us_preO hR hZ hS hFc hPc hDc hK hN) rfl rfl hl.1 rfl (lv_room (Nat.le_of_ble_eq_true rfl)) dL_pulls_106 ⟨Nat.le_of_ble_eq_true rfl, Nat.le_of_ble_eq_true rfl⟩) hP hD hS hA hpm (fun r Wo10 H locs hpost hP hD hS => ?_)
      have hP : va_P g.1 vwCl ([(q2, .inl (g.2.1, (f 0), .inl ru)), (q3, .inl (g.2.1, 24, .inl he))] ++ Wo10) H := ub_P_perm List.perm_append_comm hP
      have hD : va_D A ([(q2, .inl (g.2.1, (f 0), .inl ru)), (q3, .inl (g.2.1, 24, .inl he))] ++ Wo10) := ub_D_perm List.perm_append_comm hD
      obtain ⟨hr, hR⟩ := hpost
      have er : r = nI (f (85 + 3 * i)) := hr.trans ((uw_waiting (i := 2) hI (by omega) (by decide)).trans (congrArg nI (congrArg f (by omega))))
      rw [er]
      refine lv_istore (lv' := [(8, .int (nI (f (85 + 3 * i)))), (7, .int (nI (f (84 + 3 * i)))), (6, .int (nI (f (83 + 3 * i)))), (5, .int (nI i)), (4, .int (nI (um_fc i f))), (0, .ref h0), (1, .int (nI (f 1))), (2, .ref q2), (3, .ref q3)]) hx hb dL_pulls_109 hl (by decide) rfl (fun ls hl => ?_)
      refine lv_iload hx hb dL_pulls_111 (lv_at hl 3 rfl) ?_
      by_cases hk0 : i = 0
      · refine lv_if_ne (tgt := 120) hx hb dL_pulls_113 (by decide) (fun cc => absurd (by rw [hk0]; rfl) cc) (fun _ => ?_)
        refine lv_iconst (v := 1) hx hb dL_pulls_116 (by decide) ?_
        refine lv_goto (tgt := 132) hx hb dL_pulls_117 (by decide) ?_
        refine lv_istore (lv' := [(9, .int 1), (8, .int (nI (f (85 + 3 * i)))), (7, .int (nI (f (84 + 3 * i)))), (6, .int (nI (f (83 + 3 * i)))), (5, .int (nI i)), (4, .int (nI (um_fc i f))), (0, .ref h0), (1, .int (nI (f 1))), (2, .ref q2), (3, .ref q3)]) hx hb dL_pulls_132 hl (by decide) rfl (fun ls hl => ?_)
        refine lv_iload hx hb dL_pulls_134 (lv_at hl 0 rfl) ?_
        refine lv_if_eq (tgt := 144) hx hb dL_pulls_136 (by decide) (fun cc => absurd cc (show ¬ (1 : Int32) = 0 by decide)) (fun _ => ?_)
        refine lv_iload hx hb dL_pulls_139 (lv_at hl 0 rfl) ?_
        refine lv_goto (tgt := 156) hx hb dL_pulls_141 (by decide) ?_
        refine lv_istore (lv' := [(9, .int 1), (8, .int (nI (f (85 + 3 * i)))), (7, .int (nI (f (84 + 3 * i)))), (6, .int (nI (f (83 + 3 * i)))), (5, .int (nI i)), (4, .int (nI (um_fc i f))), (0, .ref h0), (1, .int (nI (f 1))), (2, .ref q2), (3, .ref q3)]) hx hb dL_pulls_156 hl (by decide) rfl (fun ls hl => ?_)
        refine lv_iload hx hb dL_pulls_158 (lv_at hl 0 rfl) ?_
        refine lv_if_eq (tgt := 168) hx hb dL_pulls_160 (by decide) (fun cc => absurd cc (show ¬ (1 : Int32) = 0 by decide)) (fun _ => ?_)
        refine lv_iload hx hb dL_pulls_163 (lv_at hl 0 rfl) ?_
        refine lv_goto (tgt := 180) hx hb dL_pulls_165 (by decide) ?_
        refine lv_istore (lv' := [(9, .int 1), (8, .int (nI (f (85 + 3 * i)))), (7, .int (nI (f (84 + 3 * i)))), (6, .int (nI (f (83 + 3 * i)))), (5, .int (nI i)), (4, .int (nI (um_fc i f))), (0, .ref h0), (1, .int (nI (f 1))), (2, .ref q2), (3, .ref q3)]) hx hb dL_pulls_180 hl (by decide) rfl (fun ls hl => ?_)
        exact J182 1 Wo10 _ _ ls (by decide) hR (lv_sub hl [0, 1, 2, 3, 4, 5, 6, 7, 8, 9] rfl) hP hD hS
      · refine lv_if_ne (tgt := 120) hx hb dL_pulls_113 (by decide) (fun _ => ?_) (fun cc => absurd cc (nI_ne0 (by omega) (by omega)))
        have hK9 := hJ.1 (i - 1) i (by omega) hi1
        unfold uj_key at hK9
        obtain ⟨t1, t2, t3, t4⟩ := hPl (i - 1) (by omega)
        refine lv_iload hx hb dL_pulls_120 (lv_at hl 1 rfl) ?_
        refine lv_aload_n hx hb dL_pulls_122 rfl (lv_at hl 5 rfl) ?_
        refine lv_iload hx hb dL_pulls_123 (lv_at hl 3 rfl) ?_
        refine lv_iconst (v := 1) hx hb dL_pulls_125 (by decide) ?_
        refine lv_isub hx hb dL_pulls_126 ?_
        refine us_topi (x := nI (i - 1)) (pk_sub (a := i) (b := 1) (by omega)) ?_
        refine lv_iconst (v := 1) hx hb dL_pulls_127 (by decide) ?_
        have hpm : List.Perm (([(q2, .inl (g.2.1, (f 0), .inl ru)), (q3, .inl (g.2.1, 24, .inl he))] ++ Wo10) : va_W) (Wo10 ++ [(q2, .inl (g.2.1, (f 0), .inl ru)), (q3, .inl (g.2.1, 24, .inl he))]) := List.perm_append_comm
        have hFc := ub_freeP hD hS hA hpm
        obtain ⟨hPc, hDc⟩ := ub_subP hP hD hpm
        refine us_calli (va_runV (As := [.int (nI (i - 1)), .int 1]) (rest := [.int (nI (f (84 + 3 * i)))]) ⟨hx, hb, hml, hown, hts⟩ (uo_waiting l g hR (x := (nI (i - 1))) (v := 1)) (cwV 2 hts gu_RL_109 rfl rfl rfl ⟨rfl, uhX8_waiting⟩ ⟨Nat.le_of_ble_eq_true rfl, Nat.le_of_ble_eq_true rfl⟩) (us_preO hR hZ hS hFc hPc hDc hK hN) rfl rfl hl.1 rfl (lv_room (Nat.le_of_ble_eq_true rfl)) dL_pulls_128 ⟨Nat.le_of_ble_eq_true rfl, Nat.le_of_ble_eq_true rfl⟩) hP hD hS hA hpm (fun r Wo11 H locs hpost hP hD hS => ?_)
        have hP : va_P g.1 vwCl ([(q2, .inl (g.2.1, (f 0), .inl ru)), (q3, .inl (g.2.1, 24, .inl he))] ++ Wo11) H := ub_P_perm List.perm_append_comm hP
        have hD : va_D A ([(q2, .inl (g.2.1, (f 0), .inl ru)), (q3, .inl (g.2.1, 24, .inl he))] ++ Wo11) := ub_D_perm List.perm_append_comm hD
        obtain ⟨hr, hR⟩ := hpost
        have er : r = nI (f (84 + 3 * (i - 1))) := hr.trans ((uw_waiting (i := 1) hI (by omega) (by decide)).trans (congrArg nI (congrArg f (by omega))))
        rw [er]
        refine lv_isub hx hb dL_pulls_131 ?_
        refine lv_istore (lv' := [(9, .int ((nI (f (84 + 3 * i))) - (nI (f (84 + 3 * (i - 1)))))), (8, .int (nI (f (85 + 3 * i)))), (7, .int (nI (f (84 + 3 * i)))), (6, .int (nI (f (83 + 3 * i)))), (5, .int (nI i)), (4, .int (nI (um_fc i f))), (0, .ref h0), (1, .int (nI (f 1))), (2, .ref q2), (3, .ref q3)]) hx hb dL_pulls_132 hl (by decide) rfl (fun ls hl => ?_)
        refine lv_iload hx hb dL_pulls_134 (lv_at hl 0 rfl) ?_
        by_cases hh : f (84 + 3 * i) = f (84 + 3 * (i - 1))
        · refine lv_if_eq (tgt := 144) hx hb dL_pulls_136 (by decide) (fun _ => ?_) (fun cc => absurd ((um_sub_eq0 (by omega) (by omega)).mpr hh) cc)
          refine lv_aload_n hx hb dL_pulls_144 rfl (lv_at hl 6 rfl) ?_
          refine lv_iload hx hb dL_pulls_145 (lv_at hl 4 rfl) ?_
          refine lv_iconst (v := 1) hx hb dL_pulls_147 (by decide) ?_
          refine lv_isub hx hb dL_pulls_148 ?_
          refine us_topi (x := nI (i - 1)) (pk_sub (a := i) (b := 1) (by omega)) ?_
          refine lv_iconst (v := 2) hx hb dL_pulls_149 (by decide) ?_
          have hpm : List.Perm (([(q2, .inl (g.2.1, (f 0), .inl ru)), (q3, .inl (g.2.1, 24, .inl he))] ++ Wo11) : va_W) (Wo11 ++ [(q2, .inl (g.2.1, (f 0), .inl ru)), (q3, .inl (g.2.1, 24, .inl he))]) := List.perm_append_comm
          have hFc := ub_freeP hD hS hA hpm
          obtain ⟨hPc, hDc⟩ := ub_subP hP hD hpm
          refine us_calli (va_runV (As := [.int (nI (i - 1)), .int 2]) (rest := []) ⟨hx, hb, hml, hown, hts⟩ (uo_waiting l g hR (x := (nI (i - 1))) (v := 2)) (cwV 2 hts gu_RL_109 rfl rfl rfl ⟨rfl, uhX8_waiting⟩ ⟨Nat.le_of_ble_eq_true rfl, Nat.le_of_ble_eq_true rfl⟩) (us_preO hR hZ hS hFc hPc hDc hK hN) rfl rfl hl.1 rfl (lv_room (Nat.le_of_ble_eq_true rfl)) dL_pulls_150 ⟨Nat.le_of_ble_eq_true rfl, Nat.le_of_ble_eq_true rfl⟩) hP hD hS hA hpm (fun r Wo12 H locs hpost hP hD hS => ?_)
          have hP : va_P g.1 vwCl ([(q2, .inl (g.2.1, (f 0), .inl ru)), (q3, .inl (g.2.1, 24, .inl he))] ++ Wo12) H := ub_P_perm List.perm_append_comm hP
          have hD : va_D A ([(q2, .inl (g.2.1, (f 0), .inl ru)), (q3, .inl (g.2.1, 24, .inl he))] ++ Wo12) := ub_D_perm List.perm_append_comm hD
          obtain ⟨hr, hR⟩ := hpost
          have er : r = nI (f (85 + 3 * (i - 1))) := hr.trans ((uw_waiting (i := 2) hI (by omega) (by decide)).trans (congrArg nI (congrArg f (by omega))))
          rw [er]
          refine lv_iload hx hb dL_pulls_153 (lv_at hl 1 rfl) ?_
          refine lv_isub hx hb dL_pulls_155 ?_
          refine lv_istore (lv' := [(9, .int ((nI (f (85 + 3 * (i - 1)))) - (nI (f (85 + 3 * i))))), (8, .int (nI (f (85 + 3 * i)))), (7, .int (nI (f (84 + 3 * i)))), (6, .int (nI (f (83 + 3 * i)))), (5, .int (nI i)), (4, .int (nI (um_fc i f))), (0, .ref h0), (1, .int (nI (f 1))), (2, .ref q2), (3, .ref q3)]) hx hb dL_pulls_156 hl (by decide) rfl (fun ls hl => ?_)
          refine lv_iload hx hb dL_pulls_158 (lv_at hl 0 rfl) ?_
          by_cases hs : f (85 + 3 * (i - 1)) = f (85 + 3 * i)
          · refine lv_if_eq (tgt := 168) hx hb dL_pulls_160 (by decide) (fun _ => ?_) (fun cc => absurd ((um_sub_eq0 (by omega) (by omega)).mpr hs) cc)
            refine lv_iload hx hb dL_pulls_168 (lv_at hl 3 rfl) ?_
            refine lv_aload_n hx hb dL_pulls_170 rfl (lv_at hl 6 rfl) ?_
            refine lv_iload hx hb dL_pulls_171 (lv_at hl 4 rfl) ?_
            refine lv_iconst (v := 1) hx hb dL_pulls_173 (by decide) ?_
            refine lv_isub hx hb dL_pulls_174 ?_
            refine us_topi (x := nI (i - 1)) (pk_sub (a := i) (b := 1) (by omega)) ?_
            refine lv_iconst (v := 0) hx hb dL_pulls_175 (by decide) ?_
            have hpm : List.Perm (([(q2, .inl (g.2.1, (f 0), .inl ru)), (q3, .inl (g.2.1, 24, .inl he))] ++ Wo12) : va_W) (Wo12 ++ [(q2, .inl (g.2.1, (f 0), .inl ru)), (q3, .inl (g.2.1, 24, .inl he))]) := List.perm_append_comm
            have hFc := ub_freeP hD hS hA hpm
            obtain ⟨hPc, hDc⟩ := ub_subP hP hD hpm
            refine us_calli (va_runV (As := [.int (nI (i - 1)), .int 0]) (rest := [.int (nI (f (83 + 3 * i)))]) ⟨hx, hb, hml, hown, hts⟩ (uo_waiting l g hR (x := (nI (i - 1))) (v := 0)) (cwV 2 hts gu_RL_109 rfl rfl rfl ⟨rfl, uhX8_waiting⟩ ⟨Nat.le_of_ble_eq_true rfl, Nat.le_of_ble_eq_true rfl⟩) (us_preO hR hZ hS hFc hPc hDc hK hN) rfl rfl hl.1 rfl (lv_room (Nat.le_of_ble_eq_true rfl)) dL_pulls_176 ⟨Nat.le_of_ble_eq_true rfl, Nat.le_of_ble_eq_true rfl⟩) hP hD hS hA hpm (fun r Wo13 H locs hpost hP hD hS => ?_)
            have hP : va_P g.1 vwCl ([(q2, .inl (g.2.1, (f 0), .inl ru)), (q3, .inl (g.2.1, 24, .inl he))] ++ Wo13) H := ub_P_perm List.perm_append_comm hP
            have hD : va_D A ([(q2, .inl (g.2.1, (f 0), .inl ru)), (q3, .inl (g.2.1, 24, .inl he))] ++ Wo13) := ub_D_perm List.perm_append_comm hD
            obtain ⟨hr, hR⟩ := hpost
            have er : r = nI (f (83 + 3 * (i - 1))) := hr.trans ((uw_waiting (i := 0) hI (by omega) (by decide)).trans (congrArg nI (congrArg f (by omega))))
            rw [er]
            refine lv_isub hx hb dL_pulls_179 ?_
            refine lv_istore (lv' := [(9, .int ((nI (f (83 + 3 * i))) - (nI (f (83 + 3 * (i - 1)))))), (8, .int (nI (f (85 + 3 * i)))), (7, .int (nI (f (84 + 3 * i)))), (6, .int (nI (f (83 + 3 * i)))), (5, .int (nI i)), (4, .int (nI (um_fc i f))), (0, .ref h0), (1, .int (nI (f 1))), (2, .ref q2), (3, .ref q3)]) hx hb dL_pulls_180 hl (by decide) rfl (fun ls hl => ?_)
            exact J182 (nI (f (83 + 3 * i)) - nI (f (83 + 3 * (i - 1)))) Wo13 _ _ ls (fun z => by have := (um_sub_lt0 (by omega) (by omega)).mp z; omega) hR (lv_sub hl [0, 1, 2, 3, 4, 5, 6, 7, 8, 9] rfl) hP hD hS
          · refine lv_if_eq (tgt := 168) hx hb dL_pulls_160 (by decide) (fun cc => absurd cc (fun z => hs ((um_sub_eq0 (by omega) (by omega)).mp z))) (fun _ => ?_)
            refine lv_iload hx hb dL_pulls_163 (lv_at hl 0 rfl) ?_
            refine lv_goto (tgt := 180) hx hb dL_pulls_165 (by decide) ?_
            refine lv_istore (lv' := [(9, .int ((nI (f (85 + 3 * (i - 1)))) - (nI (f (85 + 3 * i))))), (8, .int (nI (f (85 + 3 * i)))), (7, .int (nI (f (84 + 3 * i)))), (6, .int (nI (f (83 + 3 * i)))), (5, .int (nI i)), (4, .int (nI (um_fc i f))), (0, .ref h0), (1, .int (nI (f 1))), (2, .ref q2), (3, .ref q3)]) hx hb dL_pulls_180 hl (by decide) rfl (fun ls hl => ?_)
            exact J182 (nI (f (85 + 3 * (i - 1))) - nI (f (85 + 3 * i))) Wo12 _ _ ls (fun z => by have := (um_sub_lt0 (by omega) (by omega)).mp z; omega) hR (lv_sub hl [0, 1, 2, 3, 4, 5, 6, 7, 8, 9] rfl) hP hD hS
        · refine lv_if_eq (tgt := 144) hx hb dL_pulls_136 (by decide) (fun cc => absurd cc (fun z => hh ((um_sub_eq0 (by omega) (by omega)).mp z))) (fun _ => ?_)
          refine lv_iload hx hb dL_pulls_139 (lv_at hl 0 rfl) ?_
          refine lv_goto (tgt := 156) hx hb dL_pulls_141 (by decide) ?_
          refine lv_istore (lv' := [(9, .int ((nI (f (84 + 3 * i))) - (nI (f (84 + 3 * (i - 1)))))), (8, .int (nI (f (85 + 3 * i)))), (7, .int (nI (f (84 + 3 * i)))), (6, .int (nI (f (83 + 3 * i)))), (5, .int (nI i)), (4, .int (nI (um_fc i f))), (0, .ref h0), (1, .int (nI (f 1))), (2, .ref q2), (3, .ref q3)]) hx hb dL_pulls_156 hl (by decide) rfl (fun ls hl => ?_)
          refine lv_iload hx hb dL_pulls_158 (lv_at hl 0 rfl) ?_
          refine lv_if_eq (tgt := 168) hx hb dL_pulls_160 (by decide) (fun cc => absurd cc (fun z => hh ((um_sub_eq0 (by omega) (by omega)).mp z))) (fun _ => ?_)
          refine lv_iload hx hb dL_pulls_163 (lv_at hl 0 rfl) ?_
          refine lv_goto (tgt := 180) hx hb dL_pulls_165 (by decide) ?_
          refine lv_istore (lv' := [(9, .int ((nI (f (84 + 3 * i))) - (nI (f (84 + 3 * (i - 1)))))), (8, .int (nI (f (85 + 3 * i)))), (7, .int (nI (f (84 + 3 * i)))), (6, .int (nI (f (83 + 3 * i)))), (5, .int (nI i)), (4, .int (nI (um_fc i f))), (0, .ref h0), (1, .int (nI (f 1))), (2, .ref q2), (3, .ref q3)]) hx hb dL_pulls_180 hl (by decide) rfl (fun ls hl => ?_)
          exact J182 (nI (f (84 + 3 * i)) - nI (f (84 + 3 * (i - 1)))) Wo11 _ _ ls (fun z => by have := (um_sub_lt0 (by omega) (by omega)).mp z; omega) hR (lv_sub hl [0, 1, 2, 3, 4, 5, 6, 7, 8, 9] rfl) hP hD hS
  have loopB : ∀ (q i : Nat) (ru : Nat → Int32) (he : Nat → Int32) (Wo : va_W) (H : Heap) (locs : List Loc) (ls : Array Slot), 24 = i + q → (∀ r, r < f 0 → ru r = nI (f (13 + 6 * r))) → (∀ t, t < i → he t = nI (f (211 + t))) → uo_W g h0 k f hist sv lr ld L Wo → lv_has ls 11 [(5, .int (nI i)), (4, .int 0), (0, .ref h0), (1, .int (nI (f 1))), (2, .ref q2), (3, .ref q3)] → va_P g.1 vwCl ([(q2, .inl (g.2.1, (f 0), .inl ru)), (q3, .inl (g.2.1, 24, .inl he))] ++ Wo) H → va_D A ([(q2, .inl (g.2.1, (f 0), .inl ru)), (q3, .inl (g.2.1, 24, .inl he))] ++ Wo) → va_S A s.heap H locs → W p l e ({ frames := 5, cells := 2, slots := 36, locals := 112 } : Room) s m args below meth c H locs 2 36 Q (F0 m 52 ls []) := by
    intro q
    induction q with
    | zero =>
      intro i ru he Wo H locs ls hiq g2 g3 hR hl hP hD hS
      refine lv_iload hx hb dL_pulls_52 (lv_at hl 0 rfl) ?_
      refine lv_bipush (v := 24) hx hb dL_pulls_54 (by decide) ?_
      have ei : i = 24 := by omega
      refine lv_icmp_ge (tgt := 75) hx hb dL_pulls_56 (by decide) (fun _ => ?_) (fun cc => absurd (nI_le (a := 24) (by omega) (by omega)) cc)
      refine lv_iconst (v := 0) hx hb dL_pulls_75 (by decide) ?_
      refine lv_istore (lv' := [(5, .int 0), (4, .int 0), (0, .ref h0), (1, .int (nI (f 1))), (2, .ref q2), (3, .ref q3)]) hx hb dL_pulls_76 hl (by decide) rfl (fun ls hl => ?_)
      rw [ei] at g3
      exact loopC (f 1) 0 ru he Wo _ _ ls (by omega) g2 g3 hR (lv_sub hl [0, 1, 2, 3, 4, 5] rfl) hP hD hS
    | succ q ih =>
      intro i ru he Wo H locs ls hiq g2 g3 hR hl hP hD hS
      refine lv_iload hx hb dL_pulls_52 (lv_at hl 0 rfl) ?_
      refine lv_bipush (v := 24) hx hb dL_pulls_54 (by decide) ?_
      refine lv_icmp_ge (tgt := 75) hx hb dL_pulls_56 (by decide) (fun cc => absurd cc (nI_ge (b := 24) (by omega) (by decide))) (fun _ => ?_)
      refine lv_aload_n hx hb dL_pulls_59 rfl (lv_at hl 5 rfl) ?_
      refine lv_iload hx hb dL_pulls_60 (lv_at hl 0 rfl) ?_
      refine lv_aload_n hx hb dL_pulls_62 rfl (lv_at hl 2 rfl) ?_
      refine lv_iload hx hb dL_pulls_63 (lv_at hl 0 rfl) ?_
      have hpm : List.Perm (([(q2, .inl (g.2.1, (f 0), .inl ru)), (q3, .inl (g.2.1, 24, .inl he))] ++ Wo) : va_W) (Wo ++ [(q2, .inl (g.2.1, (f 0), .inl ru)), (q3, .inl (g.2.1, 24, .inl he))]) := List.perm_append_comm
      have hFc := ub_freeP hD hS hA hpm
      obtain ⟨hPc, hDc⟩ := ub_subP hP hD hpm
      refine us_calli (va_runV (As := [.int (nI i)]) (rest := [.int (nI i), .ref q3]) ⟨hx, hb, hml, hown, hts⟩ (uo_answered l g hR (x := (nI i))) (cwV 1 hts gu_RL_103 rfl rfl rfl ⟨rfl, uhX8_answered⟩ ⟨Nat.le_of_ble_eq_true rfl, Nat.le_of_ble_eq_true rfl⟩) (us_preO hR hZ hS hFc hPc hDc hK hN) rfl rfl hl.1 rfl (lv_room (Nat.le_of_ble_eq_true rfl)) dL_pulls_65 ⟨Nat.le_of_ble_eq_true rfl, Nat.le_of_ble_eq_true rfl⟩) hP hD hS hA hpm (fun r Wo14 H locs hpost hP hD hS => ?_)
      have hP : va_P g.1 vwCl ([(q2, .inl (g.2.1, (f 0), .inl ru)), (q3, .inl (g.2.1, 24, .inl he))] ++ Wo14) H := ub_P_perm List.perm_append_comm hP
      have hD : va_D A ([(q2, .inl (g.2.1, (f 0), .inl ru)), (q3, .inl (g.2.1, 24, .inl he))] ++ Wo14) := ub_D_perm List.perm_append_comm hD
      obtain ⟨hr, hR⟩ := hpost
      have er : r = nI (f (211 + i)) := hr.trans (uw_answered (by omega))
      rw [er]
      refine va_iast hx hb hK hP hD hS 1 0 rfl rfl (i := nI i) (vp_in_nI (by omega) (by decide)) dL_pulls_68 (fun H locs hP hD hS => ?_)
      rw [nI_clamp (show i < 2 ^ 31 by omega)] at hP hD
      have hP : va_P g.1 vwCl ([(q2, .inl (g.2.1, (f 0), .inl ru)), (q3, .inl (g.2.1, 24, .inl (upd he i (nI (f (211 + i))))))] ++ Wo14) H := hP
      have hD : va_D A ([(q2, .inl (g.2.1, (f 0), .inl ru)), (q3, .inl (g.2.1, 24, .inl (upd he i (nI (f (211 + i))))))] ++ Wo14) := hD
      refine lv_iinc (v := nI i + 1) (lv' := [(5, .int (nI i + 1)), (4, .int 0), (0, .ref h0), (1, .int (nI (f 1))), (2, .ref q2), (3, .ref q3)]) hx hb dL_pulls_69 hl (k := 0) rfl rfl (by decide) rfl (fun ls hl => ?_)
      refine lv_goto (tgt := 52) hx hb dL_pulls_72 (by decide) ?_
      rw [nI_1] at hl
      exact ih (i + 1) ru (upd he i (nI (f (211 + i)))) Wo14 _ _ ls (by omega) g2 (up_b (g := fun t => f (211 + t)) g3 rfl) hR (lv_sub hl [0, 1, 2, 3, 4, 5] rfl) hP hD hS
  have loopA : ∀ (q i : Nat) (ru : Nat → Int32) (Wo : va_W) (H : Heap) (locs : List Loc) (ls : Array Slot), f 0 = i + q → (∀ r, r < i → ru r = nI (f (13 + 6 * r))) → uo_W g h0 k f hist sv lr ld L Wo → lv_has ls 11 [(5, .int (nI i)), (4, .int 0), (0, .ref h0), (1, .int (nI (f 1))), (2, .ref q2), (3, .ref q3)] → va_P g.1 vwCl ([(q2, .inl (g.2.1, (f 0), .inl ru)), (q3, .inl (g.2.1, 24, .inl (fun _ => 0)))] ++ Wo) H → va_D A ([(q2, .inl (g.2.1, (f 0), .inl ru)), (q3, .inl (g.2.1, 24, .inl (fun _ => 0)))] ++ Wo) → va_S A s.heap H locs → W p l e ({ frames := 5, cells := 2, slots := 36, locals := 112 } : Room) s m args below meth c H locs 2 36 Q (F0 m 25 ls []) := by
    intro q
    induction q with
    | zero =>
      intro i ru Wo H locs ls hiq g2 hR hl hP hD hS
      refine lv_iload hx hb dL_pulls_25 (lv_at hl 0 rfl) ?_
      refine lv_aload_n hx hb dL_pulls_27 rfl (lv_at hl 4 rfl) ?_
      refine va_alen (v := Int32.ofNat (f 0)) hx hb hK hP 0 0 rfl rfl rfl dL_pulls_28 ?_
      refine us_topi (x := nI (f 0)) rfl ?_
      have ei : i = f 0 := by omega
      refine lv_icmp_ge (tgt := 49) hx hb dL_pulls_29 (by decide) (fun _ => ?_) (fun cc => absurd (nI_le (by omega) (by omega)) cc)
      refine lv_iconst (v := 0) hx hb dL_pulls_49 (by decide) ?_
      refine lv_istore (lv' := [(5, .int 0), (4, .int 0), (0, .ref h0), (1, .int (nI (f 1))), (2, .ref q2), (3, .ref q3)]) hx hb dL_pulls_50 hl (by decide) rfl (fun ls hl => ?_)
      rw [ei] at g2
      exact loopB 24 0 ru (fun _ => 0) Wo _ _ ls (by omega) g2 (fun t ht => absurd ht (Nat.not_lt_zero t)) hR (lv_sub hl [0, 1, 2, 3, 4, 5] rfl) hP hD hS
    | succ q ih =>
      intro i ru Wo H locs ls hiq g2 hR hl hP hD hS
      refine lv_iload hx hb dL_pulls_25 (lv_at hl 0 rfl) ?_
      refine lv_aload_n hx hb dL_pulls_27 rfl (lv_at hl 4 rfl) ?_
      refine va_alen (v := Int32.ofNat (f 0)) hx hb hK hP 0 0 rfl rfl rfl dL_pulls_28 ?_
      refine us_topi (x := nI (f 0)) rfl ?_
      refine lv_icmp_ge (tgt := 49) hx hb dL_pulls_29 (by decide) (fun cc => absurd cc (nI_ge (by omega) (by omega))) (fun _ => ?_)
      refine lv_aload_n hx hb dL_pulls_32 rfl (lv_at hl 4 rfl) ?_
      refine lv_iload hx hb dL_pulls_33 (lv_at hl 0 rfl) ?_
      refine lv_aload_n hx hb dL_pulls_35 rfl (lv_at hl 2 rfl) ?_
      refine lv_iload hx hb dL_pulls_36 (lv_at hl 0 rfl) ?_
      refine lv_iconst (v := 2) hx hb dL_pulls_38 (by decide) ?_
      have hpm : List.Perm (([(q2, .inl (g.2.1, (f 0), .inl ru)), (q3, .inl (g.2.1, 24, .inl (fun _ => 0)))] ++ Wo) : va_W) (Wo ++ [(q2, .inl (g.2.1, (f 0), .inl ru)), (q3, .inl (g.2.1, 24, .inl (fun _ => 0)))]) := List.perm_append_comm
      have hFc := ub_freeP hD hS hA hpm
      obtain ⟨hPc, hDc⟩ := ub_subP hP hD hpm
      refine us_calli (va_runV (As := [.int (nI i), .int 2]) (rest := [.int (nI i), .ref q2]) ⟨hx, hb, hml, hown, hts⟩ (uo_ropeOf l g hR (x := (nI i)) (v := 2)) (cwV 2 hts gu_RL_100 rfl rfl rfl ⟨rfl, uhX8_ropeOf⟩ ⟨Nat.le_of_ble_eq_true rfl, Nat.le_of_ble_eq_true rfl⟩) (us_preO hR hZ hS hFc hPc hDc hK hN) rfl rfl hl.1 rfl (lv_room (Nat.le_of_ble_eq_true rfl)) dL_pulls_39 ⟨Nat.le_of_ble_eq_true rfl, Nat.le_of_ble_eq_true rfl⟩) hP hD hS hA hpm (fun r Wo15 H locs hpost hP hD hS => ?_)
      have hP : va_P g.1 vwCl ([(q2, .inl (g.2.1, (f 0), .inl ru)), (q3, .inl (g.2.1, 24, .inl (fun _ => 0)))] ++ Wo15) H := ub_P_perm List.perm_append_comm hP
      have hD : va_D A ([(q2, .inl (g.2.1, (f 0), .inl ru)), (q3, .inl (g.2.1, 24, .inl (fun _ => 0)))] ++ Wo15) := ub_D_perm List.perm_append_comm hD
      obtain ⟨hr, hR⟩ := hpost
      have er : r = nI (f (13 + 6 * i)) := hr.trans ((uw_ropeOf (i := 2) hI (by omega) (by decide)).trans (congrArg nI (congrArg f (by omega))))
      rw [er]
      refine va_iast hx hb hK hP hD hS 0 0 rfl rfl (i := nI i) (vp_in_nI (by omega) (by omega)) dL_pulls_42 (fun H locs hP hD hS => ?_)
      rw [nI_clamp (show i < 2 ^ 31 by omega)] at hP hD
      have hP : va_P g.1 vwCl ([(q2, .inl (g.2.1, (f 0), .inl (upd ru i (nI (f (13 + 6 * i)))))), (q3, .inl (g.2.1, 24, .inl (fun _ => 0)))] ++ Wo15) H := hP
      have hD : va_D A ([(q2, .inl (g.2.1, (f 0), .inl (upd ru i (nI (f (13 + 6 * i)))))), (q3, .inl (g.2.1, 24, .inl (fun _ => 0)))] ++ Wo15) := hD
      refine lv_iinc (v := nI i + 1) (lv' := [(5, .int (nI i + 1)), (4, .int 0), (0, .ref h0), (1, .int (nI (f 1))), (2, .ref q2), (3, .ref q3)]) hx hb dL_pulls_43 hl (k := 0) rfl rfl (by decide) rfl (fun ls hl => ?_)
      refine lv_goto (tgt := 25) hx hb dL_pulls_46 (by decide) ?_
      rw [nI_1] at hl
      exact ih (i + 1) (upd ru i (nI (f (13 + 6 * i)))) Wo15 _ _ ls (by omega) (up_b (g := fun r => f (13 + 6 * r)) g2 rfl) hR (lv_sub hl [0, 1, 2, 3, 4, 5] rfl) hP hD hS
  exact loopA (f 0) 0 (fun _ => 0) Wo2 _ _ ls (by omega) (fun r hr => absurd hr (Nat.not_lt_zero r)) hR (lv_sub hl [0, 1, 5, 4, 3, 2] rfl) hP hD hS

