/-! ===== the next ring and the end of the day as foretold ===== -/
theorem uk_comp : ∀ (m n : Nat) (f : Nat → Nat), um_rings n (um_rings m f) = um_rings (m + n) f
  | m, 0, f => rfl
  | m, n + 1, f => by
    rw [up_s, uk_comp m n f, ← up_s]
    rfl
theorem uk_hr {h : Nat} : ∀ (k : Nat) (f : Nat → Nat), ∃ m, m ≤ k ∧ (uq_hr h k f).1 = um_rings m f ∧ (0 < k → f 84 = h → 1 ≤ m)
  | 0, _ => ⟨0, Nat.le_refl 0, rfl, fun z => absurd z (Nat.lt_irrefl 0)⟩
  | k + 1, f => by
    obtain ⟨m, h1, h2, -⟩ := uk_hr (h := h) k (um_ringF f)
    rw [uq_hr]
    by_cases e : f 84 = h
    · rw [if_pos e]
      exact ⟨m + 1, by omega, h2, fun _ _ => by omega⟩
    · rw [if_neg e]
      exact ⟨0, Nat.zero_le _, rfl, fun _ z => absurd z e⟩
/-- an hour rung is some rings more -/
theorem uk_hour {f g f' : Nat → Nat} {c m : Nat} {y : Int32} (hI : um_I f c) (hm : m < f 1) (hg : g = um_rings m f) (hU : uq_hour g f' y) : ∃ m2, m < m2 ∧ m2 ≤ f 1 ∧ f' = um_rings m2 f := by
  obtain ⟨a1, a2, -⟩ := up_all hI m (by omega)
  subst hg
  rcases hU with ⟨h1, -, -⟩ | ⟨h1, -, h3⟩
  · omega
  · obtain ⟨q, q1, q2, q3⟩ := uk_hr (h := um_rings m f 84) (um_rings m f 1) (um_rings m f)
    have := q3 h1 rfl
    exact ⟨m + q, by omega, by omega, by rw [h3, q2, uk_comp]⟩
theorem uk_5 {f : Nat → Nat} {c : Nat} (hI : um_I f c) : ∀ k, k ≤ f 1 → um_rings k f 5 = f 5 + um_fc k f
  | 0, _ => rfl
  | k + 1, hk => by
    obtain ⟨e1, e2, e3⟩ := up_first hI (show k < f 1 by omega)
    have hq := hI.2.2.2.2.2.2.2.2.2.2.2.2.2.2.1 k (by omega)
    have := hI.2.1
    have hr := (um_ring_read (f := um_rings k f) (by omega) (by omega)).1
    rw [up_s, hr, uk_5 hI k (by omega), up_fc]
    omega
theorem uk_bit {f : Nat → Nat} {c : Nat} (hI : um_I f c) (h1 : 0 < f 1) : (um_ringF f (211 + f 84)).testBit (f 83) = decide (¬ um_ringR f = 0) := by
  have hq := hI.2.2.2.2.2.2.2.2.2.2.2.2.2.2.1 0 h1
  have hq1 : f 83 < f 0 := hq.1
  have hq2 : f 84 < 24 := hq.2.1
  have := hI.2.1
  obtain ⟨-, -, -, -, -, -, -, g2⟩ := um_ring_read (f := f) (by omega) hq2
  rw [g2 _ hq2]
  by_cases hb : (f (211 + f 84)).testBit (f 83) = true
  · have e : um_ringR f = 2 := if_pos hb
    rw [e, if_neg (fun z => absurd z.1 (by decide)), hb]
    rfl
  · by_cases e : um_ringR f = 1
    · rw [e, if_pos ⟨rfl, rfl⟩, Nat.testBit_or, Nat.testBit_two_pow_self, Bool.or_true]
      rfl
    · have e0 : um_ringR f = 0 := by
        have hlt := um_ringR_lt (f := f)
        have h2 : um_ringR f ≠ 2 := fun z => by
          unfold um_ringR at z
          rw [if_neg hb] at z
          split at z <;> omega
        omega
      rw [e0, if_neg (fun z => absurd z.1 (by decide)), Bool.eq_false_iff.mpr hb]
      rfl
theorem uk_due {f : Nat → Nat} (hb : ¬ (f (211 + f 84)).testBit (f 83) = true) : um_b2n (decide (f (12 + 6 * f 83) = 1) && decide (f (13 + 6 * f 83) < f 85)) = um_ringR f := by
  unfold um_ringR
  rw [if_neg hb]
  by_cases a : f (12 + 6 * f 83) = 1
  · by_cases b : f (13 + 6 * f 83) < f 85
    · rw [if_pos ⟨a, b⟩, decide_eq_true a, decide_eq_true b]
      rfl
    · rw [if_neg (fun z => b z.2), decide_eq_true a, decide_eq_false b]
      rfl
  · rw [if_neg (fun z => a z.1), decide_eq_false a]
    rfl
theorem uk_max : ∀ x, x < 10 → (if (0 : Int32) < nI x - 1 then nI x - 1 else 0) = nI (x - 1) := by decide +kernel
theorem uk_less {f : Nat → Nat} {c : Nat} (hI : um_I f c) : um_sum (fun r => um_endF f (13 + 6 * r)) (um_endF f 0) = um_sum (fun r => um_less (um_hd f) (fun r => f (13 + 6 * r)) r) (f 0) := by
  have h12 := hI.2.1
  obtain ⟨e0, -, -, -, -, -, -, -, -, -, -, er, -⟩ := um_end_read h12 (fun k hk => by have := (hI.2.2.2.2.2.2.2.2.2.2.2.2.2.2.1 k hk).1; omega)
  rw [e0]
  exact um_sum_congr (fun r hr => by rw [(er r (by omega)).2.2.1, if_pos hr]; rfl)
theorem us_hL_foretold : yL_foretold.cls ≠ "java/lang/invoke/MethodHandle" ∧ yL_foretold.cls ≠ "java/lang/invoke/VarHandle" ∧ (parseMethodDescriptor yL_foretold.desc).map (fun d => d.parameters.length) = some 1 := by decide +kernel
set_option maxHeartbeats 4000000 in
set_option maxRecDepth 100000 in
theorem ul_foretold (l : Launch) (g : us_G) {sz : Nat} {h0 k : Nat} {f : Nat → Nat} {hist : List (Nat → Nat)} {sv : Option (Nat → Nat)} {lr ld : Int32} {L : List Nat} {Wo : va_W} (hR : uo_W g h0 k f hist sv lr ld L Wo) (hk4 : k + 40 ≤ 16384) : Met l yL_foretold wsL_foretold ({ frames := 6, cells := 530, slots := 7400, locals := 133 } : Room) (va_Pc [.ref h0] (us_pc g Wo sz)) (va_Qi (fun (r : Int32) (u : va_W) => r = 1 ∧ ∃ (lr2 ld2 : Int32) (L2 : List Nat), uo_W g h0 (k + 40) f [] (some f) lr2 ld2 L2 u) (fun u t => ub_pq g.1 u (va_A Wo sz) t) (va_A Wo sz)) 530 7400 (va_A Wo sz) := by
  refine us_met_i (y := yL_foretold) (cc := cL_foretold) (nL := 12) (av := [.ref h0]) (post := (fun (r : Int32) (u : va_W) => r = 1 ∧ ∃ (lr2 ld2 : Int32) (L2 : List Nat), uo_W g h0 (k + 40) f [] (some f) lr2 ld2 L2 u)) (by decide +kernel) (Nat.le_of_ble_eq_true rfl) fun p e s m args below meth c Q A K hret ls hl hP hD hS => ?_
  obtain ⟨hx, hb, hml, hown, hts, hK, hN, hA, hZ⟩ := K
  have hl : lv_has ls 12 [(0, .ref h0)] := hl
  have hI := (uo_W_len hR).2
  have q1 : f 0 ≤ 12 := hI.2.1
  have q2 : f 1 ≤ 16 := hI.2.2.1
  have hPl := hI.2.2.2.2.2.2.2.2.2.2.2.2.2.2.1
  have hk9 : k + 40 ≤ 2 ^ 20 := Nat.le_trans hk4 (by decide)
  refine lv_aload_n hx hb dL_foretold_0 rfl (lv_at hl 0 rfl) ?_
  have hpm : (Wo : va_W).Perm (Wo ++ ([] : va_W)) := List.Perm.of_eq (List.append_nil _).symm
  have hFc := ub_freeP hD hS hA hpm
  obtain ⟨hPc, hDc⟩ := ub_subP hP hD hpm
  refine us_calli (va_runV (As := []) (rest := []) ⟨hx, hb, hml, hown, hts⟩ (uo_save l g hR) (cwV 0 hts gu_RL_176 rfl rfl rfl ⟨rfl, uhX8_saveS⟩ ⟨Nat.le_of_ble_eq_true rfl, Nat.le_of_ble_eq_true rfl⟩) (us_preO hR hZ hS hFc hPc hDc hK hN) rfl rfl hl.1 rfl (lv_room (Nat.le_of_ble_eq_true rfl)) dL_foretold_1 ⟨by show 0 + 18 ≤ 530; omega, by show 0 + 253 ≤ 7400; omega⟩) hP hD hS hA hpm (fun r Wo1 H locs hpost hP hD hS => ?_)
  have hP : va_P g.1 vwCl Wo1 H := by have h9 := hP; rw [List.append_nil] at h9; exact h9
  have hD : va_D A Wo1 := by have h9 := hD; rw [List.append_nil] at h9; exact h9
  obtain ⟨hr, hR⟩ := hpost
  refine W.widen (k := 0 + 18) (n := 0 + 253) (by omega) (by omega) ?_
  have er : r = nI (f 0) := hr
  rw [er]
  refine lv_istore_n (lv' := [(1, .int (nI (f 0))), (0, .ref h0)]) hx hb dL_foretold_4 rfl hl (by decide) rfl (fun ls hl => ?_)
  refine lv_aload_n hx hb dL_foretold_5 rfl (lv_at hl 1 rfl) ?_
  refine lv_iconst (v := 1) hx hb dL_foretold_6 (by decide) ?_
  have hpm : (Wo1 : va_W).Perm (Wo1 ++ ([] : va_W)) := List.Perm.of_eq (List.append_nil _).symm
  have hFc := ub_freeP hD hS hA hpm
  obtain ⟨hPc, hDc⟩ := ub_subP hP hD hpm
  refine us_calli (va_runV (As := [.int 1]) (rest := []) ⟨hx, hb, hml, hown, hts⟩ (uo_account l g hR (x := 1)) (cwV 1 hts gu_RL_34 rfl rfl rfl ⟨rfl, uhX8_account⟩ ⟨Nat.le_of_ble_eq_true rfl, Nat.le_of_ble_eq_true rfl⟩) (us_preO hR hZ hS hFc hPc hDc hK hN) rfl rfl hl.1 rfl (lv_room (Nat.le_of_ble_eq_true rfl)) dL_foretold_7 ⟨Nat.le_trans (Nat.le_of_eq (Nat.add_zero _)) (by show (0 + 18) ≤ 530; omega), Nat.le_trans (Nat.le_of_eq (Nat.add_zero _)) (by show (0 + 253) ≤ 7400; omega)⟩) hP hD hS hA hpm (fun r Wo2 H locs hpost hP hD hS => ?_)
  have hP : va_P g.1 vwCl Wo2 H := by have h9 := hP; rw [List.append_nil] at h9; exact h9
  have hD : va_D A Wo2 := by have h9 := hD; rw [List.append_nil] at h9; exact h9
  obtain ⟨hr, hR⟩ := hpost
  have er : r = nI (f 1) := by rw [hr]; rfl
  rw [er]
  refine lv_istore_n (lv' := [(2, .int (nI (f 1))), (1, .int (nI (f 0))), (0, .ref h0)]) hx hb dL_foretold_10 rfl hl (by decide) rfl (fun ls hl => ?_)
  refine lv_aload_n hx hb dL_foretold_11 rfl (lv_at hl 2 rfl) ?_
  have hpm : (Wo2 : va_W).Perm (Wo2 ++ ([] : va_W)) := List.Perm.of_eq (List.append_nil _).symm
  have hFc := ub_freeP hD hS hA hpm
  obtain ⟨hPc, hDc⟩ := ub_subP hP hD hpm
  refine us_calli (va_runV (As := []) (rest := []) ⟨hx, hb, hml, hown, hts⟩ (uo_forecast l g hR ) (cwV 0 hts gu_RL_112 rfl rfl rfl ⟨rfl, uhX8_forecast⟩ ⟨Nat.le_of_ble_eq_true rfl, Nat.le_of_ble_eq_true rfl⟩) (us_preO hR hZ hS hFc hPc hDc hK hN) rfl rfl hl.1 rfl (lv_room (Nat.le_of_ble_eq_true rfl)) dL_foretold_12 ⟨Nat.le_trans (Nat.le_of_eq (Nat.add_zero _)) (by show (0 + 18) ≤ 530; omega), Nat.le_trans (Nat.le_of_eq (Nat.add_zero _)) (by show (0 + 253) ≤ 7400; omega)⟩) hP hD hS hA hpm (fun r Wo3 H locs hpost hP hD hS => ?_)
  have hP : va_P g.1 vwCl Wo3 H := by have h9 := hP; rw [List.append_nil] at h9; exact h9
  have hD : va_D A Wo3 := by have h9 := hD; rw [List.append_nil] at h9; exact h9
  obtain ⟨hr, hR⟩ := hpost
  have er : r = nI (um_fc (f 1) f) := hr
  rw [er]
  refine lv_istore_n (lv' := [(3, .int (nI (um_fc (f 1) f))), (2, .int (nI (f 1))), (1, .int (nI (f 0))), (0, .ref h0)]) hx hb dL_foretold_15 rfl hl (by decide) rfl (fun ls hl => ?_)
  refine lv_aload_n hx hb dL_foretold_16 rfl (lv_at hl 3 rfl) ?_
  refine lv_iconst (v := 5) hx hb dL_foretold_17 (by decide) ?_
  have hpm : (Wo3 : va_W).Perm (Wo3 ++ ([] : va_W)) := List.Perm.of_eq (List.append_nil _).symm
  have hFc := ub_freeP hD hS hA hpm
  obtain ⟨hPc, hDc⟩ := ub_subP hP hD hpm
  refine us_calli (va_runV (As := [.int 5]) (rest := []) ⟨hx, hb, hml, hown, hts⟩ (uo_account l g hR (x := 5)) (cwV 1 hts gu_RL_34 rfl rfl rfl ⟨rfl, uhX8_account⟩ ⟨Nat.le_of_ble_eq_true rfl, Nat.le_of_ble_eq_true rfl⟩) (us_preO hR hZ hS hFc hPc hDc hK hN) rfl rfl hl.1 rfl (lv_room (Nat.le_of_ble_eq_true rfl)) dL_foretold_18 ⟨Nat.le_trans (Nat.le_of_eq (Nat.add_zero _)) (by show (0 + 18) ≤ 530; omega), Nat.le_trans (Nat.le_of_eq (Nat.add_zero _)) (by show (0 + 253) ≤ 7400; omega)⟩) hP hD hS hA hpm (fun r Wo4 H locs hpost hP hD hS => ?_)
  have hP : va_P g.1 vwCl Wo4 H := by have h9 := hP; rw [List.append_nil] at h9; exact h9
  have hD : va_D A Wo4 := by have h9 := hD; rw [List.append_nil] at h9; exact h9
  obtain ⟨hr, hR⟩ := hpost
  have er : r = nI (f 5) := by rw [hr]; rfl
  rw [er]
  refine lv_istore (lv' := [(4, .int (nI (f 5))), (3, .int (nI (um_fc (f 1) f))), (2, .int (nI (f 1))), (1, .int (nI (f 0))), (0, .ref h0)]) hx hb dL_foretold_21 hl (by decide) rfl (fun ls hl => ?_)
  refine lv_iconst (v := 1) hx hb dL_foretold_23 (by decide) ?_
  refine lv_istore (lv' := [(5, .int 1), (4, .int (nI (f 5))), (3, .int (nI (um_fc (f 1) f))), (2, .int (nI (f 1))), (1, .int (nI (f 0))), (0, .ref h0)]) hx hb dL_foretold_24 hl (by decide) rfl (fun ls hl => ?_)
  refine lv_iload_n hx hb dL_foretold_26 rfl (lv_at hl 3 rfl) ?_
  have J257 : ∀ (f2 : Nat → Nat) (hist2 : List (Nat → Nat)) (lr2 : Int32) (ld2 : Int32) (L2 : List Nat) (Wo : va_W) (H : Heap) (locs : List Loc) (ls : Array Slot), uo_W g h0 (k + 30) f2 hist2 (some f) lr2 ld2 L2 Wo → lv_has ls 12 [(0, .ref h0), (1, .int (nI (f 0))), (2, .int (nI (f 1))), (3, .int (nI (um_fc (f 1) f))), (4, .int (nI (f 5))), (5, .int 1)] → va_P g.1 vwCl Wo H → va_D A Wo → va_S A s.heap H locs → W p l e ({ frames := 6, cells := 530, slots := 7400, locals := 133 } : Room) s m args below meth c H locs 468 6578 Q (F0 m 257 ls []) := by
    intro f2 hist2 lr2 ld2 L2 Wo H locs ls hR hl hP hD hS
    refine lv_iload hx hb dL_foretold_257 (lv_at hl 5 rfl) ?_
    refine lv_aload_n hx hb dL_foretold_259 rfl (lv_at hl 0 rfl) ?_
    have hpm : (Wo : va_W).Perm (Wo ++ ([] : va_W)) := List.Perm.of_eq (List.append_nil _).symm
    have hFc := ub_freeP hD hS hA hpm
    obtain ⟨hPc, hDc⟩ := ub_subP hP hD hpm
    refine us_calli (va_runV (As := []) (rest := [.int 1]) ⟨hx, hb, hml, hown, hts⟩ (uo_restoreS l g hR) (cwV 0 hts gu_RL_183 rfl rfl rfl ⟨rfl, uhX8_restoreS⟩ ⟨Nat.le_of_ble_eq_true rfl, Nat.le_of_ble_eq_true rfl⟩) (us_preO hR hZ hS hFc hPc hDc hK hN) rfl rfl hl.1 rfl (lv_room (Nat.le_of_ble_eq_true rfl)) dL_foretold_260 ⟨Nat.le_of_ble_eq_true rfl, Nat.le_of_ble_eq_true rfl⟩) hP hD hS hA hpm (fun r Wo5 H locs hpost hP hD hS => ?_)
    have hP : va_P g.1 vwCl Wo5 H := by have h9 := hP; rw [List.append_nil] at h9; exact h9
    have hD : va_D A Wo5 := by have h9 := hD; rw [List.append_nil] at h9; exact h9
    obtain ⟨hr, hR⟩ := hpost
    have er : r = nI (f 0) := hr
    rw [er]
    refine lv_iload_n hx hb dL_foretold_263 rfl (lv_at hl 1 rfl) ?_
    refine lv_icmp_ne (tgt := 271) hx hb dL_foretold_264 (by decide) (fun cc => absurd rfl cc) (fun _ => ?_)
    refine lv_iconst (v := 1) hx hb dL_foretold_267 (by decide) ?_
    refine lv_goto (tgt := 272) hx hb dL_foretold_268 (by decide) ?_
    refine lv_iand hx hb dL_foretold_272 ?_
    refine us_topi (x := 1) (show (1 : Int32) &&& 1 = 1 by decide) ?_
    refine lv_istore (lv' := [(5, .int 1), (0, .ref h0), (1, .int (nI (f 0))), (2, .int (nI (f 1))), (3, .int (nI (um_fc (f 1) f))), (4, .int (nI (f 5)))]) hx hb dL_foretold_273 hl (by decide) rfl (fun ls hl => ?_)
    refine lv_iconst (v := 0) hx hb dL_foretold_275 (by decide) ?_
    refine lv_istore (lv' := [(6, .int 0), (5, .int 1), (0, .ref h0), (1, .int (nI (f 0))), (2, .int (nI (f 1))), (3, .int (nI (um_fc (f 1) f))), (4, .int (nI (f 5)))]) hx hb dL_foretold_276 hl (by decide) rfl (fun ls hl => ?_)
    refine lv_iconst (v := 0) hx hb dL_foretold_278 (by decide) ?_
    refine lv_istore (lv' := [(7, .int 0), (6, .int 0), (5, .int 1), (0, .ref h0), (1, .int (nI (f 0))), (2, .int (nI (f 1))), (3, .int (nI (um_fc (f 1) f))), (4, .int (nI (f 5)))]) hx hb dL_foretold_279 hl (by decide) rfl (fun ls hl => ?_)
    refine lv_iconst (v := 0) hx hb dL_foretold_281 (by decide) ?_
    refine lv_istore (lv' := [(8, .int 0), (7, .int 0), (6, .int 0), (5, .int 1), (0, .ref h0), (1, .int (nI (f 0))), (2, .int (nI (f 1))), (3, .int (nI (um_fc (f 1) f))), (4, .int (nI (f 5)))]) hx hb dL_foretold_282 hl (by decide) rfl (fun ls hl => ?_)
    have hH : um_hd f < 4096 := um_pow12 (um_ors_lt (fun i hi => hI.2.2.2.2.2.2.2.2.2.2.2.2.2.2.2 i hi)) q1
    have loopY : ∀ (qy y : Nat) (Wo : va_W) (H : Heap) (locs : List Loc) (ls : Array Slot), f 0 = y + qy → uo_W g h0 (k + 30) f [] (some f) lr2 ld2 L2 Wo → lv_has ls 12 [(8, .int (nI y)), (7, .int (nI (um_hd f))), (6, .int (nI (um_sum (fun r => um_less (um_hd f) (fun r => f (13 + 6 * r)) r) y))), (0, .ref h0), (1, .int (nI (f 0))), (2, .int (nI (f 1))), (3, .int (nI (um_fc (f 1) f))), (4, .int (nI (f 5))), (5, .int 1)] → va_P g.1 vwCl Wo H → va_D A Wo → va_S A s.heap H locs → W p l e ({ frames := 6, cells := 530, slots := 7400, locals := 133 } : Room) s m args below meth c H locs 468 6578 Q (F0 m 311 ls []) := by
      intro qy
      induction qy with
      | zero =>
        intro y Wo H locs ls hiqy hR hl hP hD hS
        have ey : y = f 0 := by omega
        refine lv_iload hx hb dL_foretold_311 (lv_at hl 0 rfl) ?_
        refine lv_iload_n hx hb dL_foretold_313 rfl (lv_at hl 4 rfl) ?_
        refine lv_icmp_ge (tgt := 362) hx hb dL_foretold_314 (by decide) (fun _ => ?_) (fun cc => absurd (nI_le (by omega) (by omega)) cc)
        rw [ey] at hl
        refine lv_aload_n hx hb dL_foretold_362 rfl (lv_at hl 3 rfl) ?_
        refine lv_iconst (v := 3) hx hb dL_foretold_363 (by decide) ?_
        have hpm : (Wo : va_W).Perm (Wo ++ ([] : va_W)) := List.Perm.of_eq (List.append_nil _).symm
        have hFc := ub_freeP hD hS hA hpm
        obtain ⟨hPc, hDc⟩ := ub_subP hP hD hpm
        refine us_calli (va_runV (As := [.int 3]) (rest := []) ⟨hx, hb, hml, hown, hts⟩ (uo_account l g hR (x := 3)) (cwV 1 hts gu_RL_34 rfl rfl rfl ⟨rfl, uhX8_account⟩ ⟨Nat.le_of_ble_eq_true rfl, Nat.le_of_ble_eq_true rfl⟩) (us_preO hR hZ hS hFc hPc hDc hK hN) rfl rfl hl.1 rfl (lv_room (Nat.le_of_ble_eq_true rfl)) dL_foretold_364 ⟨Nat.le_of_ble_eq_true rfl, Nat.le_of_ble_eq_true rfl⟩) hP hD hS hA hpm (fun r Wo6 H locs hpost hP hD hS => ?_)
        have hP : va_P g.1 vwCl Wo6 H := by have h9 := hP; rw [List.append_nil] at h9; exact h9
        have hD : va_D A Wo6 := by have h9 := hD; rw [List.append_nil] at h9; exact h9
        obtain ⟨hr, hR⟩ := hpost
        have er : r = nI (f 3) := by rw [hr]; rfl
        rw [er]
        refine lv_istore (lv' := [(8, .int (nI (f 3))), (7, .int (nI (um_hd f))), (6, .int (nI (um_sum (fun r => um_less (um_hd f) (fun r => f (13 + 6 * r)) r) (f 0)))), (0, .ref h0), (1, .int (nI (f 0))), (2, .int (nI (f 1))), (3, .int (nI (um_fc (f 1) f))), (4, .int (nI (f 5))), (5, .int 1)]) hx hb dL_foretold_367 hl (by decide) rfl (fun ls hl => ?_)
        refine lv_aload_n hx hb dL_foretold_369 rfl (lv_at hl 3 rfl) ?_
        refine lv_bipush (v := 6) hx hb dL_foretold_370 (by decide) ?_
        have hpm : (Wo6 : va_W).Perm (Wo6 ++ ([] : va_W)) := List.Perm.of_eq (List.append_nil _).symm
        have hFc := ub_freeP hD hS hA hpm
        obtain ⟨hPc, hDc⟩ := ub_subP hP hD hpm
        refine us_calli (va_runV (As := [.int 6]) (rest := []) ⟨hx, hb, hml, hown, hts⟩ (uo_account l g hR (x := 6)) (cwV 1 hts gu_RL_34 rfl rfl rfl ⟨rfl, uhX8_account⟩ ⟨Nat.le_of_ble_eq_true rfl, Nat.le_of_ble_eq_true rfl⟩) (us_preO hR hZ hS hFc hPc hDc hK hN) rfl rfl hl.1 rfl (lv_room (Nat.le_of_ble_eq_true rfl)) dL_foretold_372 ⟨Nat.le_of_ble_eq_true rfl, Nat.le_of_ble_eq_true rfl⟩) hP hD hS hA hpm (fun r Wo7 H locs hpost hP hD hS => ?_)
        have hP : va_P g.1 vwCl Wo7 H := by have h9 := hP; rw [List.append_nil] at h9; exact h9
        have hD : va_D A Wo7 := by have h9 := hD; rw [List.append_nil] at h9; exact h9
        obtain ⟨hr, hR⟩ := hpost
        have er : r = nI (f 6) := by rw [hr]; rfl
        rw [er]
        refine lv_istore (lv' := [(9, .int (nI (f 6))), (8, .int (nI (f 3))), (7, .int (nI (um_hd f))), (6, .int (nI (um_sum (fun r => um_less (um_hd f) (fun r => f (13 + 6 * r)) r) (f 0)))), (0, .ref h0), (1, .int (nI (f 0))), (2, .int (nI (f 1))), (3, .int (nI (um_fc (f 1) f))), (4, .int (nI (f 5))), (5, .int 1)]) hx hb dL_foretold_375 hl (by decide) rfl (fun ls hl => ?_)
        refine lv_iload hx hb dL_foretold_377 (lv_at hl 9 rfl) ?_
        refine lv_aload_n hx hb dL_foretold_379 rfl (lv_at hl 4 rfl) ?_
        have hpm : (Wo7 : va_W).Perm (Wo7 ++ ([] : va_W)) := List.Perm.of_eq (List.append_nil _).symm
        have hFc := ub_freeP hD hS hA hpm
        obtain ⟨hPc, hDc⟩ := ub_subP hP hD hpm
        refine us_calli (va_runV (As := []) (rest := [.int 1]) ⟨hx, hb, hml, hown, hts⟩ (uo_end l g hR (by omega)) (cwV 0 hts gu_RL_71 rfl rfl rfl ⟨rfl, uhX8_end⟩ ⟨Nat.le_of_ble_eq_true rfl, Nat.le_of_ble_eq_true rfl⟩) (us_preO hR hZ hS hFc hPc hDc hK hN) rfl rfl hl.1 rfl (lv_room (Nat.le_of_ble_eq_true rfl)) dL_foretold_380 ⟨by show 468 + 18 ≤ 530; omega, by show 6578 + 253 ≤ 7400; omega⟩) hP hD hS hA hpm (fun r Wo8 H locs hpost hP hD hS => ?_)
        have hP : va_P g.1 vwCl Wo8 H := by have h9 := hP; rw [List.append_nil] at h9; exact h9
        have hD : va_D A Wo8 := by have h9 := hD; rw [List.append_nil] at h9; exact h9
        obtain ⟨hr, hR⟩ := hpost
        refine W.widen (k := 468 + 18) (n := 6578 + 253) (by omega) (by omega) ?_
        have er : r = nI (f 1) := hr
        rw [er]
        obtain ⟨E0, E1, E2, E3, E4, E5, E6, -, -, -, -, -, -, E211⟩ := um_end_read q1 (fun y hy => by have := (hPl y hy).1; omega)
        have hI9 := (uo_W_len hR).2
        refine lv_iload_n hx hb dL_foretold_383 rfl (lv_at hl 6 rfl) ?_
        refine lv_icmp_ne (tgt := 445) hx hb dL_foretold_384 (by decide) (fun cc => absurd rfl cc) (fun _ => ?_)
        refine lv_aload_n hx hb dL_foretold_387 rfl (lv_at hl 4 rfl) ?_
        refine lv_bipush (v := 6) hx hb dL_foretold_388 (by decide) ?_
        have hpm : (Wo8 : va_W).Perm (Wo8 ++ ([] : va_W)) := List.Perm.of_eq (List.append_nil _).symm
        have hFc := ub_freeP hD hS hA hpm
        obtain ⟨hPc, hDc⟩ := ub_subP hP hD hpm
        refine us_calli (va_runV (As := [.int 6]) (rest := [.int 1]) ⟨hx, hb, hml, hown, hts⟩ (uo_account l g hR (x := 6)) (cwV 1 hts gu_RL_34 rfl rfl rfl ⟨rfl, uhX8_account⟩ ⟨Nat.le_of_ble_eq_true rfl, Nat.le_of_ble_eq_true rfl⟩) (us_preO hR hZ hS hFc hPc hDc hK hN) rfl rfl hl.1 rfl (lv_room (Nat.le_of_ble_eq_true rfl)) dL_foretold_390 ⟨Nat.le_trans (Nat.le_of_eq (Nat.add_zero _)) (by show (468 + 18) ≤ 530; omega), Nat.le_trans (Nat.le_of_eq (Nat.add_zero _)) (by show (6578 + 253) ≤ 7400; omega)⟩) hP hD hS hA hpm (fun r Wo9 H locs hpost hP hD hS => ?_)
        have hP : va_P g.1 vwCl Wo9 H := by have h9 := hP; rw [List.append_nil] at h9; exact h9
        have hD : va_D A Wo9 := by have h9 := hD; rw [List.append_nil] at h9; exact h9
        obtain ⟨hr, hR⟩ := hpost
        have er : r = nI (f 6 + f 1) := by rw [hr, ← E6]; rfl
        rw [er]
        refine lv_iload hx hb dL_foretold_393 (lv_at hl 0 rfl) ?_
        refine lv_iload_n hx hb dL_foretold_395 rfl (lv_at hl 6 rfl) ?_
        refine lv_iadd hx hb dL_foretold_396 ?_
        refine us_topi (x := nI (f 6 + f 1)) (nI_add _ _) ?_
        refine lv_icmp_ne (tgt := 445) hx hb dL_foretold_397 (by decide) (fun cc => absurd rfl cc) (fun _ => ?_)
        refine lv_aload_n hx hb dL_foretold_400 rfl (lv_at hl 4 rfl) ?_
        refine lv_iconst (v := 3) hx hb dL_foretold_401 (by decide) ?_
        have hpm : (Wo9 : va_W).Perm (Wo9 ++ ([] : va_W)) := List.Perm.of_eq (List.append_nil _).symm
        have hFc := ub_freeP hD hS hA hpm
        obtain ⟨hPc, hDc⟩ := ub_subP hP hD hpm
        refine us_calli (va_runV (As := [.int 3]) (rest := [.int 1]) ⟨hx, hb, hml, hown, hts⟩ (uo_account l g hR (x := 3)) (cwV 1 hts gu_RL_34 rfl rfl rfl ⟨rfl, uhX8_account⟩ ⟨Nat.le_of_ble_eq_true rfl, Nat.le_of_ble_eq_true rfl⟩) (us_preO hR hZ hS hFc hPc hDc hK hN) rfl rfl hl.1 rfl (lv_room (Nat.le_of_ble_eq_true rfl)) dL_foretold_402 ⟨Nat.le_trans (Nat.le_of_eq (Nat.add_zero _)) (by show (468 + 18) ≤ 530; omega), Nat.le_trans (Nat.le_of_eq (Nat.add_zero _)) (by show (6578 + 253) ≤ 7400; omega)⟩) hP hD hS hA hpm (fun r Wo10 H locs hpost hP hD hS => ?_)
        have hP : va_P g.1 vwCl Wo10 H := by have h9 := hP; rw [List.append_nil] at h9; exact h9
        have hD : va_D A Wo10 := by have h9 := hD; rw [List.append_nil] at h9; exact h9
        obtain ⟨hr, hR⟩ := hpost
        have er : r = nI (f 3 + 1) := by rw [hr, ← E3]; rfl
        rw [er]
        refine lv_iload hx hb dL_foretold_405 (lv_at hl 1 rfl) ?_
        refine lv_iconst (v := 1) hx hb dL_foretold_407 (by decide) ?_
        refine lv_iadd hx hb dL_foretold_408 ?_
        refine us_topi (x := nI (f 3 + 1)) (nI_1 _) ?_
        refine lv_icmp_ne (tgt := 445) hx hb dL_foretold_409 (by decide) (fun cc => absurd rfl cc) (fun _ => ?_)
        refine lv_aload_n hx hb dL_foretold_412 rfl (lv_at hl 4 rfl) ?_
        refine lv_iconst (v := 2) hx hb dL_foretold_413 (by decide) ?_
        have hpm : (Wo10 : va_W).Perm (Wo10 ++ ([] : va_W)) := List.Perm.of_eq (List.append_nil _).symm
        have hFc := ub_freeP hD hS hA hpm
        obtain ⟨hPc, hDc⟩ := ub_subP hP hD hpm
        refine us_calli (va_runV (As := [.int 2]) (rest := [.int 1]) ⟨hx, hb, hml, hown, hts⟩ (uo_account l g hR (x := 2)) (cwV 1 hts gu_RL_34 rfl rfl rfl ⟨rfl, uhX8_account⟩ ⟨Nat.le_of_ble_eq_true rfl, Nat.le_of_ble_eq_true rfl⟩) (us_preO hR hZ hS hFc hPc hDc hK hN) rfl rfl hl.1 rfl (lv_room (Nat.le_of_ble_eq_true rfl)) dL_foretold_414 ⟨Nat.le_trans (Nat.le_of_eq (Nat.add_zero _)) (by show (468 + 18) ≤ 530; omega), Nat.le_trans (Nat.le_of_eq (Nat.add_zero _)) (by show (6578 + 253) ≤ 7400; omega)⟩) hP hD hS hA hpm (fun r Wo11 H locs hpost hP hD hS => ?_)
        have hP : va_P g.1 vwCl Wo11 H := by have h9 := hP; rw [List.append_nil] at h9; exact h9
        have hD : va_D A Wo11 := by have h9 := hD; rw [List.append_nil] at h9; exact h9
        obtain ⟨hr, hR⟩ := hpost
        have er : r = 0 := by rw [hr]; exact congrArg nI E2
        rw [er]
        refine lv_if_ne (tgt := 445) hx hb dL_foretold_417 (by decide) (fun cc => absurd rfl cc) (fun _ => ?_)
        refine lv_aload_n hx hb dL_foretold_420 rfl (lv_at hl 4 rfl) ?_
        refine lv_bipush (v := 9) hx hb dL_foretold_421 (by decide) ?_
        have hpm : (Wo11 : va_W).Perm (Wo11 ++ ([] : va_W)) := List.Perm.of_eq (List.append_nil _).symm
        have hFc := ub_freeP hD hS hA hpm
        obtain ⟨hPc, hDc⟩ := ub_subP hP hD hpm
        refine us_calli (va_runV (As := [.int 9]) (rest := [.int 1]) ⟨hx, hb, hml, hown, hts⟩ (uo_account l g hR (x := 9)) (cwV 1 hts gu_RL_34 rfl rfl rfl ⟨rfl, uhX8_account⟩ ⟨Nat.le_of_ble_eq_true rfl, Nat.le_of_ble_eq_true rfl⟩) (us_preO hR hZ hS hFc hPc hDc hK hN) rfl rfl hl.1 rfl (lv_room (Nat.le_of_ble_eq_true rfl)) dL_foretold_423 ⟨Nat.le_trans (Nat.le_of_eq (Nat.add_zero _)) (by show (468 + 18) ≤ 530; omega), Nat.le_trans (Nat.le_of_eq (Nat.add_zero _)) (by show (6578 + 253) ≤ 7400; omega)⟩) hP hD hS hA hpm (fun r Wo12 H locs hpost hP hD hS => ?_)
        have hP : va_P g.1 vwCl Wo12 H := by have h9 := hP; rw [List.append_nil] at h9; exact h9
        have hD : va_D A Wo12 := by have h9 := hD; rw [List.append_nil] at h9; exact h9
        obtain ⟨hr, hR⟩ := hpost
        have er : r = nI (um_sum (fun r => um_less (um_hd f) (fun r => f (13 + 6 * r)) r) (f 0)) := by rw [hr, ← uk_less hI]; rfl
        rw [er]
        refine lv_iload hx hb dL_foretold_426 (lv_at hl 3 rfl) ?_
        refine lv_icmp_ne (tgt := 445) hx hb dL_foretold_428 (by decide) (fun cc => absurd rfl cc) (fun _ => ?_)
        refine lv_aload_n hx hb dL_foretold_431 rfl (lv_at hl 4 rfl) ?_
        have hpm : (Wo12 : va_W).Perm (Wo12 ++ ([] : va_W)) := List.Perm.of_eq (List.append_nil _).symm
        have hFc := ub_freeP hD hS hA hpm
        obtain ⟨hPc, hDc⟩ := ub_subP hP hD hpm
        refine us_calli (va_runV (As := []) (rest := [.int 1]) ⟨hx, hb, hml, hown, hts⟩ (uo_busiest l g hR ) (cwV 0 hts gu_RL_170 rfl rfl rfl ⟨rfl, uhX8_busiest⟩ ⟨Nat.le_of_ble_eq_true rfl, Nat.le_of_ble_eq_true rfl⟩) (us_preO hR hZ hS hFc hPc hDc hK hN) rfl rfl hl.1 rfl (lv_room (Nat.le_of_ble_eq_true rfl)) dL_foretold_432 ⟨Nat.le_trans (Nat.le_of_eq (Nat.add_zero _)) (by show (468 + 18) ≤ 530; omega), Nat.le_trans (Nat.le_of_eq (Nat.add_zero _)) (by show (6578 + 253) ≤ 7400; omega)⟩) hP hD hS hA hpm (fun r Wo13 H locs hpost hP hD hS => ?_)
        have hP : va_P g.1 vwCl Wo13 H := by have h9 := hP; rw [List.append_nil] at h9; exact h9
        have hD : va_D A Wo13 := by have h9 := hD; rw [List.append_nil] at h9; exact h9
        obtain ⟨hr, hR⟩ := hpost
        have er : r = (-1015) := by rw [hr, uw_busiest hI9, if_pos (E211 _ (Nat.lt_of_le_of_lt (um_bm_le 23) (by decide)))]
        rw [er]
        refine lv_sipush (v := (-1015)) hx hb dL_foretold_435 (by decide) ?_
        refine lv_icmp_ne (tgt := 445) hx hb dL_foretold_438 (by decide) (fun cc => absurd rfl cc) (fun _ => ?_)
        refine lv_iconst (v := 1) hx hb dL_foretold_441 (by decide) ?_
        refine lv_goto (tgt := 446) hx hb dL_foretold_442 (by decide) ?_
        refine lv_iand hx hb dL_foretold_446 ?_
        refine us_topi (x := 1) (show (1 : Int32) &&& 1 = 1 by decide) ?_
        refine lv_istore (lv' := [(5, .int 1), (9, .int (nI (f 6))), (8, .int (nI (f 3))), (7, .int (nI (um_hd f))), (6, .int (nI (um_sum (fun r => um_less (um_hd f) (fun r => f (13 + 6 * r)) r) (f 0)))), (0, .ref h0), (1, .int (nI (f 0))), (2, .int (nI (f 1))), (3, .int (nI (um_fc (f 1) f))), (4, .int (nI (f 5)))]) hx hb dL_foretold_447 hl (by decide) rfl (fun ls hl => ?_)
        refine lv_aload_n hx hb dL_foretold_449 rfl (lv_at hl 5 rfl) ?_
        have hpm : (Wo13 : va_W).Perm (Wo13 ++ ([] : va_W)) := List.Perm.of_eq (List.append_nil _).symm
        have hFc := ub_freeP hD hS hA hpm
        obtain ⟨hPc, hDc⟩ := ub_subP hP hD hpm
        refine us_calli (va_runV (As := []) (rest := []) ⟨hx, hb, hml, hown, hts⟩ (uo_restoreS l g hR) (cwV 0 hts gu_RL_183 rfl rfl rfl ⟨rfl, uhX8_restoreS⟩ ⟨Nat.le_of_ble_eq_true rfl, Nat.le_of_ble_eq_true rfl⟩) (us_preO hR hZ hS hFc hPc hDc hK hN) rfl rfl hl.1 rfl (lv_room (Nat.le_of_ble_eq_true rfl)) dL_foretold_450 ⟨by show (468 + 18) + 0 ≤ 530; omega, by show (6578 + 253) + 0 ≤ 7400; omega⟩) hP hD hS hA hpm (fun r Wo14 H locs hpost hP hD hS => ?_)
        have hP : va_P g.1 vwCl Wo14 H := by have h9 := hP; rw [List.append_nil] at h9; exact h9
        have hD : va_D A Wo14 := by have h9 := hD; rw [List.append_nil] at h9; exact h9
        obtain ⟨hr, hR⟩ := hpost
        have er : r = nI (f 0) := hr
        rw [er]
        refine lv_iload_n hx hb dL_foretold_453 rfl (lv_at hl 6 rfl) ?_
        refine lv_icmp_ne (tgt := 466) hx hb dL_foretold_454 (by decide) (fun cc => absurd rfl cc) (fun _ => ?_)
        refine lv_iload hx hb dL_foretold_457 (lv_at hl 0 rfl) ?_
        refine lv_if_eq (tgt := 466) hx hb dL_foretold_459 (by decide) (fun cc => absurd cc (show ¬ (1 : Int32) = 0 by decide)) (fun _ => ?_)
        refine lv_iconst (v := 1) hx hb dL_foretold_462 (by decide) ?_
        refine lv_goto (tgt := 467) hx hb dL_foretold_463 (by decide) ?_
        refine W.widen (k := 530) (n := 7400) (by omega) (by omega) ?_
        exact hret _ _ _ _ _ ls ⟨rfl, _, _, _, uo_W_mono (by omega) (by omega) hR⟩ dL_foretold_467 rfl hP hD hS
      | succ qy ih2 =>
        intro y Wo H locs ls hiqy hR hl hP hD hS
        have hy0 : y < f 0 := by omega
        have hr9 := (hI.2.2.2.2.2.2.2.2.2.1 y (by omega)).2.2
        have hsu : um_sum (fun r => um_less (um_hd f) (fun r => f (13 + 6 * r)) r) (y + 1) = um_sum (fun r => um_less (um_hd f) (fun r => f (13 + 6 * r)) r) y + um_less (um_hd f) (fun r => f (13 + 6 * r)) y := rfl
        refine lv_iload hx hb dL_foretold_311 (lv_at hl 0 rfl) ?_
        refine lv_iload_n hx hb dL_foretold_313 rfl (lv_at hl 4 rfl) ?_
        refine lv_icmp_ge (tgt := 362) hx hb dL_foretold_314 (by decide) (fun cc => absurd cc (nI_ge (by omega) (by omega))) (fun _ => ?_)
        refine lv_iload hx hb dL_foretold_317 (lv_at hl 2 rfl) ?_
        refine lv_iload hx hb dL_foretold_319 (lv_at hl 1 rfl) ?_
        refine lv_iload hx hb dL_foretold_321 (lv_at hl 0 rfl) ?_
        refine lv_ishr hx hb dL_foretold_323 ?_
        refine lv_iconst (v := 1) hx hb dL_foretold_324 (by decide) ?_
        refine lv_iand hx hb dL_foretold_325 ?_
        refine us_topi (x := nI (um_b2n ((um_hd f).testBit y))) (um_bit1 (by omega) (by omega)) ?_
        refine lv_iconst (v := 1) hx hb dL_foretold_326 (by decide) ?_
        by_cases hb0 : (um_hd f).testBit y = true
        · refine lv_icmp_ne (tgt := 340) hx hb dL_foretold_327 (by decide) (fun cc => absurd (by rw [hb0]; rfl) cc) (fun _ => ?_)
          refine lv_aload_n hx hb dL_foretold_330 rfl (lv_at hl 3 rfl) ?_
          refine lv_iload hx hb dL_foretold_331 (lv_at hl 0 rfl) ?_
          refine lv_iconst (v := 2) hx hb dL_foretold_333 (by decide) ?_
          have hpm : (Wo : va_W).Perm (Wo ++ ([] : va_W)) := List.Perm.of_eq (List.append_nil _).symm
          have hFc := ub_freeP hD hS hA hpm
          obtain ⟨hPc, hDc⟩ := ub_subP hP hD hpm
          refine us_calli (va_runV (As := [.int (nI y), .int 2]) (rest := [.int (nI (um_sum (fun r => um_less (um_hd f) (fun r => f (13 + 6 * r)) r) y))]) ⟨hx, hb, hml, hown, hts⟩ (uo_ropeOf l g hR (x := (nI y)) (v := 2)) (cwV 2 hts gu_RL_100 rfl rfl rfl ⟨rfl, uhX8_ropeOf⟩ ⟨Nat.le_of_ble_eq_true rfl, Nat.le_of_ble_eq_true rfl⟩) (us_preO hR hZ hS hFc hPc hDc hK hN) rfl rfl hl.1 rfl (lv_room (Nat.le_of_ble_eq_true rfl)) dL_foretold_334 ⟨Nat.le_of_ble_eq_true rfl, Nat.le_of_ble_eq_true rfl⟩) hP hD hS hA hpm (fun r Wo15 H locs hpost hP hD hS => ?_)
          have hP : va_P g.1 vwCl Wo15 H := by have h9 := hP; rw [List.append_nil] at h9; exact h9
          have hD : va_D A Wo15 := by have h9 := hD; rw [List.append_nil] at h9; exact h9
          obtain ⟨hr, hR⟩ := hpost
          have er : r = nI (f (13 + 6 * y)) := hr.trans ((uw_ropeOf (i := 2) hI hy0 (by decide)).trans (congrArg nI (congrArg f (by omega))))
          rw [er]
          have hs9 : um_sum (fun r => um_less (um_hd f) (fun r => f (13 + 6 * r)) r) (y + 1) = um_sum (fun r => um_less (um_hd f) (fun r => f (13 + 6 * r)) r) y + f (13 + 6 * y) := by rw [hsu]; unfold um_less; rw [if_pos hb0]
          refine lv_goto (tgt := 353) hx hb dL_foretold_337 (by decide) ?_
          refine lv_iadd hx hb dL_foretold_353 ?_
          refine us_topi (x := nI (um_sum (fun r => um_less (um_hd f) (fun r => f (13 + 6 * r)) r) y + f (13 + 6 * y))) (nI_add _ _) ?_
          rw [← hs9]
          refine lv_istore (lv' := [(6, .int (nI (um_sum (fun r => um_less (um_hd f) (fun r => f (13 + 6 * r)) r) (y + 1)))), (8, .int (nI y)), (7, .int (nI (um_hd f))), (0, .ref h0), (1, .int (nI (f 0))), (2, .int (nI (f 1))), (3, .int (nI (um_fc (f 1) f))), (4, .int (nI (f 5))), (5, .int 1)]) hx hb dL_foretold_354 hl (by decide) rfl (fun ls hl => ?_)
          refine lv_iinc (v := nI y + 1) (lv' := [(8, .int (nI y + 1)), (6, .int (nI (um_sum (fun r => um_less (um_hd f) (fun r => f (13 + 6 * r)) r) (y + 1)))), (7, .int (nI (um_hd f))), (0, .ref h0), (1, .int (nI (f 0))), (2, .int (nI (f 1))), (3, .int (nI (um_fc (f 1) f))), (4, .int (nI (f 5))), (5, .int 1)]) hx hb dL_foretold_356 hl (k := 1) rfl rfl (by decide) rfl (fun ls hl => ?_)
          refine lv_goto (tgt := 311) hx hb dL_foretold_359 (by decide) ?_
          rw [nI_1] at hl
          exact ih2 (y + 1) Wo15 _ _ ls (by omega) hR (lv_sub hl [0, 2, 1, 3, 4, 5, 6, 7, 8] rfl) hP hD hS
        · refine lv_icmp_ne (tgt := 340) hx hb dL_foretold_327 (by decide) (fun _ => ?_) (fun cc => absurd cc (by rw [Bool.eq_false_iff.mpr hb0]; decide))
          refine lv_iconst (v := 0) hx hb dL_foretold_340 (by decide) ?_
          refine lv_aload_n hx hb dL_foretold_341 rfl (lv_at hl 3 rfl) ?_
          refine lv_iload hx hb dL_foretold_342 (lv_at hl 0 rfl) ?_
          refine lv_iconst (v := 2) hx hb dL_foretold_344 (by decide) ?_
          have hpm : (Wo : va_W).Perm (Wo ++ ([] : va_W)) := List.Perm.of_eq (List.append_nil _).symm
          have hFc := ub_freeP hD hS hA hpm
          obtain ⟨hPc, hDc⟩ := ub_subP hP hD hpm
          refine us_calli (va_runV (As := [.int (nI y), .int 2]) (rest := [.int 0, .int (nI (um_sum (fun r => um_less (um_hd f) (fun r => f (13 + 6 * r)) r) y))]) ⟨hx, hb, hml, hown, hts⟩ (uo_ropeOf l g hR (x := (nI y)) (v := 2)) (cwV 2 hts gu_RL_100 rfl rfl rfl ⟨rfl, uhX8_ropeOf⟩ ⟨Nat.le_of_ble_eq_true rfl, Nat.le_of_ble_eq_true rfl⟩) (us_preO hR hZ hS hFc hPc hDc hK hN) rfl rfl hl.1 rfl (lv_room (Nat.le_of_ble_eq_true rfl)) dL_foretold_345 ⟨Nat.le_of_ble_eq_true rfl, Nat.le_of_ble_eq_true rfl⟩) hP hD hS hA hpm (fun r Wo16 H locs hpost hP hD hS => ?_)
          have hP : va_P g.1 vwCl Wo16 H := by have h9 := hP; rw [List.append_nil] at h9; exact h9
          have hD : va_D A Wo16 := by have h9 := hD; rw [List.append_nil] at h9; exact h9
          obtain ⟨hr, hR⟩ := hpost
          have er : r = nI (f (13 + 6 * y)) := hr.trans ((uw_ropeOf (i := 2) hI hy0 (by decide)).trans (congrArg nI (congrArg f (by omega))))
          rw [er]
          refine lv_iconst (v := 1) hx hb dL_foretold_348 (by decide) ?_
          refine lv_isub hx hb dL_foretold_349 ?_
          refine va_mmax hx hb (hml.trans hl.1.symm) hown (hts _ us_m801) (hts _ us_m464) (hts _ us_m49) (hts _ us_m465) (Nat.le_of_ble_eq_true rfl) (Nat.le_of_ble_eq_true rfl) (Nat.le_of_ble_eq_true rfl) (Nat.le_of_ble_eq_true rfl) dL_foretold_350 ?_
          refine us_topi (x := nI (f (13 + 6 * y) - 1)) (uk_max _ (by omega)) ?_
          have hs9 : um_sum (fun r => um_less (um_hd f) (fun r => f (13 + 6 * r)) r) (y + 1) = um_sum (fun r => um_less (um_hd f) (fun r => f (13 + 6 * r)) r) y + (f (13 + 6 * y) - 1) := by rw [hsu]; unfold um_less; rw [if_neg hb0]
          refine lv_iadd hx hb dL_foretold_353 ?_
          refine us_topi (x := nI (um_sum (fun r => um_less (um_hd f) (fun r => f (13 + 6 * r)) r) y + (f (13 + 6 * y) - 1))) (nI_add _ _) ?_
          rw [← hs9]
          refine lv_istore (lv' := [(6, .int (nI (um_sum (fun r => um_less (um_hd f) (fun r => f (13 + 6 * r)) r) (y + 1)))), (8, .int (nI y)), (7, .int (nI (um_hd f))), (0, .ref h0), (1, .int (nI (f 0))), (2, .int (nI (f 1))), (3, .int (nI (um_fc (f 1) f))), (4, .int (nI (f 5))), (5, .int 1)]) hx hb dL_foretold_354 hl (by decide) rfl (fun ls hl => ?_)
          refine lv_iinc (v := nI y + 1) (lv' := [(8, .int (nI y + 1)), (6, .int (nI (um_sum (fun r => um_less (um_hd f) (fun r => f (13 + 6 * r)) r) (y + 1)))), (7, .int (nI (um_hd f))), (0, .ref h0), (1, .int (nI (f 0))), (2, .int (nI (f 1))), (3, .int (nI (um_fc (f 1) f))), (4, .int (nI (f 5))), (5, .int 1)]) hx hb dL_foretold_356 hl (k := 1) rfl rfl (by decide) rfl (fun ls hl => ?_)
          refine lv_goto (tgt := 311) hx hb dL_foretold_359 (by decide) ?_
          rw [nI_1] at hl
          exact ih2 (y + 1) Wo16 _ _ ls (by omega) hR (lv_sub hl [0, 2, 1, 3, 4, 5, 6, 7, 8] rfl) hP hD hS
    have loopZ : ∀ (qz z : Nat) (Wo : va_W) (H : Heap) (locs : List Loc) (ls : Array Slot), 24 = z + qz → uo_W g h0 (k + 30) f [] (some f) lr2 ld2 L2 Wo → lv_has ls 12 [(8, .int (nI z)), (7, .int (nI (um_ors (fun h => f (211 + h)) z))), (6, .int 0), (0, .ref h0), (1, .int (nI (f 0))), (2, .int (nI (f 1))), (3, .int (nI (um_fc (f 1) f))), (4, .int (nI (f 5))), (5, .int 1)] → va_P g.1 vwCl Wo H → va_D A Wo → va_S A s.heap H locs → W p l e ({ frames := 6, cells := 530, slots := 7400, locals := 133 } : Room) s m args below meth c H locs 468 6578 Q (F0 m 284 ls []) := by
      intro qz
      induction qz with
      | zero =>
        intro z Wo H locs ls hiqz hR hl hP hD hS
        have ez : z = 24 := by omega
        refine lv_iload hx hb dL_foretold_284 (lv_at hl 0 rfl) ?_
        refine lv_bipush (v := 24) hx hb dL_foretold_286 (by decide) ?_
        refine lv_icmp_ge (tgt := 308) hx hb dL_foretold_288 (by decide) (fun _ => ?_) (fun cc => absurd (nI_le (a := 24) (by omega) (by omega)) cc)
        rw [ez] at hl
        refine lv_iconst (v := 0) hx hb dL_foretold_308 (by decide) ?_
        refine lv_istore (lv' := [(8, .int 0), (7, .int (nI (um_hd f))), (6, .int 0), (0, .ref h0), (1, .int (nI (f 0))), (2, .int (nI (f 1))), (3, .int (nI (um_fc (f 1) f))), (4, .int (nI (f 5))), (5, .int 1)]) hx hb dL_foretold_309 hl (by decide) rfl (fun ls hl => ?_)
        exact loopY (f 0) 0 Wo _ _ ls (by omega) hR (lv_sub hl [0, 1, 2, 3, 4, 5, 6, 7, 8] rfl) hP hD hS
      | succ qz ih1 =>
        intro z Wo H locs ls hiqz hR hl hP hD hS
        refine lv_iload hx hb dL_foretold_284 (lv_at hl 0 rfl) ?_
        refine lv_bipush (v := 24) hx hb dL_foretold_286 (by decide) ?_
        refine lv_icmp_ge (tgt := 308) hx hb dL_foretold_288 (by decide) (fun cc => absurd cc (nI_ge (b := 24) (by omega) (by decide))) (fun _ => ?_)
        refine lv_iload hx hb dL_foretold_291 (lv_at hl 1 rfl) ?_
        refine lv_aload_n hx hb dL_foretold_293 rfl (lv_at hl 3 rfl) ?_
        refine lv_iload hx hb dL_foretold_294 (lv_at hl 0 rfl) ?_
        have hpm : (Wo : va_W).Perm (Wo ++ ([] : va_W)) := List.Perm.of_eq (List.append_nil _).symm
        have hFc := ub_freeP hD hS hA hpm
        obtain ⟨hPc, hDc⟩ := ub_subP hP hD hpm
        refine us_calli (va_runV (As := [.int (nI z)]) (rest := [.int (nI (um_ors (fun h => f (211 + h)) z))]) ⟨hx, hb, hml, hown, hts⟩ (uo_answered l g hR (x := (nI z))) (cwV 1 hts gu_RL_103 rfl rfl rfl ⟨rfl, uhX8_answered⟩ ⟨Nat.le_of_ble_eq_true rfl, Nat.le_of_ble_eq_true rfl⟩) (us_preO hR hZ hS hFc hPc hDc hK hN) rfl rfl hl.1 rfl (lv_room (Nat.le_of_ble_eq_true rfl)) dL_foretold_296 ⟨Nat.le_of_ble_eq_true rfl, Nat.le_of_ble_eq_true rfl⟩) hP hD hS hA hpm (fun r Wo17 H locs hpost hP hD hS => ?_)
        have hP : va_P g.1 vwCl Wo17 H := by have h9 := hP; rw [List.append_nil] at h9; exact h9
        have hD : va_D A Wo17 := by have h9 := hD; rw [List.append_nil] at h9; exact h9
        obtain ⟨hr, hR⟩ := hpost
        have er : r = nI (f (211 + z)) := hr.trans (uw_answered (by omega))
        rw [er]
        refine lv_ior hx hb dL_foretold_299 ?_
        refine us_topi (x := nI (um_ors (fun h => f (211 + h)) (z + 1))) (um_or _ _) ?_
        refine lv_istore (lv' := [(7, .int (nI (um_ors (fun h => f (211 + h)) (z + 1)))), (8, .int (nI z)), (6, .int 0), (0, .ref h0), (1, .int (nI (f 0))), (2, .int (nI (f 1))), (3, .int (nI (um_fc (f 1) f))), (4, .int (nI (f 5))), (5, .int 1)]) hx hb dL_foretold_300 hl (by decide) rfl (fun ls hl => ?_)
        refine lv_iinc (v := nI z + 1) (lv' := [(8, .int (nI z + 1)), (7, .int (nI (um_ors (fun h => f (211 + h)) (z + 1)))), (6, .int 0), (0, .ref h0), (1, .int (nI (f 0))), (2, .int (nI (f 1))), (3, .int (nI (um_fc (f 1) f))), (4, .int (nI (f 5))), (5, .int 1)]) hx hb dL_foretold_302 hl (k := 1) rfl rfl (by decide) rfl (fun ls hl => ?_)
        refine lv_goto (tgt := 284) hx hb dL_foretold_305 (by decide) ?_
        rw [nI_1] at hl
        exact ih1 (z + 1) Wo17 _ _ ls (by omega) hR (lv_sub hl [0, 1, 2, 3, 4, 5, 6, 7, 8] rfl) hP hD hS
    exact loopZ 24 0 Wo5 _ _ ls (by omega) hR (lv_sub hl [0, 1, 2, 4, 5, 6, 7, 8, 3] rfl) hP hD hS
  by_cases h0n : f 1 = 0
  · refine lv_if_ne (tgt := 72) hx hb dL_foretold_27 (by decide) (fun cc => absurd (by rw [h0n]; rfl) cc) (fun _ => ?_)
    refine lv_iload hx hb dL_foretold_30 (lv_at hl 0 rfl) ?_
    refine lv_aload_n hx hb dL_foretold_32 rfl (lv_at hl 5 rfl) ?_
    have hpm : (Wo4 : va_W).Perm (Wo4 ++ ([] : va_W)) := List.Perm.of_eq (List.append_nil _).symm
    have hFc := ub_freeP hD hS hA hpm
    obtain ⟨hPc, hDc⟩ := ub_subP hP hD hpm
    refine us_calli (va_runV (As := []) (rest := [.int 1]) ⟨hx, hb, hml, hown, hts⟩ (uo_ring l g hR (by omega)) (cwV 0 hts gu_RL_62 rfl rfl rfl ⟨rfl, uhX8_ring⟩ ⟨Nat.le_of_ble_eq_true rfl, Nat.le_of_ble_eq_true rfl⟩) (us_preO hR hZ hS hFc hPc hDc hK hN) rfl rfl hl.1 rfl (lv_room (Nat.le_of_ble_eq_true rfl)) dL_foretold_33 ⟨by show (0 + 18) + 18 ≤ 530; omega, by show (0 + 253) + 253 ≤ 7400; omega⟩) hP hD hS hA hpm (fun r Wo18 H locs hpost hP hD hS => ?_)
    have hP : va_P g.1 vwCl Wo18 H := by have h9 := hP; rw [List.append_nil] at h9; exact h9
    have hD : va_D A Wo18 := by have h9 := hD; rw [List.append_nil] at h9; exact h9
    obtain ⟨f2, lr2, ld2, hU, hR⟩ := hpost
    refine W.widen (k := (0 + 18) + 18) (n := (0 + 253) + 253) (by omega) (by omega) ?_
    have hx9 : r = -1014 ∧ f2 = f ∧ lr2 = 3 := by
      rcases hU with ⟨-, z1, z2, z3, -⟩ | ⟨z1, -⟩
      · exact ⟨z1, z2, z3⟩
      · omega
    obtain ⟨e1, e2, e3⟩ := hx9
    rw [e2, e3] at hR
    have er : r = (-1014) := e1
    rw [er]
    refine lv_sipush (v := (-1014)) hx hb dL_foretold_36 (by decide) ?_
    refine lv_icmp_ne (tgt := 65) hx hb dL_foretold_39 (by decide) (fun cc => absurd rfl cc) (fun _ => ?_)
    refine lv_aload_n hx hb dL_foretold_42 rfl (lv_at hl 5 rfl) ?_
    refine lv_iconst (v := 0) hx hb dL_foretold_43 (by decide) ?_
    have hpm : (Wo18 : va_W).Perm (Wo18 ++ ([] : va_W)) := List.Perm.of_eq (List.append_nil _).symm
    have hFc := ub_freeP hD hS hA hpm
    obtain ⟨hPc, hDc⟩ := ub_subP hP hD hpm
    refine us_calli (va_runV (As := [.int 0]) (rest := [.int 1]) ⟨hx, hb, hml, hown, hts⟩ (uo_reason l g hR (x := 0)) (cwV 1 hts gu_RL_179 rfl rfl rfl ⟨rfl, uhX8_reason⟩ ⟨Nat.le_of_ble_eq_true rfl, Nat.le_of_ble_eq_true rfl⟩) (us_preO hR hZ hS hFc hPc hDc hK hN) rfl rfl hl.1 rfl (lv_room (Nat.le_of_ble_eq_true rfl)) dL_foretold_44 ⟨Nat.le_trans (Nat.le_of_eq (Nat.add_zero _)) (by show ((0 + 18) + 18) ≤ 530; omega), Nat.le_trans (Nat.le_of_eq (Nat.add_zero _)) (by show ((0 + 253) + 253) ≤ 7400; omega)⟩) hP hD hS hA hpm (fun r Wo19 H locs hpost hP hD hS => ?_)
    have hP : va_P g.1 vwCl Wo19 H := by have h9 := hP; rw [List.append_nil] at h9; exact h9
    have hD : va_D A Wo19 := by have h9 := hD; rw [List.append_nil] at h9; exact h9
    obtain ⟨hr, hR⟩ := hpost
    have er : r = 3 := by rw [hr]; rfl
    rw [er]
    refine lv_iconst (v := 3) hx hb dL_foretold_47 (by decide) ?_
    refine lv_icmp_ne (tgt := 65) hx hb dL_foretold_48 (by decide) (fun cc => absurd rfl cc) (fun _ => ?_)
    refine lv_aload_n hx hb dL_foretold_51 rfl (lv_at hl 5 rfl) ?_
    have hpm : (Wo19 : va_W).Perm (Wo19 ++ ([] : va_W)) := List.Perm.of_eq (List.append_nil _).symm
    have hFc := ub_freeP hD hS hA hpm
    obtain ⟨hPc, hDc⟩ := ub_subP hP hD hpm
    refine us_calli (va_runV (As := []) (rest := [.int 1]) ⟨hx, hb, hml, hown, hts⟩ (uo_hour l g hR (by omega)) (cwV 0 hts gu_RL_65 rfl rfl rfl ⟨rfl, uhX8_hour⟩ ⟨Nat.le_of_ble_eq_true rfl, Nat.le_of_ble_eq_true rfl⟩) (us_preO hR hZ hS hFc hPc hDc hK hN) rfl rfl hl.1 rfl (lv_room (Nat.le_of_ble_eq_true rfl)) dL_foretold_52 ⟨by show ((0 + 18) + 18) + 18 ≤ 530; omega, by show ((0 + 253) + 253) + 253 ≤ 7400; omega⟩) hP hD hS hA hpm (fun r Wo20 H locs hpost hP hD hS => ?_)
    have hP : va_P g.1 vwCl Wo20 H := by have h9 := hP; rw [List.append_nil] at h9; exact h9
    have hD : va_D A Wo20 := by have h9 := hD; rw [List.append_nil] at h9; exact h9
    obtain ⟨f3, lr3, ld3, hU3, hR⟩ := hpost
    refine W.widen (k := ((0 + 18) + 18) + 18) (n := ((0 + 253) + 253) + 253) (by omega) (by omega) ?_
    have hx9 : r = -1014 := by
      rcases hU3 with ⟨-, z1, -⟩ | ⟨z1, -⟩
      · exact z1
      · omega
    have er : r = (-1014) := hx9
    rw [er]
    refine lv_sipush (v := (-1014)) hx hb dL_foretold_55 (by decide) ?_
    refine lv_icmp_ne (tgt := 65) hx hb dL_foretold_58 (by decide) (fun cc => absurd rfl cc) (fun _ => ?_)
    refine lv_iconst (v := 1) hx hb dL_foretold_61 (by decide) ?_
    refine lv_goto (tgt := 66) hx hb dL_foretold_62 (by decide) ?_
    refine lv_iand hx hb dL_foretold_66 ?_
    refine us_topi (x := 1) (show (1 : Int32) &&& 1 = 1 by decide) ?_
    refine lv_istore (lv' := [(5, .int 1), (4, .int (nI (f 5))), (3, .int (nI (um_fc (f 1) f))), (2, .int (nI (f 1))), (1, .int (nI (f 0))), (0, .ref h0)]) hx hb dL_foretold_67 hl (by decide) rfl (fun ls hl => ?_)
    refine lv_goto (tgt := 257) hx hb dL_foretold_69 (by decide) ?_
    refine W.widen (k := 468) (n := 6578) (by omega) (by omega) ?_
    exact J257 _ _ _ _ _ Wo20 _ _ ls (uo_W_mono (by omega) (by omega) hR) (lv_sub hl [5, 4, 3, 2, 1, 0] rfl) hP hD hS
  · have h1 : 0 < f 1 := by omega
    obtain ⟨p1, p2, p3, p4⟩ := hPl 0 h1
    have p1 : f 83 < f 0 := p1
    have p2 : f 84 < 24 := p2
    have p3 : 1 ≤ f 85 := p3
    have p4 : f 85 ≤ 9 := p4
    have fH := um_I_set hI p2
    refine lv_if_ne (tgt := 72) hx hb dL_foretold_27 (by decide) (fun _ => ?_) (fun cc => absurd cc (nI_ne0 (by omega) (by omega)))
    refine lv_aload_n hx hb dL_foretold_72 rfl (lv_at hl 5 rfl) ?_
    refine lv_iconst (v := 0) hx hb dL_foretold_73 (by decide) ?_
    refine lv_iconst (v := 0) hx hb dL_foretold_74 (by decide) ?_
    have hpm : (Wo4 : va_W).Perm (Wo4 ++ ([] : va_W)) := List.Perm.of_eq (List.append_nil _).symm
    have hFc := ub_freeP hD hS hA hpm
    obtain ⟨hPc, hDc⟩ := ub_subP hP hD hpm
    refine us_calli (va_runV (As := [.int 0, .int 0]) (rest := []) ⟨hx, hb, hml, hown, hts⟩ (uo_waiting l g hR (x := 0) (v := 0)) (cwV 2 hts gu_RL_109 rfl rfl rfl ⟨rfl, uhX8_waiting⟩ ⟨Nat.le_of_ble_eq_true rfl, Nat.le_of_ble_eq_true rfl⟩) (us_preO hR hZ hS hFc hPc hDc hK hN) rfl rfl hl.1 rfl (lv_room (Nat.le_of_ble_eq_true rfl)) dL_foretold_75 ⟨Nat.le_trans (Nat.le_of_eq (Nat.add_zero _)) (by show (0 + 18) ≤ 530; omega), Nat.le_trans (Nat.le_of_eq (Nat.add_zero _)) (by show (0 + 253) ≤ 7400; omega)⟩) hP hD hS hA hpm (fun r Wo21 H locs hpost hP hD hS => ?_)
    have hP : va_P g.1 vwCl Wo21 H := by have h9 := hP; rw [List.append_nil] at h9; exact h9
    have hD : va_D A Wo21 := by have h9 := hD; rw [List.append_nil] at h9; exact h9
    obtain ⟨hr, hR⟩ := hpost
    have er : r = nI (f 83) := hr.trans (uw_waiting (j := 0) (i := 0) hI h1 (by decide))
    rw [er]
    refine lv_istore (lv' := [(6, .int (nI (f 83))), (5, .int 1), (4, .int (nI (f 5))), (3, .int (nI (um_fc (f 1) f))), (2, .int (nI (f 1))), (1, .int (nI (f 0))), (0, .ref h0)]) hx hb dL_foretold_78 hl (by decide) rfl (fun ls hl => ?_)
    refine lv_aload_n hx hb dL_foretold_80 rfl (lv_at hl 6 rfl) ?_
    refine lv_iconst (v := 0) hx hb dL_foretold_81 (by decide) ?_
    refine lv_iconst (v := 1) hx hb dL_foretold_82 (by decide) ?_
    have hpm : (Wo21 : va_W).Perm (Wo21 ++ ([] : va_W)) := List.Perm.of_eq (List.append_nil _).symm
    have hFc := ub_freeP hD hS hA hpm
    obtain ⟨hPc, hDc⟩ := ub_subP hP hD hpm
    refine us_calli (va_runV (As := [.int 0, .int 1]) (rest := []) ⟨hx, hb, hml, hown, hts⟩ (uo_waiting l g hR (x := 0) (v := 1)) (cwV 2 hts gu_RL_109 rfl rfl rfl ⟨rfl, uhX8_waiting⟩ ⟨Nat.le_of_ble_eq_true rfl, Nat.le_of_ble_eq_true rfl⟩) (us_preO hR hZ hS hFc hPc hDc hK hN) rfl rfl hl.1 rfl (lv_room (Nat.le_of_ble_eq_true rfl)) dL_foretold_83 ⟨Nat.le_trans (Nat.le_of_eq (Nat.add_zero _)) (by show (0 + 18) ≤ 530; omega), Nat.le_trans (Nat.le_of_eq (Nat.add_zero _)) (by show (0 + 253) ≤ 7400; omega)⟩) hP hD hS hA hpm (fun r Wo22 H locs hpost hP hD hS => ?_)
    have hP : va_P g.1 vwCl Wo22 H := by have h9 := hP; rw [List.append_nil] at h9; exact h9
    have hD : va_D A Wo22 := by have h9 := hD; rw [List.append_nil] at h9; exact h9
    obtain ⟨hr, hR⟩ := hpost
    have er : r = nI (f 84) := hr.trans (uw_waiting (j := 0) (i := 1) hI h1 (by decide))
    rw [er]
    refine lv_istore (lv' := [(7, .int (nI (f 84))), (6, .int (nI (f 83))), (5, .int 1), (4, .int (nI (f 5))), (3, .int (nI (um_fc (f 1) f))), (2, .int (nI (f 1))), (1, .int (nI (f 0))), (0, .ref h0)]) hx hb dL_foretold_86 hl (by decide) rfl (fun ls hl => ?_)
    refine lv_aload_n hx hb dL_foretold_88 rfl (lv_at hl 7 rfl) ?_
    refine lv_iload hx hb dL_foretold_89 (lv_at hl 0 rfl) ?_
    have hpm : (Wo22 : va_W).Perm (Wo22 ++ ([] : va_W)) := List.Perm.of_eq (List.append_nil _).symm
    have hFc := ub_freeP hD hS hA hpm
    obtain ⟨hPc, hDc⟩ := ub_subP hP hD hpm
    refine us_calli (va_runV (As := [.int (nI (f 84))]) (rest := []) ⟨hx, hb, hml, hown, hts⟩ (uo_answered l g hR (x := (nI (f 84)))) (cwV 1 hts gu_RL_103 rfl rfl rfl ⟨rfl, uhX8_answered⟩ ⟨Nat.le_of_ble_eq_true rfl, Nat.le_of_ble_eq_true rfl⟩) (us_preO hR hZ hS hFc hPc hDc hK hN) rfl rfl hl.1 rfl (lv_room (Nat.le_of_ble_eq_true rfl)) dL_foretold_91 ⟨Nat.le_trans (Nat.le_of_eq (Nat.add_zero _)) (by show (0 + 18) ≤ 530; omega), Nat.le_trans (Nat.le_of_eq (Nat.add_zero _)) (by show (0 + 253) ≤ 7400; omega)⟩) hP hD hS hA hpm (fun r Wo23 H locs hpost hP hD hS => ?_)
    have hP : va_P g.1 vwCl Wo23 H := by have h9 := hP; rw [List.append_nil] at h9; exact h9
    have hD : va_D A Wo23 := by have h9 := hD; rw [List.append_nil] at h9; exact h9
    obtain ⟨hr, hR⟩ := hpost
    have er : r = nI (f (211 + f 84)) := hr.trans (uw_answered p2)
    rw [er]
    refine lv_iload hx hb dL_foretold_94 (lv_at hl 1 rfl) ?_
    refine lv_ishr hx hb dL_foretold_96 ?_
    refine lv_iconst (v := 1) hx hb dL_foretold_97 (by decide) ?_
    refine lv_iand hx hb dL_foretold_98 ?_
    refine us_topi (x := nI (um_b2n ((f (211 + f 84)).testBit (f 83)))) (um_bit1 (by omega) (by omega)) ?_
    refine lv_iconst (v := 1) hx hb dL_foretold_99 (by decide) ?_
    have J133 : ∀ (Wo : va_W) (H : Heap) (locs : List Loc) (ls : Array Slot), uo_W g h0 k f hist (some f) lr ld L Wo → lv_has ls 12 [(9, .int (nI (um_ringR f))), (7, .int (nI (f 84))), (6, .int (nI (f 83))), (0, .ref h0), (1, .int (nI (f 0))), (2, .int (nI (f 1))), (3, .int (nI (um_fc (f 1) f))), (4, .int (nI (f 5))), (5, .int 1)] → va_P g.1 vwCl Wo H → va_D A Wo → va_S A s.heap H locs → W p l e ({ frames := 6, cells := 530, slots := 7400, locals := 133 } : Room) s m args below meth c H locs (0 + 18) (0 + 253) Q (F0 m 133 ls []) := by
      intro Wo H locs ls hR hl hP hD hS
      refine lv_iload hx hb dL_foretold_133 (lv_at hl 8 rfl) ?_
      refine lv_aload_n hx hb dL_foretold_135 rfl (lv_at hl 3 rfl) ?_
      have hpm : (Wo : va_W).Perm (Wo ++ ([] : va_W)) := List.Perm.of_eq (List.append_nil _).symm
      have hFc := ub_freeP hD hS hA hpm
      obtain ⟨hPc, hDc⟩ := ub_subP hP hD hpm
      refine us_calli (va_runV (As := []) (rest := [.int 1]) ⟨hx, hb, hml, hown, hts⟩ (uo_ring l g hR (by omega)) (cwV 0 hts gu_RL_62 rfl rfl rfl ⟨rfl, uhX8_ring⟩ ⟨Nat.le_of_ble_eq_true rfl, Nat.le_of_ble_eq_true rfl⟩) (us_preO hR hZ hS hFc hPc hDc hK hN) rfl rfl hl.1 rfl (lv_room (Nat.le_of_ble_eq_true rfl)) dL_foretold_136 ⟨by show (0 + 18) + 18 ≤ 530; omega, by show (0 + 253) + 253 ≤ 7400; omega⟩) hP hD hS hA hpm (fun r Wo24 H locs hpost hP hD hS => ?_)
      have hP : va_P g.1 vwCl Wo24 H := by have h9 := hP; rw [List.append_nil] at h9; exact h9
      have hD : va_D A Wo24 := by have h9 := hD; rw [List.append_nil] at h9; exact h9
      obtain ⟨f2, lr2, ld2, hU, hR⟩ := hpost
      refine W.widen (k := (0 + 18) + 18) (n := (0 + 253) + 253) (by omega) (by omega) ?_
      have hx9 : r = nI (um_ringR f) ∧ f2 = um_ringF f := by
        rcases hU with ⟨z1, -⟩ | ⟨-, z1, z2, -⟩
        · omega
        · exact ⟨z1, z2⟩
      obtain ⟨e1, rfl⟩ := hx9
      have er : r = nI (um_ringR f) := e1
      rw [er]
      refine lv_iload hx hb dL_foretold_139 (lv_at hl 0 rfl) ?_
      refine lv_icmp_ne (tgt := 193) hx hb dL_foretold_141 (by decide) (fun cc => absurd rfl cc) (fun _ => ?_)
      obtain ⟨-, -, -, R2, -, -, -, -⟩ := um_ring_read (f := f) (by omega) p2
      have R1 := um_ringF_1 (f := f)
      have hI9 := (uo_W_len hR).2
      have hF9 := um_I_set hI9 p2
      have hRl := um_ringR_lt (f := f)
      have hbt := uk_bit hI h1
      refine lv_aload_n hx hb dL_foretold_144 rfl (lv_at hl 3 rfl) ?_
      refine lv_iconst (v := 2) hx hb dL_foretold_145 (by decide) ?_
      have hpm : (Wo24 : va_W).Perm (Wo24 ++ ([] : va_W)) := List.Perm.of_eq (List.append_nil _).symm
      have hFc := ub_freeP hD hS hA hpm
      obtain ⟨hPc, hDc⟩ := ub_subP hP hD hpm
      refine us_calli (va_runV (As := [.int 2]) (rest := [.int 1]) ⟨hx, hb, hml, hown, hts⟩ (uo_account l g hR (x := 2)) (cwV 1 hts gu_RL_34 rfl rfl rfl ⟨rfl, uhX8_account⟩ ⟨Nat.le_of_ble_eq_true rfl, Nat.le_of_ble_eq_true rfl⟩) (us_preO hR hZ hS hFc hPc hDc hK hN) rfl rfl hl.1 rfl (lv_room (Nat.le_of_ble_eq_true rfl)) dL_foretold_146 ⟨Nat.le_trans (Nat.le_of_eq (Nat.add_zero _)) (by show ((0 + 18) + 18) ≤ 530; omega), Nat.le_trans (Nat.le_of_eq (Nat.add_zero _)) (by show ((0 + 253) + 253) ≤ 7400; omega)⟩) hP hD hS hA hpm (fun r Wo25 H locs hpost hP hD hS => ?_)
      have hP : va_P g.1 vwCl Wo25 H := by have h9 := hP; rw [List.append_nil] at h9; exact h9
      have hD : va_D A Wo25 := by have h9 := hD; rw [List.append_nil] at h9; exact h9
      obtain ⟨hr, hR⟩ := hpost
      have er : r = nI (f 84) := by rw [hr, ← R2]; rfl
      rw [er]
      refine lv_iload hx hb dL_foretold_149 (lv_at hl 1 rfl) ?_
      refine lv_icmp_ne (tgt := 193) hx hb dL_foretold_151 (by decide) (fun cc => absurd rfl cc) (fun _ => ?_)
      refine lv_aload_n hx hb dL_foretold_154 rfl (lv_at hl 3 rfl) ?_
      refine lv_iconst (v := 1) hx hb dL_foretold_155 (by decide) ?_
      have hpm : (Wo25 : va_W).Perm (Wo25 ++ ([] : va_W)) := List.Perm.of_eq (List.append_nil _).symm
      have hFc := ub_freeP hD hS hA hpm
      obtain ⟨hPc, hDc⟩ := ub_subP hP hD hpm
      refine us_calli (va_runV (As := [.int 1]) (rest := [.int 1]) ⟨hx, hb, hml, hown, hts⟩ (uo_account l g hR (x := 1)) (cwV 1 hts gu_RL_34 rfl rfl rfl ⟨rfl, uhX8_account⟩ ⟨Nat.le_of_ble_eq_true rfl, Nat.le_of_ble_eq_true rfl⟩) (us_preO hR hZ hS hFc hPc hDc hK hN) rfl rfl hl.1 rfl (lv_room (Nat.le_of_ble_eq_true rfl)) dL_foretold_156 ⟨Nat.le_trans (Nat.le_of_eq (Nat.add_zero _)) (by show ((0 + 18) + 18) ≤ 530; omega), Nat.le_trans (Nat.le_of_eq (Nat.add_zero _)) (by show ((0 + 253) + 253) ≤ 7400; omega)⟩) hP hD hS hA hpm (fun r Wo26 H locs hpost hP hD hS => ?_)
      have hP : va_P g.1 vwCl Wo26 H := by have h9 := hP; rw [List.append_nil] at h9; exact h9
      have hD : va_D A Wo26 := by have h9 := hD; rw [List.append_nil] at h9; exact h9
      obtain ⟨hr, hR⟩ := hpost
      have er : r = nI (f 1 - 1) := by rw [hr, ← R1]; rfl
      rw [er]
      refine lv_iload_n hx hb dL_foretold_159 rfl (lv_at hl 5 rfl) ?_
      refine lv_iconst (v := 1) hx hb dL_foretold_160 (by decide) ?_
      refine lv_isub hx hb dL_foretold_161 ?_
      refine us_topi (x := nI (f 1 - 1)) (pk_sub (a := f 1) (b := 1) h1) ?_
      refine lv_icmp_ne (tgt := 193) hx hb dL_foretold_162 (by decide) (fun cc => absurd rfl cc) (fun _ => ?_)
      refine lv_aload_n hx hb dL_foretold_165 rfl (lv_at hl 3 rfl) ?_
      refine lv_iload hx hb dL_foretold_166 (lv_at hl 1 rfl) ?_
      have hpm : (Wo26 : va_W).Perm (Wo26 ++ ([] : va_W)) := List.Perm.of_eq (List.append_nil _).symm
      have hFc := ub_freeP hD hS hA hpm
      obtain ⟨hPc, hDc⟩ := ub_subP hP hD hpm
      refine us_calli (va_runV (As := [.int (nI (f 84))]) (rest := [.int 1]) ⟨hx, hb, hml, hown, hts⟩ (uo_answered l g hR (x := (nI (f 84)))) (cwV 1 hts gu_RL_103 rfl rfl rfl ⟨rfl, uhX8_answered⟩ ⟨Nat.le_of_ble_eq_true rfl, Nat.le_of_ble_eq_true rfl⟩) (us_preO hR hZ hS hFc hPc hDc hK hN) rfl rfl hl.1 rfl (lv_room (Nat.le_of_ble_eq_true rfl)) dL_foretold_168 ⟨Nat.le_trans (Nat.le_of_eq (Nat.add_zero _)) (by show ((0 + 18) + 18) ≤ 530; omega), Nat.le_trans (Nat.le_of_eq (Nat.add_zero _)) (by show ((0 + 253) + 253) ≤ 7400; omega)⟩) hP hD hS hA hpm (fun r Wo27 H locs hpost hP hD hS => ?_)
      have hP : va_P g.1 vwCl Wo27 H := by have h9 := hP; rw [List.append_nil] at h9; exact h9
      have hD : va_D A Wo27 := by have h9 := hD; rw [List.append_nil] at h9; exact h9
      obtain ⟨hr, hR⟩ := hpost
      have er : r = nI (um_ringF f (211 + f 84)) := hr.trans (uw_answered p2)
      rw [er]
      refine lv_iload hx hb dL_foretold_171 (lv_at hl 2 rfl) ?_
      refine lv_ishr hx hb dL_foretold_173 ?_
      refine lv_iconst (v := 1) hx hb dL_foretold_174 (by decide) ?_
      refine lv_iand hx hb dL_foretold_175 ?_
      refine us_topi (x := nI (um_b2n ((um_ringF f (211 + f 84)).testBit (f 83)))) (um_bit1 (by omega) (by omega)) ?_
      rw [hbt]
      have loopH : ∀ (q i : Nat) (f2 : Nat → Nat) (hist2 : List (Nat → Nat)) (lr2 : Int32) (ld2 : Int32) (L2 : List Nat) (Wo : va_W) (H : Heap) (locs : List Loc) (ls : Array Slot), 24 = i + q → (∃ m, m ≤ f 1 ∧ m + 24 ≥ f 1 + i ∧ f2 = um_rings m f) → uo_W g h0 (k + 1 + i) f2 hist2 (some f) lr2 ld2 L2 Wo → lv_has ls 12 [(10, .int (nI i)), (0, .ref h0), (1, .int (nI (f 0))), (2, .int (nI (f 1))), (3, .int (nI (um_fc (f 1) f))), (4, .int (nI (f 5))), (5, .int 1)] → va_P g.1 vwCl Wo H → va_D A Wo → va_S A s.heap H locs → W p l e ({ frames := 6, cells := 530, slots := 7400, locals := 133 } : Room) s m args below meth c H locs (36 + 18 * i) (506 + 253 * i) Q (F0 m 200 ls []) := by
        intro q
        induction q with
        | zero =>
          intro i f2 hist2 lr2 ld2 L2 Wo H locs ls hiq hm hR hl hP hD hS
          obtain ⟨m, m1, m2, rfl⟩ := hm
          obtain ⟨a1, a2, -⟩ := up_all hI m m1
          refine lv_iload hx hb dL_foretold_200 (lv_at hl 0 rfl) ?_
          refine lv_bipush (v := 24) hx hb dL_foretold_202 (by decide) ?_
          refine lv_icmp_ge (tgt := 227) hx hb dL_foretold_204 (by decide) (fun _ => ?_) (fun cc => absurd (nI_le (a := 24) (by omega) (by omega)) cc)
          have hz : m = f 1 := by omega
          rw [hz] at hR
          have a5 := uk_5 hI (f 1) (Nat.le_refl _)
          obtain ⟨b1, b2, -⟩ := up_all hI (f 1) (Nat.le_refl _)
          have b3 : um_rings (f 1) f 1 = 0 := by omega
          refine lv_iload hx hb dL_foretold_227 (lv_at hl 6 rfl) ?_
          refine lv_aload_n hx hb dL_foretold_229 rfl (lv_at hl 1 rfl) ?_
          refine lv_iconst (v := 1) hx hb dL_foretold_230 (by decide) ?_
          have hpm : (Wo : va_W).Perm (Wo ++ ([] : va_W)) := List.Perm.of_eq (List.append_nil _).symm
          have hFc := ub_freeP hD hS hA hpm
          obtain ⟨hPc, hDc⟩ := ub_subP hP hD hpm
          refine us_calli (va_runV (As := [.int 1]) (rest := [.int 1]) ⟨hx, hb, hml, hown, hts⟩ (uo_account l g hR (x := 1)) (cwV 1 hts gu_RL_34 rfl rfl rfl ⟨rfl, uhX8_account⟩ ⟨Nat.le_of_ble_eq_true rfl, Nat.le_of_ble_eq_true rfl⟩) (us_preO hR hZ hS hFc hPc hDc hK hN) rfl rfl hl.1 rfl (lv_room (Nat.le_of_ble_eq_true rfl)) dL_foretold_231 ⟨Nat.le_trans (Nat.le_of_eq (Nat.add_zero _)) (by show (36 + 18 * i) ≤ 530; omega), Nat.le_trans (Nat.le_of_eq (Nat.add_zero _)) (by show (506 + 253 * i) ≤ 7400; omega)⟩) hP hD hS hA hpm (fun r Wo28 H locs hpost hP hD hS => ?_)
          have hP : va_P g.1 vwCl Wo28 H := by have h9 := hP; rw [List.append_nil] at h9; exact h9
          have hD : va_D A Wo28 := by have h9 := hD; rw [List.append_nil] at h9; exact h9
          obtain ⟨hr, hR⟩ := hpost
          have er : r = 0 := by rw [hr]; exact congrArg nI b3
          rw [er]
          refine lv_if_ne (tgt := 253) hx hb dL_foretold_234 (by decide) (fun cc => absurd rfl cc) (fun _ => ?_)
          refine lv_aload_n hx hb dL_foretold_237 rfl (lv_at hl 1 rfl) ?_
          refine lv_iconst (v := 5) hx hb dL_foretold_238 (by decide) ?_
          have hpm : (Wo28 : va_W).Perm (Wo28 ++ ([] : va_W)) := List.Perm.of_eq (List.append_nil _).symm
          have hFc := ub_freeP hD hS hA hpm
          obtain ⟨hPc, hDc⟩ := ub_subP hP hD hpm
          refine us_calli (va_runV (As := [.int 5]) (rest := [.int 1]) ⟨hx, hb, hml, hown, hts⟩ (uo_account l g hR (x := 5)) (cwV 1 hts gu_RL_34 rfl rfl rfl ⟨rfl, uhX8_account⟩ ⟨Nat.le_of_ble_eq_true rfl, Nat.le_of_ble_eq_true rfl⟩) (us_preO hR hZ hS hFc hPc hDc hK hN) rfl rfl hl.1 rfl (lv_room (Nat.le_of_ble_eq_true rfl)) dL_foretold_239 ⟨Nat.le_trans (Nat.le_of_eq (Nat.add_zero _)) (by show (36 + 18 * i) ≤ 530; omega), Nat.le_trans (Nat.le_of_eq (Nat.add_zero _)) (by show (506 + 253 * i) ≤ 7400; omega)⟩) hP hD hS hA hpm (fun r Wo29 H locs hpost hP hD hS => ?_)
          have hP : va_P g.1 vwCl Wo29 H := by have h9 := hP; rw [List.append_nil] at h9; exact h9
          have hD : va_D A Wo29 := by have h9 := hD; rw [List.append_nil] at h9; exact h9
          obtain ⟨hr, hR⟩ := hpost
          have er : r = nI (f 5 + um_fc (f 1) f) := by rw [hr, ← a5]; rfl
          rw [er]
          refine lv_iload hx hb dL_foretold_242 (lv_at hl 5 rfl) ?_
          refine lv_iload_n hx hb dL_foretold_244 rfl (lv_at hl 4 rfl) ?_
          refine lv_iadd hx hb dL_foretold_245 ?_
          refine us_topi (x := nI (f 5 + um_fc (f 1) f)) (nI_add _ _) ?_
          refine lv_icmp_ne (tgt := 253) hx hb dL_foretold_246 (by decide) (fun cc => absurd rfl cc) (fun _ => ?_)
          refine lv_iconst (v := 1) hx hb dL_foretold_249 (by decide) ?_
          refine lv_goto (tgt := 254) hx hb dL_foretold_250 (by decide) ?_
          refine lv_iand hx hb dL_foretold_254 ?_
          refine us_topi (x := 1) (show (1 : Int32) &&& 1 = 1 by decide) ?_
          refine lv_istore (lv' := [(5, .int 1), (10, .int (nI i)), (0, .ref h0), (1, .int (nI (f 0))), (2, .int (nI (f 1))), (3, .int (nI (um_fc (f 1) f))), (4, .int (nI (f 5)))]) hx hb dL_foretold_255 hl (by decide) rfl (fun ls hl => ?_)
          refine W.widen (k := 468) (n := 6578) (by omega) (by omega) ?_
          exact J257 _ _ _ _ _ Wo29 _ _ ls (uo_W_mono (by omega) (by omega) hR) (lv_sub hl [2, 3, 4, 5, 6, 0] rfl) hP hD hS
        | succ q ih =>
          intro i f2 hist2 lr2 ld2 L2 Wo H locs ls hiq hm hR hl hP hD hS
          obtain ⟨m, m1, m2, rfl⟩ := hm
          obtain ⟨a1, a2, -⟩ := up_all hI m m1
          refine lv_iload hx hb dL_foretold_200 (lv_at hl 0 rfl) ?_
          refine lv_bipush (v := 24) hx hb dL_foretold_202 (by decide) ?_
          refine lv_icmp_ge (tgt := 227) hx hb dL_foretold_204 (by decide) (fun cc => absurd cc (nI_ge (b := 24) (by omega) (by decide))) (fun _ => ?_)
          refine lv_aload_n hx hb dL_foretold_207 rfl (lv_at hl 1 rfl) ?_
          refine lv_iconst (v := 1) hx hb dL_foretold_208 (by decide) ?_
          have hpm : (Wo : va_W).Perm (Wo ++ ([] : va_W)) := List.Perm.of_eq (List.append_nil _).symm
          have hFc := ub_freeP hD hS hA hpm
          obtain ⟨hPc, hDc⟩ := ub_subP hP hD hpm
          refine us_calli (va_runV (As := [.int 1]) (rest := []) ⟨hx, hb, hml, hown, hts⟩ (uo_account l g hR (x := 1)) (cwV 1 hts gu_RL_34 rfl rfl rfl ⟨rfl, uhX8_account⟩ ⟨Nat.le_of_ble_eq_true rfl, Nat.le_of_ble_eq_true rfl⟩) (us_preO hR hZ hS hFc hPc hDc hK hN) rfl rfl hl.1 rfl (lv_room (Nat.le_of_ble_eq_true rfl)) dL_foretold_209 ⟨Nat.le_trans (Nat.le_of_eq (Nat.add_zero _)) (by show (36 + 18 * i) ≤ 530; omega), Nat.le_trans (Nat.le_of_eq (Nat.add_zero _)) (by show (506 + 253 * i) ≤ 7400; omega)⟩) hP hD hS hA hpm (fun r Wo30 H locs hpost hP hD hS => ?_)
          have hP : va_P g.1 vwCl Wo30 H := by have h9 := hP; rw [List.append_nil] at h9; exact h9
          have hD : va_D A Wo30 := by have h9 := hD; rw [List.append_nil] at h9; exact h9
          obtain ⟨hr, hR⟩ := hpost
          have er : r = nI (f 1 - m) := by rw [hr, ← a2]; rfl
          rw [er]
          by_cases hz : m = f 1
          · refine lv_if_le (tgt := 227) hx hb dL_foretold_212 (by decide) (fun _ => ?_) (fun cc => absurd (nI_leI (by omega) (by decide) (b := 0) |>.mpr (by omega)) cc)
            rw [hz] at hR
            have a5 := uk_5 hI (f 1) (Nat.le_refl _)
            obtain ⟨b1, b2, -⟩ := up_all hI (f 1) (Nat.le_refl _)
            have b3 : um_rings (f 1) f 1 = 0 := by omega
            refine lv_iload hx hb dL_foretold_227 (lv_at hl 6 rfl) ?_
            refine lv_aload_n hx hb dL_foretold_229 rfl (lv_at hl 1 rfl) ?_
            refine lv_iconst (v := 1) hx hb dL_foretold_230 (by decide) ?_
            have hpm : (Wo30 : va_W).Perm (Wo30 ++ ([] : va_W)) := List.Perm.of_eq (List.append_nil _).symm
            have hFc := ub_freeP hD hS hA hpm
            obtain ⟨hPc, hDc⟩ := ub_subP hP hD hpm
            refine us_calli (va_runV (As := [.int 1]) (rest := [.int 1]) ⟨hx, hb, hml, hown, hts⟩ (uo_account l g hR (x := 1)) (cwV 1 hts gu_RL_34 rfl rfl rfl ⟨rfl, uhX8_account⟩ ⟨Nat.le_of_ble_eq_true rfl, Nat.le_of_ble_eq_true rfl⟩) (us_preO hR hZ hS hFc hPc hDc hK hN) rfl rfl hl.1 rfl (lv_room (Nat.le_of_ble_eq_true rfl)) dL_foretold_231 ⟨Nat.le_trans (Nat.le_of_eq (Nat.add_zero _)) (by show (36 + 18 * i) ≤ 530; omega), Nat.le_trans (Nat.le_of_eq (Nat.add_zero _)) (by show (506 + 253 * i) ≤ 7400; omega)⟩) hP hD hS hA hpm (fun r Wo31 H locs hpost hP hD hS => ?_)
            have hP : va_P g.1 vwCl Wo31 H := by have h9 := hP; rw [List.append_nil] at h9; exact h9
            have hD : va_D A Wo31 := by have h9 := hD; rw [List.append_nil] at h9; exact h9
            obtain ⟨hr, hR⟩ := hpost
            have er : r = 0 := by rw [hr]; exact congrArg nI b3
            rw [er]
            refine lv_if_ne (tgt := 253) hx hb dL_foretold_234 (by decide) (fun cc => absurd rfl cc) (fun _ => ?_)
            refine lv_aload_n hx hb dL_foretold_237 rfl (lv_at hl 1 rfl) ?_
            refine lv_iconst (v := 5) hx hb dL_foretold_238 (by decide) ?_
            have hpm : (Wo31 : va_W).Perm (Wo31 ++ ([] : va_W)) := List.Perm.of_eq (List.append_nil _).symm
            have hFc := ub_freeP hD hS hA hpm
            obtain ⟨hPc, hDc⟩ := ub_subP hP hD hpm
            refine us_calli (va_runV (As := [.int 5]) (rest := [.int 1]) ⟨hx, hb, hml, hown, hts⟩ (uo_account l g hR (x := 5)) (cwV 1 hts gu_RL_34 rfl rfl rfl ⟨rfl, uhX8_account⟩ ⟨Nat.le_of_ble_eq_true rfl, Nat.le_of_ble_eq_true rfl⟩) (us_preO hR hZ hS hFc hPc hDc hK hN) rfl rfl hl.1 rfl (lv_room (Nat.le_of_ble_eq_true rfl)) dL_foretold_239 ⟨Nat.le_trans (Nat.le_of_eq (Nat.add_zero _)) (by show (36 + 18 * i) ≤ 530; omega), Nat.le_trans (Nat.le_of_eq (Nat.add_zero _)) (by show (506 + 253 * i) ≤ 7400; omega)⟩) hP hD hS hA hpm (fun r Wo32 H locs hpost hP hD hS => ?_)
            have hP : va_P g.1 vwCl Wo32 H := by have h9 := hP; rw [List.append_nil] at h9; exact h9
            have hD : va_D A Wo32 := by have h9 := hD; rw [List.append_nil] at h9; exact h9
            obtain ⟨hr, hR⟩ := hpost
            have er : r = nI (f 5 + um_fc (f 1) f) := by rw [hr, ← a5]; rfl
            rw [er]
            refine lv_iload hx hb dL_foretold_242 (lv_at hl 5 rfl) ?_
            refine lv_iload_n hx hb dL_foretold_244 rfl (lv_at hl 4 rfl) ?_
            refine lv_iadd hx hb dL_foretold_245 ?_
            refine us_topi (x := nI (f 5 + um_fc (f 1) f)) (nI_add _ _) ?_
            refine lv_icmp_ne (tgt := 253) hx hb dL_foretold_246 (by decide) (fun cc => absurd rfl cc) (fun _ => ?_)
            refine lv_iconst (v := 1) hx hb dL_foretold_249 (by decide) ?_
            refine lv_goto (tgt := 254) hx hb dL_foretold_250 (by decide) ?_
            refine lv_iand hx hb dL_foretold_254 ?_
            refine us_topi (x := 1) (show (1 : Int32) &&& 1 = 1 by decide) ?_
            refine lv_istore (lv' := [(5, .int 1), (10, .int (nI i)), (0, .ref h0), (1, .int (nI (f 0))), (2, .int (nI (f 1))), (3, .int (nI (um_fc (f 1) f))), (4, .int (nI (f 5)))]) hx hb dL_foretold_255 hl (by decide) rfl (fun ls hl => ?_)
            refine W.widen (k := 468) (n := 6578) (by omega) (by omega) ?_
            exact J257 _ _ _ _ _ Wo32 _ _ ls (uo_W_mono (by omega) (by omega) hR) (lv_sub hl [2, 3, 4, 5, 6, 0] rfl) hP hD hS
          · refine lv_if_le (tgt := 227) hx hb dL_foretold_212 (by decide) (fun cc => absurd cc (fun z => absurd ((nI_leI (by omega) (by decide) (b := 0)).mp z) (by omega))) (fun _ => ?_)
            refine lv_aload_n hx hb dL_foretold_215 rfl (lv_at hl 1 rfl) ?_
            have hpm : (Wo30 : va_W).Perm (Wo30 ++ ([] : va_W)) := List.Perm.of_eq (List.append_nil _).symm
            have hFc := ub_freeP hD hS hA hpm
            obtain ⟨hPc, hDc⟩ := ub_subP hP hD hpm
            refine us_calli (va_runV (As := []) (rest := []) ⟨hx, hb, hml, hown, hts⟩ (uo_hour l g hR (by omega)) (cwV 0 hts gu_RL_65 rfl rfl rfl ⟨rfl, uhX8_hour⟩ ⟨Nat.le_of_ble_eq_true rfl, Nat.le_of_ble_eq_true rfl⟩) (us_preO hR hZ hS hFc hPc hDc hK hN) rfl rfl hl.1 rfl (lv_room (Nat.le_of_ble_eq_true rfl)) dL_foretold_216 ⟨by show (36 + 18 * i) + 18 ≤ 530; omega, by show (506 + 253 * i) + 253 ≤ 7400; omega⟩) hP hD hS hA hpm (fun r Wo33 H locs hpost hP hD hS => ?_)
            have hP : va_P g.1 vwCl Wo33 H := by have h9 := hP; rw [List.append_nil] at h9; exact h9
            have hD : va_D A Wo33 := by have h9 := hD; rw [List.append_nil] at h9; exact h9
            obtain ⟨f3, lr3, ld3, hU3, hR⟩ := hpost
            refine W.widen (k := (36 + 18 * i) + 18) (n := (506 + 253 * i) + 253) (by omega) (by omega) ?_
            obtain ⟨m3, m4, m5, rfl⟩ := uk_hour hI (show m < f 1 by omega) rfl hU3
            refine lv_istore (lv' := [(11, .int r), (10, .int (nI i)), (0, .ref h0), (1, .int (nI (f 0))), (2, .int (nI (f 1))), (3, .int (nI (um_fc (f 1) f))), (4, .int (nI (f 5))), (5, .int 1)]) hx hb dL_foretold_219 hl (by decide) rfl (fun ls hl => ?_)
            refine lv_iinc (v := nI i + 1) (lv' := [(10, .int (nI i + 1)), (11, .int r), (0, .ref h0), (1, .int (nI (f 0))), (2, .int (nI (f 1))), (3, .int (nI (um_fc (f 1) f))), (4, .int (nI (f 5))), (5, .int 1)]) hx hb dL_foretold_221 hl (k := 1) rfl rfl (by decide) rfl (fun ls hl => ?_)
            refine lv_goto (tgt := 200) hx hb dL_foretold_224 (by decide) ?_
            rw [nI_1] at hl
            refine W.widen (k := 36 + 18 * (i + 1)) (n := 506 + 253 * (i + 1)) (by omega) (by omega) ?_
            exact ih (i + 1) _ _ lr3 ld3 _ Wo33 _ _ ls (by omega) ⟨m3, m5, by omega, rfl⟩ hR (lv_sub hl [0, 2, 3, 4, 5, 6, 7] rfl) hP hD hS
      refine lv_iload hx hb dL_foretold_176 (lv_at hl 0 rfl) ?_
      by_cases hd0 : um_ringR f = 0
      · refine lv_if_ne (tgt := 185) hx hb dL_foretold_178 (by decide) (fun cc => absurd (by rw [hd0]; rfl) cc) (fun _ => ?_)
        refine lv_iconst (v := 0) hx hb dL_foretold_181 (by decide) ?_
        refine lv_goto (tgt := 186) hx hb dL_foretold_182 (by decide) ?_
        refine lv_icmp_ne (tgt := 193) hx hb dL_foretold_186 (by decide) (fun cc => absurd (by rw [decide_eq_false (not_not_intro hd0)]; rfl) cc) (fun _ => ?_)
        refine lv_iconst (v := 1) hx hb dL_foretold_189 (by decide) ?_
        refine lv_goto (tgt := 194) hx hb dL_foretold_190 (by decide) ?_
        refine lv_iand hx hb dL_foretold_194 ?_
        refine us_topi (x := 1) (show (1 : Int32) &&& 1 = 1 by decide) ?_
        refine lv_istore (lv' := [(5, .int 1), (9, .int (nI (um_ringR f))), (7, .int (nI (f 84))), (6, .int (nI (f 83))), (0, .ref h0), (1, .int (nI (f 0))), (2, .int (nI (f 1))), (3, .int (nI (um_fc (f 1) f))), (4, .int (nI (f 5)))]) hx hb dL_foretold_195 hl (by decide) rfl (fun ls hl => ?_)
        refine lv_iconst (v := 0) hx hb dL_foretold_197 (by decide) ?_
        refine lv_istore (lv' := [(10, .int 0), (5, .int 1), (9, .int (nI (um_ringR f))), (7, .int (nI (f 84))), (6, .int (nI (f 83))), (0, .ref h0), (1, .int (nI (f 0))), (2, .int (nI (f 1))), (3, .int (nI (um_fc (f 1) f))), (4, .int (nI (f 5)))]) hx hb dL_foretold_198 hl (by decide) rfl (fun ls hl => ?_)
        refine W.widen (k := 36 + 18 * 0) (n := 506 + 253 * 0) (by omega) (by omega) ?_
        exact loopH 24 0 _ _ lr2 ld2 _ Wo27 _ _ ls (by omega) ⟨1, h1, by omega, rfl⟩ hR (lv_sub hl [0, 5, 6, 7, 8, 9, 1] rfl) hP hD hS
      · refine lv_if_ne (tgt := 185) hx hb dL_foretold_178 (by decide) (fun _ => ?_) (fun cc => absurd cc (nI_ne0 (by omega) (by omega)))
        refine lv_iconst (v := 1) hx hb dL_foretold_185 (by decide) ?_
        refine lv_icmp_ne (tgt := 193) hx hb dL_foretold_186 (by decide) (fun cc => absurd (by rw [decide_eq_true hd0]; rfl) cc) (fun _ => ?_)
        refine lv_iconst (v := 1) hx hb dL_foretold_189 (by decide) ?_
        refine lv_goto (tgt := 194) hx hb dL_foretold_190 (by decide) ?_
        refine lv_iand hx hb dL_foretold_194 ?_
        refine us_topi (x := 1) (show (1 : Int32) &&& 1 = 1 by decide) ?_
        refine lv_istore (lv' := [(5, .int 1), (9, .int (nI (um_ringR f))), (7, .int (nI (f 84))), (6, .int (nI (f 83))), (0, .ref h0), (1, .int (nI (f 0))), (2, .int (nI (f 1))), (3, .int (nI (um_fc (f 1) f))), (4, .int (nI (f 5)))]) hx hb dL_foretold_195 hl (by decide) rfl (fun ls hl => ?_)
        refine lv_iconst (v := 0) hx hb dL_foretold_197 (by decide) ?_
        refine lv_istore (lv' := [(10, .int 0), (5, .int 1), (9, .int (nI (um_ringR f))), (7, .int (nI (f 84))), (6, .int (nI (f 83))), (0, .ref h0), (1, .int (nI (f 0))), (2, .int (nI (f 1))), (3, .int (nI (um_fc (f 1) f))), (4, .int (nI (f 5)))]) hx hb dL_foretold_198 hl (by decide) rfl (fun ls hl => ?_)
        refine W.widen (k := 36 + 18 * 0) (n := 506 + 253 * 0) (by omega) (by omega) ?_
        exact loopH 24 0 _ _ lr2 ld2 _ Wo27 _ _ ls (by omega) ⟨1, h1, by omega, rfl⟩ hR (lv_sub hl [0, 5, 6, 7, 8, 9, 1] rfl) hP hD hS
    by_cases hb0 : (f (211 + f 84)).testBit (f 83) = true
    · refine lv_icmp_ne (tgt := 107) hx hb dL_foretold_100 (by decide) (fun cc => absurd (by rw [hb0]; rfl) cc) (fun _ => ?_)
      refine lv_iconst (v := 1) hx hb dL_foretold_103 (by decide) ?_
      refine lv_goto (tgt := 108) hx hb dL_foretold_104 (by decide) ?_
      refine lv_istore (lv' := [(8, .int 1), (7, .int (nI (f 84))), (6, .int (nI (f 83))), (5, .int 1), (4, .int (nI (f 5))), (3, .int (nI (um_fc (f 1) f))), (2, .int (nI (f 1))), (1, .int (nI (f 0))), (0, .ref h0)]) hx hb dL_foretold_108 hl (by decide) rfl (fun ls hl => ?_)
      refine lv_iload hx hb dL_foretold_110 (lv_at hl 0 rfl) ?_
      refine lv_if_eq (tgt := 119) hx hb dL_foretold_112 (by decide) (fun cc => absurd cc (show ¬ (1 : Int32) = 0 by decide)) (fun _ => ?_)
      refine lv_iconst (v := 2) hx hb dL_foretold_115 (by decide) ?_
      refine lv_goto (tgt := 131) hx hb dL_foretold_116 (by decide) ?_
      refine lv_istore (lv' := [(9, .int 2), (8, .int 1), (7, .int (nI (f 84))), (6, .int (nI (f 83))), (5, .int 1), (4, .int (nI (f 5))), (3, .int (nI (um_fc (f 1) f))), (2, .int (nI (f 1))), (1, .int (nI (f 0))), (0, .ref h0)]) hx hb dL_foretold_131 hl (by decide) rfl (fun ls hl => ?_)
      have e2 : um_ringR f = 2 := if_pos hb0
      exact J133 Wo23 _ _ ls hR (lv_sub (l' := [(9, .int (nI (um_ringR f))), (7, .int (nI (f 84))), (6, .int (nI (f 83))), (0, .ref h0), (1, .int (nI (f 0))), (2, .int (nI (f 1))), (3, .int (nI (um_fc (f 1) f))), (4, .int (nI (f 5))), (5, .int 1)]) hl [0, 2, 3, 9, 8, 7, 6, 5, 4] (by rw [e2]; rfl)) hP hD hS
    · refine lv_icmp_ne (tgt := 107) hx hb dL_foretold_100 (by decide) (fun _ => ?_) (fun cc => absurd cc (by rw [Bool.eq_false_iff.mpr hb0]; decide))
      refine lv_iconst (v := 0) hx hb dL_foretold_107 (by decide) ?_
      refine lv_istore (lv' := [(8, .int 0), (7, .int (nI (f 84))), (6, .int (nI (f 83))), (5, .int 1), (4, .int (nI (f 5))), (3, .int (nI (um_fc (f 1) f))), (2, .int (nI (f 1))), (1, .int (nI (f 0))), (0, .ref h0)]) hx hb dL_foretold_108 hl (by decide) rfl (fun ls hl => ?_)
      refine lv_iload hx hb dL_foretold_110 (lv_at hl 0 rfl) ?_
      refine lv_if_eq (tgt := 119) hx hb dL_foretold_112 (by decide) (fun _ => ?_) (fun cc => absurd rfl cc)
      refine lv_aload_n hx hb dL_foretold_119 rfl (lv_at hl 8 rfl) ?_
      refine lv_iload hx hb dL_foretold_120 (lv_at hl 2 rfl) ?_
      refine lv_aload_n hx hb dL_foretold_122 rfl (lv_at hl 8 rfl) ?_
      refine lv_iconst (v := 0) hx hb dL_foretold_123 (by decide) ?_
      refine lv_iconst (v := 2) hx hb dL_foretold_124 (by decide) ?_
      have hpm : (Wo23 : va_W).Perm (Wo23 ++ ([] : va_W)) := List.Perm.of_eq (List.append_nil _).symm
      have hFc := ub_freeP hD hS hA hpm
      obtain ⟨hPc, hDc⟩ := ub_subP hP hD hpm
      refine us_calli (va_runV (As := [.int 0, .int 2]) (rest := [.int (nI (f 83)), .ref h0]) ⟨hx, hb, hml, hown, hts⟩ (uo_waiting l g hR (x := 0) (v := 2)) (cwV 2 hts gu_RL_109 rfl rfl rfl ⟨rfl, uhX8_waiting⟩ ⟨Nat.le_of_ble_eq_true rfl, Nat.le_of_ble_eq_true rfl⟩) (us_preO hR hZ hS hFc hPc hDc hK hN) rfl rfl hl.1 rfl (lv_room (Nat.le_of_ble_eq_true rfl)) dL_foretold_125 ⟨Nat.le_trans (Nat.le_of_eq (Nat.add_zero _)) (by show (0 + 18) ≤ 530; omega), Nat.le_trans (Nat.le_of_eq (Nat.add_zero _)) (by show (0 + 253) ≤ 7400; omega)⟩) hP hD hS hA hpm (fun r Wo34 H locs hpost hP hD hS => ?_)
      have hP : va_P g.1 vwCl Wo34 H := by have h9 := hP; rw [List.append_nil] at h9; exact h9
      have hD : va_D A Wo34 := by have h9 := hD; rw [List.append_nil] at h9; exact h9
      obtain ⟨hr, hR⟩ := hpost
      have er : r = nI (f 85) := hr.trans (uw_waiting (j := 0) (i := 2) hI h1 (by decide))
      rw [er]
      have hpm : (Wo34 : va_W).Perm (Wo34 ++ ([] : va_W)) := List.Perm.of_eq (List.append_nil _).symm
      have hFc := ub_freeP hD hS hA hpm
      obtain ⟨hPc, hDc⟩ := ub_subP hP hD hpm
      refine us_calli (va_runV (As := [.int (nI (f 83)), .int (nI (f 85))]) (rest := []) ⟨hx, hb, hml, hown, hts⟩ (uo_would l g hR (x := (nI (f 83))) (v := (nI (f 85)))) (cwV 2 hts gu_RL_129 rfl rfl rfl ⟨rfl, uhX8_would⟩ ⟨Nat.le_of_ble_eq_true rfl, Nat.le_of_ble_eq_true rfl⟩) (us_preO hR hZ hS hFc hPc hDc hK hN) rfl rfl hl.1 rfl (lv_room (Nat.le_of_ble_eq_true rfl)) dL_foretold_128 ⟨Nat.le_trans (Nat.le_of_eq (Nat.add_zero _)) (by show (0 + 18) ≤ 530; omega), Nat.le_trans (Nat.le_of_eq (Nat.add_zero _)) (by show (0 + 253) ≤ 7400; omega)⟩) hP hD hS hA hpm (fun r Wo35 H locs hpost hP hD hS => ?_)
      have hP : va_P g.1 vwCl Wo35 H := by have h9 := hP; rw [List.append_nil] at h9; exact h9
      have hD : va_D A Wo35 := by have h9 := hD; rw [List.append_nil] at h9; exact h9
      obtain ⟨hr, hR⟩ := hpost
      have er : r = nI (um_ringR f) := (hr.trans (uw_would hI p1 p3 p4)).trans (congrArg nI (uk_due hb0))
      rw [er]
      refine lv_istore (lv' := [(9, .int (nI (um_ringR f))), (8, .int 0), (7, .int (nI (f 84))), (6, .int (nI (f 83))), (5, .int 1), (4, .int (nI (f 5))), (3, .int (nI (um_fc (f 1) f))), (2, .int (nI (f 1))), (1, .int (nI (f 0))), (0, .ref h0)]) hx hb dL_foretold_131 hl (by decide) rfl (fun ls hl => ?_)
      exact J133 Wo35 _ _ ls hR (lv_sub hl [0, 2, 3, 9, 8, 7, 6, 5, 4] rfl) hP hD hS

