/-! ===== the law's own walk ===== -/
theorem ux_rope_no {f f' : Nat → Nat} {x y : Int32} (h : um_in x 4 = false) (hU : uq_rope f f' x y) : y = -1012 ∧ f' = f := by
  rcases hU with ⟨-, a, b⟩ | ⟨p, hp, rfl, -⟩
  · exact ⟨a, b⟩
  · rw [uw_in hp (by decide)] at h
    exact absurd h (by decide)
theorem ux_no {x : Int32} {f : Nat → Nat} {c r : Nat} (hI : um_I f c) (h : um_in x (f 0) = false) (hr : r < f 0) (hx : x = nI r) : False := by
  rw [hx, uw_in hr (by have := hI.2.1; omega)] at h
  exact absurd h (by decide)
theorem ux_pull_no {f f' : Nat → Nat} {c : Nat} {x t s y : Int32} (hI : um_I f c) (h : um_in x (f 0) = false) (hU : uq_pull f f' x t s y) : y = -1011 ∧ f' = f := by
  rcases hU with ⟨-, a, b⟩ | ⟨r, hr, hx, -⟩
  · exact ⟨a, b⟩
  · exact (ux_no hI h hr hx).elim
theorem ux_sensor_no {f f' : Nat → Nat} {c : Nat} {x t y : Int32} (hI : um_I f c) (h : um_in x (f 0) = false) (hU : uq_sensor f f' x t y) : y = -1011 ∧ f' = f := by
  rcases hU with ⟨-, a, b⟩ | ⟨r, hr, hx, -⟩
  · exact ⟨a, b⟩
  · exact (ux_no hI h hr hx).elim
theorem ux_oil_no {f f' : Nat → Nat} {c : Nat} {x t y : Int32} (hI : um_I f c) (h : um_in x (f 0) = false) (hU : uq_oil f f' x t y) : y = -1011 ∧ f' = f := by
  rcases hU with ⟨-, a, b⟩ | ⟨r, hr, hx, -⟩
  · exact ⟨a, b⟩
  · exact (ux_no hI h hr hx).elim
theorem ux_ring_no {f f' : Nat → Nat} {y lr ld lr' ld' : Int32} (h : f 1 = 0) (hU : uq_ring f f' y lr ld lr' ld') : y = -1014 ∧ f' = f ∧ lr' = 3 ∧ ld' = nI (f 10) := by
  rcases hU with ⟨-, a, b, c, d⟩ | ⟨h1, -⟩
  · exact ⟨a, b, c, d⟩
  · omega
theorem ux_hour_no {f f' : Nat → Nat} {y : Int32} (h : f 1 = 0) (hU : uq_hour f f' y) : y = -1014 ∧ f' = f := by
  rcases hU with ⟨-, a, b⟩ | ⟨h1, -⟩
  · exact ⟨a, b⟩
  · omega
theorem ux_answered24 {f : Nat → Nat} : ux_answered f (nI 24) = -1012 := by
  have e : ufX9_answered (um_nv f) (nI 24) = some (-1012) := by
    unfold ufX9_answered
    rw [um_isHour, uw_no (by decide) (by decide) (by decide)]
    rfl
  unfold ux_answered
  rw [e]
  rfl
theorem uJ_14 : uJ us_s14 := by
  have h1 : ∀ j, j < us_s14 1 → ∀ i, i < j → uj_key us_s14 i ≤ uj_key us_s14 j := by decide +kernel
  have h5 : ∀ k, k < us_s14 9 - 1 → us_s14 (133 + 4 * (k + 1)) < us_s14 (133 + 4 * k) ∨ (us_s14 (133 + 4 * (k + 1)) = us_s14 (133 + 4 * k) ∧ us_s14 (132 + 4 * (k + 1)) ≤ us_s14 (132 + 4 * k)) := by decide +kernel
  exact ⟨fun i j a b => h1 j b i a, by decide +kernel, by decide +kernel, by decide +kernel, fun k hk => h5 k (by omega), by decide +kernel⟩
/-- told tells nothing of what can be undone -/
theorem us_told_n {f : Nat → Nat} {n n' : Nat} : us_told f n = us_told f n' := by
  have hA : ∀ i, i ≤ 11 → ut_tA f n i = ut_tA f n' i := by
    intro i
    induction i with
    | zero => intro _; rfl
    | succ i ih =>
      intro hi
      have ha : ut_acc f n (nI i) = ut_acc f n' (nI i) := by
        unfold ut_acc
        by_cases h9 : i < 9
        · rw [if_pos (uw_in h9 (by decide)), if_pos (uw_in h9 (by decide))]
        · rw [uw_no h9 (by omega) (by decide), if_neg (show ¬ (false = true) by decide), if_neg (show ¬ (false = true) by decide)]
          rcases (show i = 9 ∨ i = 10 by omega) with rfl | rfl
          · rw [if_pos (show nI 9 = (9 : Int32) from rfl), if_pos (show nI 9 = (9 : Int32) from rfl)]
          · rw [if_neg (show ¬ nI 10 = (9 : Int32) by decide), if_neg (show ¬ nI 10 = (9 : Int32) by decide), if_pos (show nI 10 = (10 : Int32) from rfl), if_pos (show nI 10 = (10 : Int32) from rfl)]
      rw [ut_tA, ut_tA, ih (by omega), ha]
  have hB : ∀ i, ut_tB f n i = ut_tB f n' i := by
    intro i
    induction i with
    | zero => exact hA 11 (Nat.le_refl _)
    | succ i ih => rw [ut_tB, ut_tB, ih]
  have hC : ∀ i, ut_tC f n i = ut_tC f n' i := by
    intro i
    induction i with
    | zero => exact hB _
    | succ i ih => rw [ut_tC, ut_tC, ih]
  have hD : ∀ i, ut_tD f n i = ut_tD f n' i := by
    intro i
    induction i with
    | zero => exact hC _
    | succ i ih => rw [ut_tD, ut_tD, ih]
  exact hD 80
theorem us_told_ao {f : Nat → Nat} {c : Nat} (hI : um_I f c) (hJ : uJ f) : ∀ q, q < 80 → ¬ ux_answerOf f (nI (q / 4)) (nI (q % 4)) = -2147483648 := by
  intro q hq
  by_cases h : q / 4 < f 9
  · rw [uw_answerOf hI h (by omega)]
    obtain ⟨a1, a2, a3, a4, a5, -⟩ := hJ.2.2.2.1 (q / 4) h
    have h3 := hI.2.2.2.2.1
    have h0 := hI.1
    have h12 := hI.2.1
    apply us_nI_ok
    rcases (show q % 4 = 0 ∨ q % 4 = 1 ∨ q % 4 = 2 ∨ q % 4 = 3 by omega) with e | e | e | e
    · rw [show 131 + 4 * (q / 4) + q % 4 = 131 + 4 * (q / 4) by omega]
      omega
    · rw [show 131 + 4 * (q / 4) + q % 4 = 132 + 4 * (q / 4) by omega]
      omega
    · rw [show 131 + 4 * (q / 4) + q % 4 = 133 + 4 * (q / 4) by omega]
      omega
    · rw [show 131 + 4 * (q / 4) + q % 4 = 134 + 4 * (q / 4) by omega]
      omega
  · rw [uw_answerOfNo hI h (by omega)]
    decide
theorem us_told_len {f : Nat → Nat} {c n : Nat} (hI : um_I f c) : (us_told f n).length ≤ 100000 := by
  have h12 := hI.2.1
  have h := ut_tD_len (n := n) h12 (fun r hr => ut_tell_len hI hr) 80
  show (ut_tD f n 80).length ≤ 100000
  omega
theorem uo_W_hist {g : us_G} {h0 k : Nat} {f : Nat → Nat} {hist : List (Nat → Nat)} {sv : Option (Nat → Nat)} {lr ld : Int32} {L : List Nat} {W : va_W} (h : uo_W g h0 k f hist sv lr ld L W) : hist.length ≤ 8 := by
  obtain ⟨ad, X, z, hf, T, tr, on0, ps0, ok0, om0, tc, lc, G, h1, h2, h3, h4, h5, h6, h7⟩ := h
  exact h4.2.1
theorem us_min8 {n : Nat} (h : n ≤ 8) : (if nI (n + 1) < 8 then nI (n + 1) else 8) = nI (min 8 (n + 1)) := by
  by_cases e : n + 1 < 8
  · rw [if_pos (show nI (n + 1) < (8 : Int32) from nI_lt (a := n + 1) (b := 8) e (by decide))]
    congr 1
    omega
  · rw [if_neg (show ¬ nI (n + 1) < (8 : Int32) from nI_nlt (a := n + 1) (b := 8) (by omega) (by omega)), show min 8 (n + 1) = 8 by omega]
    rfl
theorem us_take8 {α : Type} {x : α} {l : List α} (h : l.length ≤ 8) : ((x :: l).take 8).length = min 8 (l.length + 1) := by
  rw [List.length_take, List.length_cons]
theorem us_hd8 {α : Type} {x d : α} {l : List α} : ((x :: l).take 8).headD d = x := rfl
theorem us_mod3 : ∀ i, i < 16 → (nI i - nI i / 3 * 3 = 2 ∨ ¬ nI i - nI i / 3 * 3 = 2) := fun i _ => Classical.em _
theorem us_dec8 {n : Nat} (h : n ≤ 8) : nI (min 8 (n + 1)) + -1 = nI (min 8 (n + 1) - 1) := by
  have h1 : ∀ n, n < 9 → nI (min 8 (n + 1)) + -1 = nI (min 8 (n + 1) - 1) := by decide +kernel
  exact h1 n (by omega)
set_option maxHeartbeats 4000000 in
set_option maxRecDepth 100000 in
theorem ul_sixteen {p : Program} {l : Launch} {e : Env} {s : State} {m : MethodId} {args : Array Value} {below : List Frame} {meth : Method} {c : Code} {Q : State → Prop} {g : us_G} {A : Nat → Prop} (K0 : us_kx p s m args meth c cL_law 10 RL g A) {b Ls : Nat} {xs : Nat → Int32} (hX : va_X b Ls xs s s.heap) (hbl : b < s.heap.size) (hbA : ¬ A b) (hLs : Ls < 2 ^ 31) {h0 : Nat}
    (kend : ∀ (H : Heap) (locs : List Loc) (ls : Array Slot), va_S A s.heap H locs → W p l e ({ frames := 13, cells := 453666, slots := 7741250, locals := 506 } : Room) s m args below meth c H locs 453666 7741250 Q (F0 m 494 ls [.int 1])) {made : Int32} (hmade : 0 < made) {f : Nat → Nat} {hist : List (Nat → Nat)} {sv : Option (Nat → Nat)} {lr ld : Int32} {L : List Nat} {Wo : va_W} {H : Heap} {locs : List Loc} {ls : Array Slot} (hJ : uJ f) (hR : uo_W g h0 20 f hist sv lr ld L Wo) (hl : lv_has ls 10 [(4, .int 0), (2, .int 0), (1, .ref h0), (0, .ref b), (3, .int made)]) (hP : va_P g.1 vwCl Wo H) (hD : va_D A Wo) (hS : va_S A s.heap H locs) : W p l e ({ frames := 13, cells := 453666, slots := 7741250, locals := 506 } : Room) s m args below meth c H locs 2000 20000 Q (F0 m 235 ls []) := by
  obtain ⟨hx, hb, hml, hown, hts, hK, hN, hA, hZ⟩ := id K0
  have loopM : ∀ (q i : Nat) (f : Nat → Nat) (hist : List (Nat → Nat)) (sv : Option (Nat → Nat)) (lr : Int32) (ld : Int32) (L : List Nat) (Wo : va_W) (H : Heap) (locs : List Loc) (ls : Array Slot), 16 = i + q → uJ f → uo_W g h0 (20 + 42 * i) f hist sv lr ld L Wo → lv_has ls 10 [(4, .int (nI i)), (2, .int (nI (2 * i))), (1, .ref h0), (0, .ref b), (3, .int made)] → va_P g.1 vwCl Wo H → va_D A Wo → va_S A s.heap H locs → W p l e ({ frames := 13, cells := 453666, slots := 7741250, locals := 506 } : Room) s m args below meth c H locs (2000 + 6000 * i) (20000 + 300000 * i) Q (F0 m 235 ls []) := by
    intro q
    induction q with
    | zero =>
      intro i f hist sv lr ld L Wo H locs ls hiq hJ hR hl hP hD hS
      have ei : i = 16 := by omega
      refine lv_iload hx hb dL_law_235 (lv_at hl 0 rfl) ?_
      refine lv_bipush (v := 16) hx hb dL_law_237 (by decide) ?_
      refine lv_icmp_ge (tgt := 485) hx hb dL_law_239 (by decide) (fun _ => ?_) (fun cc => absurd (nI_le (a := 16) (by omega) (by omega)) cc)
      refine lv_iload_n hx hb dL_law_485 rfl (lv_at hl 4 rfl) ?_
      refine lv_if_le (tgt := 493) hx hb dL_law_486 (by decide) (fun cc => absurd cc (Int32.not_le.mpr hmade)) (fun _ => ?_)
      refine lv_iconst (v := 1) hx hb dL_law_489 (by decide) ?_
      refine lv_goto (tgt := 494) hx hb dL_law_490 (by decide) ?_
      have hS : va_S A s.heap H locs := hS
      refine W.widen (k := 453666) (n := 7741250) (by omega) (by omega) ?_
      exact kend H locs ls hS
    | succ q ih =>
      intro i f hist sv lr ld L Wo H locs ls hiq hJ hR hl hP hD hS
      have hi16 : i < 16 := by omega
      have hI := (uo_W_len hR).2
      have hh8 := uo_W_hist hR
      have hka : 20 + 42 * i ≤ 1000 := by omega
      have J479 : ∀ (f3 : Nat → Nat) (hist3 : List (Nat → Nat)) (sv3 : Option (Nat → Nat)) (lr3 : Int32) (ld3 : Int32) (L3 : List Nat) (Wo : va_W) (H : Heap) (locs : List Loc) (ls : Array Slot), uJ f3 → uo_W g h0 (20 + 42 * (i + 1)) f3 hist3 sv3 lr3 ld3 L3 Wo → lv_has ls 10 [(4, .int (nI i)), (2, .int (nI (2 * (i + 1)))), (1, .ref h0), (0, .ref b), (3, .int made)] → va_P g.1 vwCl Wo H → va_D A Wo → va_S A s.heap H locs → W p l e ({ frames := 13, cells := 453666, slots := 7741250, locals := 506 } : Room) s m args below meth c H locs (2000 + 6000 * i + 5800) (20000 + 300000 * i + 290000) Q (F0 m 479 ls []) := by
        intro f3 hist3 sv3 lr3 ld3 L3 Wo H locs ls hJ3 hR hl hP hD hS
        refine lv_iinc (v := nI i + 1) (lv' := [(4, .int (nI i + 1)), (2, .int (nI (2 * (i + 1)))), (1, .ref h0), (0, .ref b), (3, .int made)]) hx hb dL_law_479 hl (k := 0) rfl rfl (by decide) rfl (fun ls hl => ?_)
        refine lv_goto (tgt := 235) hx hb dL_law_482 (by decide) ?_
        rw [nI_1] at hl
        refine W.widen (k := 2000 + 6000 * (i + 1)) (n := 20000 + 300000 * (i + 1)) (by omega) (by omega) ?_
        exact ih (i + 1) f3 hist3 sv3 lr3 ld3 L3 Wo _ _ ls (by omega) hJ3 hR (lv_sub hl [0, 1, 2, 3, 4] (by rfl)) hP hD hS
      have J385 : ∀ (f3 : Nat → Nat) (hist3 : List (Nat → Nat)) (sv3 : Option (Nat → Nat)) (lr3 : Int32) (ld3 : Int32) (L3 : List Nat) (Wo : va_W) (H : Heap) (locs : List Loc) (ls : Array Slot), uJ f3 → uo_W g h0 (20 + 42 * i + 1) f3 hist3 sv3 lr3 ld3 L3 Wo → lv_has ls 10 [(7, .int (nI hist3.length)), (4, .int (nI i)), (2, .int (nI (2 * (i + 1)))), (1, .ref h0), (0, .ref b), (3, .int made)] → va_P g.1 vwCl Wo H → va_D A Wo → va_S A s.heap H locs → W p l e ({ frames := 13, cells := 453666, slots := 7741250, locals := 506 } : Room) s m args below meth c H locs (2000 + 6000 * i + 1000) (20000 + 300000 * i + 110000) Q (F0 m 385 ls []) := by
        intro f3 hist3 sv3 lr3 ld3 L3 Wo H locs ls hJ3 hR hl hP hD hS
        have hI3 := (uo_W_len hR).2
        have hh3 := uo_W_hist hR
        refine lv_aload_n hx hb dL_law_385 rfl (lv_at hl 3 rfl) ?_
        refine lv_bipush (v := 12) hx hb dL_law_386 (by decide) ?_
        have hpm : (Wo : va_W).Perm (Wo ++ ([] : va_W)) := List.Perm.of_eq (List.append_nil _).symm
        have hFc := ub_freeP hD hS hA hpm
        obtain ⟨hPc, hDc⟩ := ub_subP hP hD hpm
        refine us_calli (va_runV (As := [.int 12]) (rest := []) ⟨hx, hb, hml, hown, hts⟩ (uo_account l g hR (x := 12)) (cwV 1 hts gu_RL_34 rfl rfl rfl ⟨rfl, uhX8_account⟩ ⟨Nat.le_of_ble_eq_true rfl, Nat.le_of_ble_eq_true rfl⟩) (us_preO hR hZ hS hFc hPc hDc hK hN) rfl rfl hl.1 rfl (lv_room (Nat.le_of_ble_eq_true rfl)) dL_law_388 ⟨Nat.le_trans (Nat.le_of_eq (Nat.add_zero _)) (by show (2000 + 6000 * i + 1000) ≤ 453666; omega), Nat.le_trans (Nat.le_of_eq (Nat.add_zero _)) (by show (20000 + 300000 * i + 110000) ≤ 7741250; omega)⟩) hP hD hS hA hpm (fun r Wo1 H locs hpost hP hD hS => ?_)
        have hP : va_P g.1 vwCl Wo1 H := by have h9 := hP; rw [List.append_nil] at h9; exact h9
        have hD : va_D A Wo1 := by have h9 := hD; rw [List.append_nil] at h9; exact h9
        obtain ⟨hr, hR⟩ := hpost
        have er : r = nI hist3.length := by rw [hr]; rfl
        rw [er]
        refine lv_iload hx hb dL_law_391 (lv_at hl 0 rfl) ?_
        refine lv_icmp_ne (tgt := 433) hx hb dL_law_393 (by decide) (fun cc => absurd rfl cc) (fun _ => ?_)
        refine lv_aload_n hx hb dL_law_396 rfl (lv_at hl 3 rfl) ?_
        refine lv_bipush (v := 11) hx hb dL_law_397 (by decide) ?_
        have hpm : (Wo1 : va_W).Perm (Wo1 ++ ([] : va_W)) := List.Perm.of_eq (List.append_nil _).symm
        have hFc := ub_freeP hD hS hA hpm
        obtain ⟨hPc, hDc⟩ := ub_subP hP hD hpm
        refine us_calli (va_runV (As := [.int 11]) (rest := []) ⟨hx, hb, hml, hown, hts⟩ (uo_account l g hR (x := 11)) (cwV 1 hts gu_RL_34 rfl rfl rfl ⟨rfl, uhX8_account⟩ ⟨Nat.le_of_ble_eq_true rfl, Nat.le_of_ble_eq_true rfl⟩) (us_preO hR hZ hS hFc hPc hDc hK hN) rfl rfl hl.1 rfl (lv_room (Nat.le_of_ble_eq_true rfl)) dL_law_399 ⟨Nat.le_trans (Nat.le_of_eq (Nat.add_zero _)) (by show (2000 + 6000 * i + 1000) ≤ 453666; omega), Nat.le_trans (Nat.le_of_eq (Nat.add_zero _)) (by show (20000 + 300000 * i + 110000) ≤ 7741250; omega)⟩) hP hD hS hA hpm (fun r Wo2 H locs hpost hP hD hS => ?_)
        have hP : va_P g.1 vwCl Wo2 H := by have h9 := hP; rw [List.append_nil] at h9; exact h9
        have hD : va_D A Wo2 := by have h9 := hD; rw [List.append_nil] at h9; exact h9
        obtain ⟨hr, hR⟩ := hpost
        have er : r = 0 := by rw [hr]; rfl
        rw [er]
        refine lv_if_ne (tgt := 433) hx hb dL_law_402 (by decide) (fun cc => absurd rfl cc) (fun _ => ?_)
        refine lv_aload_n hx hb dL_law_405 rfl (lv_at hl 3 rfl) ?_
        have hpm : List.Perm (Wo2 : va_W) (Wo2 ++ ([] : va_W)) := List.Perm.of_eq (List.append_nil _).symm
        have hFc := ub_freeP hD hS hA hpm
        obtain ⟨hPc, hDc⟩ := ub_subP hP hD hpm
        refine us_calli (va_runS (As := [.ref h0]) (rest := []) ⟨hx, hb, hml, hown, hts⟩ (ul_pulls l g hR hJ3) (va_cwS 1 hts gu_RL_212 rfl rfl rfl us_hL_pulls ⟨Nat.le_of_ble_eq_true rfl, Nat.le_of_ble_eq_true rfl⟩) (us_preS hZ hS hFc hPc hDc hK hN) rfl rfl hl.1 rfl (lv_room (Nat.le_of_ble_eq_true rfl)) dL_law_406 ⟨by show (2000 + 6000 * i + 1000) + 2 ≤ 453666; omega, by show (20000 + 300000 * i + 110000) + 36 ≤ 7741250; omega⟩) hP hD hS hA hpm (fun r Wo3 H locs hpost hP hD hS => ?_)
        obtain ⟨e9, hR⟩ := hpost
        have hP : va_P g.1 vwCl Wo3 H := by have h9 := hP; rw [List.append_nil] at h9; exact h9
        have hD : va_D A Wo3 := by have h9 := hD; rw [List.append_nil] at h9; exact h9
        rw [e9]
        refine W.widen (k := (2000 + 6000 * i + 1000) + 2) (n := (20000 + 300000 * i + 110000) + 36) (by omega) (by omega) ?_
        refine lv_if_eq (tgt := 433) hx hb dL_law_409 (by decide) (fun cc => absurd cc (show ¬ (1 : Int32) = 0 by decide)) (fun _ => ?_)
        refine lv_aload_n hx hb dL_law_412 rfl (lv_at hl 3 rfl) ?_
        have hpm : List.Perm (Wo3 : va_W) (Wo3 ++ ([] : va_W)) := List.Perm.of_eq (List.append_nil _).symm
        have hFc := ub_freeP hD hS hA hpm
        obtain ⟨hPc, hDc⟩ := ub_subP hP hD hpm
        refine us_calli (va_runS (As := [.ref h0]) (rest := []) ⟨hx, hb, hml, hown, hts⟩ (ul_ropes l g hR hJ3 (by omega)) (va_cwS 1 hts gu_RL_216 rfl rfl rfl us_hL_ropes ⟨Nat.le_of_ble_eq_true rfl, Nat.le_of_ble_eq_true rfl⟩) (us_preS hZ hS hFc hPc hDc hK hN) rfl rfl hl.1 rfl (lv_room (Nat.le_of_ble_eq_true rfl)) dL_law_413 ⟨by show ((2000 + 6000 * i + 1000) + 2) + 3100 ≤ 453666; omega, by show ((20000 + 300000 * i + 110000) + 36) + 35000 ≤ 7741250; omega⟩) hP hD hS hA hpm (fun r Wo4 H locs hpost hP hD hS => ?_)
        obtain ⟨e9, L4, hR⟩ := hpost
        have hP : va_P g.1 vwCl Wo4 H := by have h9 := hP; rw [List.append_nil] at h9; exact h9
        have hD : va_D A Wo4 := by have h9 := hD; rw [List.append_nil] at h9; exact h9
        rw [e9]
        refine W.widen (k := ((2000 + 6000 * i + 1000) + 2) + 3100) (n := ((20000 + 300000 * i + 110000) + 36) + 35000) (by omega) (by omega) ?_
        refine lv_if_eq (tgt := 433) hx hb dL_law_416 (by decide) (fun cc => absurd cc (show ¬ (1 : Int32) = 0 by decide)) (fun _ => ?_)
        refine lv_aload_n hx hb dL_law_419 rfl (lv_at hl 3 rfl) ?_
        have hpm : List.Perm (Wo4 : va_W) (Wo4 ++ ([] : va_W)) := List.Perm.of_eq (List.append_nil _).symm
        have hFc := ub_freeP hD hS hA hpm
        obtain ⟨hPc, hDc⟩ := ub_subP hP hD hpm
        refine us_calli (va_runS (As := [.ref h0]) (rest := []) ⟨hx, hb, hml, hown, hts⟩ (ul_parishes l g hR hJ3) (va_cwS 1 hts gu_RL_219 rfl rfl rfl us_hL_parishes ⟨Nat.le_of_ble_eq_true rfl, Nat.le_of_ble_eq_true rfl⟩) (us_preS hZ hS hFc hPc hDc hK hN) rfl rfl hl.1 rfl (lv_room (Nat.le_of_ble_eq_true rfl)) dL_law_420 ⟨by show (((2000 + 6000 * i + 1000) + 2) + 3100) + 100 ≤ 453666; omega, by show (((20000 + 300000 * i + 110000) + 36) + 35000) + 2000 ≤ 7741250; omega⟩) hP hD hS hA hpm (fun r Wo5 H locs hpost hP hD hS => ?_)
        obtain ⟨e9, L5, hR⟩ := hpost
        have hP : va_P g.1 vwCl Wo5 H := by have h9 := hP; rw [List.append_nil] at h9; exact h9
        have hD : va_D A Wo5 := by have h9 := hD; rw [List.append_nil] at h9; exact h9
        rw [e9]
        refine W.widen (k := (((2000 + 6000 * i + 1000) + 2) + 3100) + 100) (n := (((20000 + 300000 * i + 110000) + 36) + 35000) + 2000) (by omega) (by omega) ?_
        refine lv_if_eq (tgt := 433) hx hb dL_law_423 (by decide) (fun cc => absurd cc (show ¬ (1 : Int32) = 0 by decide)) (fun _ => ?_)
        refine lv_aload_n hx hb dL_law_426 rfl (lv_at hl 3 rfl) ?_
        have hpm : List.Perm (Wo5 : va_W) (Wo5 ++ ([] : va_W)) := List.Perm.of_eq (List.append_nil _).symm
        have hFc := ub_freeP hD hS hA hpm
        obtain ⟨hPc, hDc⟩ := ub_subP hP hD hpm
        refine us_calli (va_runS (As := [.ref h0]) (rest := []) ⟨hx, hb, hml, hown, hts⟩ (ul_answers l g hR hJ3) (va_cwS 1 hts gu_RL_222 rfl rfl rfl us_hL_answers ⟨Nat.le_of_ble_eq_true rfl, Nat.le_of_ble_eq_true rfl⟩) (us_preS hZ hS hFc hPc hDc hK hN) rfl rfl hl.1 rfl (lv_room (Nat.le_of_ble_eq_true rfl)) dL_law_427 ⟨by show ((((2000 + 6000 * i + 1000) + 2) + 3100) + 100) + 0 ≤ 453666; omega, by show ((((20000 + 300000 * i + 110000) + 36) + 35000) + 2000) + 0 ≤ 7741250; omega⟩) hP hD hS hA hpm (fun r Wo6 H locs hpost hP hD hS => ?_)
        obtain ⟨e9, hR⟩ := hpost
        have hP : va_P g.1 vwCl Wo6 H := by have h9 := hP; rw [List.append_nil] at h9; exact h9
        have hD : va_D A Wo6 := by have h9 := hD; rw [List.append_nil] at h9; exact h9
        rw [e9]
        refine W.widen (k := ((((2000 + 6000 * i + 1000) + 2) + 3100) + 100) + 0) (n := ((((20000 + 300000 * i + 110000) + 36) + 35000) + 2000) + 0) (by omega) (by omega) ?_
        refine lv_if_ne (tgt := 435) hx hb dL_law_430 (by decide) (fun _ => ?_) (fun cc => absurd cc (show ¬ (1 : Int32) = 0 by decide))
        refine lv_iload hx hb dL_law_435 (lv_at hl 1 rfl) ?_
        refine lv_iconst (v := 3) hx hb dL_law_437 (by decide) ?_
        refine lv_irem hx hb dL_law_438 (by decide) ?_
        refine lv_iconst (v := 2) hx hb dL_law_439 (by decide) ?_
        by_cases hm3 : nI i - nI i / 3 * 3 = 2
        · refine lv_icmp_ne (tgt := 479) hx hb dL_law_440 (by decide) (fun cc => absurd hm3 cc) (fun _ => ?_)
          refine lv_aload_n hx hb dL_law_443 rfl (lv_at hl 3 rfl) ?_
          have hpm : List.Perm (Wo6 : va_W) (Wo6 ++ ([] : va_W)) := List.Perm.of_eq (List.append_nil _).symm
          have hFc := ub_freeP hD hS hA hpm
          obtain ⟨hPc, hDc⟩ := ub_subP hP hD hpm
          refine us_callr (va_runS (As := [.ref h0]) (rest := []) ⟨hx, hb, hml, hown, hts⟩ (ul_told l g hR (us_told_ao (uo_W_len hR).2 hJ3) (fun r hr => ut_tell_len (uo_W_len hR).2 hr)) (va_cwS 1 hts gu_RL_204 rfl rfl rfl us_hL_told ⟨Nat.le_of_ble_eq_true rfl, Nat.le_of_ble_eq_true rfl⟩) (us_preS hZ hS hFc hPc hDc hK hN) rfl rfl hl.1 rfl (lv_room (Nat.le_of_ble_eq_true rfl)) dL_law_444 ⟨by show (((((2000 + 6000 * i + 1000) + 2) + 3100) + 100) + 0) + 182 ≤ 453666; omega, by show (((((20000 + 300000 * i + 110000) + 36) + 35000) + 2000) + 0) + 26000 ≤ 7741250; omega⟩) hP hD hS hA hpm (fun r6 u H locs hpost hP hD hS => ?_)
          obtain ⟨Wo7, v6, a6, L9, rfl, hR, hT6⟩ := hpost
          have hP : va_P g.1 vwCl ([(r6, .inr (0, [.ref v6, .int 0, .int 0, .int 0])), (v6, .inl (g.2.2.2.1, ((us_told f3 hist3.length).length), .inl a6))] ++ Wo7) H := by have h9 := hP; rw [List.append_nil] at h9; exact h9
          have hD : va_D A ([(r6, .inr (0, [.ref v6, .int 0, .int 0, .int 0])), (v6, .inl (g.2.2.2.1, ((us_told f3 hist3.length).length), .inl a6))] ++ Wo7) := by have h9 := hD; rw [List.append_nil] at h9; exact h9
          refine W.widen (k := (((((2000 + 6000 * i + 1000) + 2) + 3100) + 100) + 0) + 182) (n := (((((20000 + 300000 * i + 110000) + 36) + 35000) + 2000) + 0) + 26000) (by omega) (by omega) ?_
          refine lv_astore (lv' := [(8, .ref r6), (7, .int (nI hist3.length)), (4, .int (nI i)), (2, .int (nI (2 * (i + 1)))), (1, .ref h0), (0, .ref b), (3, .int made)]) hx hb dL_law_447 hl (by decide) rfl (fun ls hl => ?_)
          refine lv_aload_n hx hb dL_law_449 rfl (lv_at hl 4 rfl) ?_
          have hI4 := (uo_W_len hR).2
          have hpm : List.Perm (([(r6, .inr (0, [.ref v6, .int 0, .int 0, .int 0])), (v6, .inl (g.2.2.2.1, ((us_told f3 hist3.length).length), .inl a6))] ++ Wo7) : va_W) (Wo7 ++ [(r6, .inr (0, [.ref v6, .int 0, .int 0, .int 0])), (v6, .inl (g.2.2.2.1, ((us_told f3 hist3.length).length), .inl a6))]) := List.perm_append_comm
          have hFc := ub_freeP hD hS hA hpm
          obtain ⟨hPc, hDc⟩ := ub_subP hP hD hpm
          refine us_calli (va_runS (As := [.ref h0]) (rest := []) ⟨hx, hb, hml, hown, hts⟩ (ul_foretold l g hR (by omega)) (va_cwS 1 hts gu_RL_225 rfl rfl rfl us_hL_foretold ⟨Nat.le_of_ble_eq_true rfl, Nat.le_of_ble_eq_true rfl⟩) (us_preS hZ hS hFc hPc hDc hK hN) rfl rfl hl.1 rfl (lv_room (Nat.le_of_ble_eq_true rfl)) dL_law_450 ⟨by show ((((((2000 + 6000 * i + 1000) + 2) + 3100) + 100) + 0) + 182) + 530 ≤ 453666; omega, by show ((((((20000 + 300000 * i + 110000) + 36) + 35000) + 2000) + 0) + 26000) + 7400 ≤ 7741250; omega⟩) hP hD hS hA hpm (fun r Wo8 H locs hpost hP hD hS => ?_)
          obtain ⟨e9, lr4, ld4, L6, hR⟩ := hpost
          have hP : va_P g.1 vwCl ([(r6, .inr (0, [.ref v6, .int 0, .int 0, .int 0])), (v6, .inl (g.2.2.2.1, ((us_told f3 hist3.length).length), .inl a6))] ++ Wo8) H := ub_P_perm List.perm_append_comm hP
          have hD : va_D A ([(r6, .inr (0, [.ref v6, .int 0, .int 0, .int 0])), (v6, .inl (g.2.2.2.1, ((us_told f3 hist3.length).length), .inl a6))] ++ Wo8) := ub_D_perm List.perm_append_comm hD
          rw [e9]
          refine W.widen (k := ((((((2000 + 6000 * i + 1000) + 2) + 3100) + 100) + 0) + 182) + 530) (n := ((((((20000 + 300000 * i + 110000) + 36) + 35000) + 2000) + 0) + 26000) + 7400) (by omega) (by omega) ?_
          refine lv_if_eq (tgt := 477) hx hb dL_law_453 (by decide) (fun cc => absurd cc (show ¬ (1 : Int32) = 0 by decide)) (fun _ => ?_)
          refine lv_aload hx hb dL_law_456 (lv_at hl 0 rfl) ?_
          refine lv_aload_n hx hb dL_law_458 rfl (lv_at hl 4 rfl) ?_
          have hpm : List.Perm (([(r6, .inr (0, [.ref v6, .int 0, .int 0, .int 0])), (v6, .inl (g.2.2.2.1, ((us_told f3 hist3.length).length), .inl a6))] ++ Wo8) : va_W) (Wo8 ++ [(r6, .inr (0, [.ref v6, .int 0, .int 0, .int 0])), (v6, .inl (g.2.2.2.1, ((us_told f3 hist3.length).length), .inl a6))]) := List.perm_append_comm
          have hFc := ub_freeP hD hS hA hpm
          obtain ⟨hPc, hDc⟩ := ub_subP hP hD hpm
          refine us_callr (va_runS (As := [.ref h0]) (rest := [.ref r6]) ⟨hx, hb, hml, hown, hts⟩ (ul_told l g hR (us_told_ao (uo_W_len hR).2 hJ3) (fun r hr => ut_tell_len (uo_W_len hR).2 hr)) (va_cwS 1 hts gu_RL_204 rfl rfl rfl us_hL_told ⟨Nat.le_of_ble_eq_true rfl, Nat.le_of_ble_eq_true rfl⟩) (us_preS hZ hS hFc hPc hDc hK hN) rfl rfl hl.1 rfl (lv_room (Nat.le_of_ble_eq_true rfl)) dL_law_459 ⟨by show (((((((2000 + 6000 * i + 1000) + 2) + 3100) + 100) + 0) + 182) + 530) + 182 ≤ 453666; omega, by show (((((((20000 + 300000 * i + 110000) + 36) + 35000) + 2000) + 0) + 26000) + 7400) + 26000 ≤ 7741250; omega⟩) hP hD hS hA hpm (fun r7 u H locs hpost hP hD hS => ?_)
          obtain ⟨Wo9, v7, a7, L9, rfl, hR, hT7⟩ := hpost
          have hP : va_P g.1 vwCl ([(r6, .inr (0, [.ref v6, .int 0, .int 0, .int 0])), (v6, .inl (g.2.2.2.1, ((us_told f3 hist3.length).length), .inl a6)), (r7, .inr (0, [.ref v7, .int 0, .int 0, .int 0])), (v7, .inl (g.2.2.2.1, ((us_told f3 ([] : List (Nat → Nat)).length).length), .inl a7))] ++ Wo9) H := ub_P_perm us_pl hP
          have hD : va_D A ([(r6, .inr (0, [.ref v6, .int 0, .int 0, .int 0])), (v6, .inl (g.2.2.2.1, ((us_told f3 hist3.length).length), .inl a6)), (r7, .inr (0, [.ref v7, .int 0, .int 0, .int 0])), (v7, .inl (g.2.2.2.1, ((us_told f3 ([] : List (Nat → Nat)).length).length), .inl a7))] ++ Wo9) := ub_D_perm us_pl hD
          refine W.widen (k := (((((((2000 + 6000 * i + 1000) + 2) + 3100) + 100) + 0) + 182) + 530) + 182) (n := (((((((20000 + 300000 * i + 110000) + 36) + 35000) + 2000) + 0) + 26000) + 7400) + 26000) (by omega) (by omega) ?_
          have etn : us_told f3 ([] : List (Nat → Nat)).length = us_told f3 hist3.length := us_told_n
          rw [etn] at hT7 hP hD
          have hlen := us_told_len (n := hist3.length) hI4
          have hpm : List.Perm (([(r6, .inr (0, [.ref v6, .int 0, .int 0, .int 0])), (v6, .inl (g.2.2.2.1, ((us_told f3 hist3.length).length), .inl a6)), (r7, .inr (0, [.ref v7, .int 0, .int 0, .int 0])), (v7, .inl (g.2.2.2.1, ((us_told f3 hist3.length).length), .inl a7))] ++ Wo9) : va_W) ([(r6, .inr (0, [.ref v6, .int 0, .int 0, .int 0])), (v6, .inl (g.2.2.2.1, ((us_told f3 hist3.length).length), .inl a6)), (r7, .inr (0, [.ref v7, .int 0, .int 0, .int 0])), (v7, .inl (g.2.2.2.1, ((us_told f3 hist3.length).length), .inl a7))] ++ ([] ++ Wo9)) := uo_P0 (ub_permN (ws := [(r6, .inr (0, [.ref v6, .int 0, .int 0, .int 0])), (v6, .inl (g.2.2.2.1, ((us_told f3 hist3.length).length), .inl a6)), (r7, .inr (0, [.ref v7, .int 0, .int 0, .int 0])), (v7, .inl (g.2.2.2.1, ((us_told f3 hist3.length).length), .inl a7))]) (ws' := [(r6, .inr (0, [.ref v6, .int 0, .int 0, .int 0])), (v6, .inl (g.2.2.2.1, ((us_told f3 hist3.length).length), .inl a6)), (r7, .inr (0, [.ref v7, .int 0, .int 0, .int 0])), (v7, .inl (g.2.2.2.1, ((us_told f3 hist3.length).length), .inl a7))] ++ []) 4 rfl [0, 1, 2, 3] (by decide) rfl)
          have hFc := ub_freeP hD hS hA hpm
          obtain ⟨hPc, hDc⟩ := ub_subP hP hD hpm
          refine us_calli (va_runV (As := [.ref r7]) (rest := []) ⟨hx, hb, hml, hown, hts⟩ (uj_equals l g (n := (us_told f3 hist3.length).length) (by omega) (fun y hy => (hT6.2 y hy).trans (hT7.2 y hy).symm)) (cwV 1 hts gu_RL_132 rfl rfl rfl ⟨rfl, us_hJ0_equals_9ea2d⟩ ⟨Nat.le_of_ble_eq_true rfl, Nat.le_of_ble_eq_true rfl⟩) (us_preV hZ hS hFc hPc hDc hK hN 0 (ci := 0) rfl rfl rfl) rfl rfl hl.1 rfl (lv_room (Nat.le_of_ble_eq_true rfl)) dL_law_462 ⟨Nat.le_trans (Nat.le_of_eq (Nat.add_zero _)) (by show ((((((((2000 + 6000 * i + 1000) + 2) + 3100) + 100) + 0) + 182) + 530) + 182) ≤ 453666; omega), Nat.le_trans (Nat.le_of_eq (Nat.add_zero _)) (by show ((((((((20000 + 300000 * i + 110000) + 36) + 35000) + 2000) + 0) + 26000) + 7400) + 26000) ≤ 7741250; omega)⟩) hP hD hS hA hpm (fun r u H locs hpost hP hD hS => ?_)
          obtain ⟨rfl, rfl⟩ := hpost
          have hP : va_P g.1 vwCl ([(r6, .inr (0, [.ref v6, .int 0, .int 0, .int 0])), (v6, .inl (g.2.2.2.1, ((us_told f3 hist3.length).length), .inl a6)), (r7, .inr (0, [.ref v7, .int 0, .int 0, .int 0])), (v7, .inl (g.2.2.2.1, ((us_told f3 hist3.length).length), .inl a7))] ++ Wo9) H := hP
          have hD : va_D A ([(r6, .inr (0, [.ref v6, .int 0, .int 0, .int 0])), (v6, .inl (g.2.2.2.1, ((us_told f3 hist3.length).length), .inl a6)), (r7, .inr (0, [.ref v7, .int 0, .int 0, .int 0])), (v7, .inl (g.2.2.2.1, ((us_told f3 hist3.length).length), .inl a7))] ++ Wo9) := hD
          refine lv_if_eq (tgt := 477) hx hb dL_law_465 (by decide) (fun cc => absurd cc (show ¬ (1 : Int32) = 0 by decide)) (fun _ => ?_)
          refine lv_aload_n hx hb dL_law_468 rfl (lv_at hl 4 rfl) ?_
          refine lv_bipush (v := 12) hx hb dL_law_469 (by decide) ?_
          have hpm : List.Perm (([(r6, .inr (0, [.ref v6, .int 0, .int 0, .int 0])), (v6, .inl (g.2.2.2.1, ((us_told f3 hist3.length).length), .inl a6)), (r7, .inr (0, [.ref v7, .int 0, .int 0, .int 0])), (v7, .inl (g.2.2.2.1, ((us_told f3 hist3.length).length), .inl a7))] ++ Wo9) : va_W) (Wo9 ++ [(r6, .inr (0, [.ref v6, .int 0, .int 0, .int 0])), (v6, .inl (g.2.2.2.1, ((us_told f3 hist3.length).length), .inl a6)), (r7, .inr (0, [.ref v7, .int 0, .int 0, .int 0])), (v7, .inl (g.2.2.2.1, ((us_told f3 hist3.length).length), .inl a7))]) := List.perm_append_comm
          have hFc := ub_freeP hD hS hA hpm
          obtain ⟨hPc, hDc⟩ := ub_subP hP hD hpm
          refine us_calli (va_runV (As := [.int 12]) (rest := []) ⟨hx, hb, hml, hown, hts⟩ (uo_account l g hR (x := 12)) (cwV 1 hts gu_RL_34 rfl rfl rfl ⟨rfl, uhX8_account⟩ ⟨Nat.le_of_ble_eq_true rfl, Nat.le_of_ble_eq_true rfl⟩) (us_preO hR hZ hS hFc hPc hDc hK hN) rfl rfl hl.1 rfl (lv_room (Nat.le_of_ble_eq_true rfl)) dL_law_471 ⟨Nat.le_trans (Nat.le_of_eq (Nat.add_zero _)) (by show ((((((((2000 + 6000 * i + 1000) + 2) + 3100) + 100) + 0) + 182) + 530) + 182) ≤ 453666; omega), Nat.le_trans (Nat.le_of_eq (Nat.add_zero _)) (by show ((((((((20000 + 300000 * i + 110000) + 36) + 35000) + 2000) + 0) + 26000) + 7400) + 26000) ≤ 7741250; omega)⟩) hP hD hS hA hpm (fun r Wo10 H locs hpost hP hD hS => ?_)
          have hP : va_P g.1 vwCl ([(r6, .inr (0, [.ref v6, .int 0, .int 0, .int 0])), (v6, .inl (g.2.2.2.1, ((us_told f3 hist3.length).length), .inl a6)), (r7, .inr (0, [.ref v7, .int 0, .int 0, .int 0])), (v7, .inl (g.2.2.2.1, ((us_told f3 hist3.length).length), .inl a7))] ++ Wo10) H := ub_P_perm List.perm_append_comm hP
          have hD : va_D A ([(r6, .inr (0, [.ref v6, .int 0, .int 0, .int 0])), (v6, .inl (g.2.2.2.1, ((us_told f3 hist3.length).length), .inl a6)), (r7, .inr (0, [.ref v7, .int 0, .int 0, .int 0])), (v7, .inl (g.2.2.2.1, ((us_told f3 hist3.length).length), .inl a7))] ++ Wo10) := ub_D_perm List.perm_append_comm hD
          obtain ⟨hr, hR⟩ := hpost
          have er : r = 0 := by rw [hr]; rfl
          rw [er]
          refine lv_if_eq (tgt := 479) hx hb dL_law_474 (by decide) (fun _ => ?_) (fun cc => absurd rfl cc)
          have hP : va_P g.1 vwCl Wo10 H := us_dropP hP
          have hD : va_D A Wo10 := us_dropD hD
          refine W.widen (k := 2000 + 6000 * i + 5800) (n := 20000 + 300000 * i + 290000) (by omega) (by omega) ?_
          exact J479 f3 [] (some f3) lr4 ld4 _ Wo10 _ _ ls hJ3 (uo_W_mono (by omega) (by omega) hR) (lv_sub hl [2, 3, 4, 5, 6] rfl) hP hD hS
        · refine lv_icmp_ne (tgt := 479) hx hb dL_law_440 (by decide) (fun _ => ?_) (fun cc => absurd cc hm3)
          refine W.widen (k := 2000 + 6000 * i + 5800) (n := 20000 + 300000 * i + 290000) (by omega) (by omega) ?_
          exact J479 f3 hist3 sv3 lr3 ld3 _ Wo6 _ _ ls hJ3 (uo_W_mono (by omega) (by omega) hR) (lv_sub hl [1, 2, 3, 4, 5] rfl) hP hD hS
      refine lv_iload hx hb dL_law_235 (lv_at hl 0 rfl) ?_
      refine lv_bipush (v := 16) hx hb dL_law_237 (by decide) ?_
      refine lv_icmp_ge (tgt := 485) hx hb dL_law_239 (by decide) (fun cc => absurd cc (nI_ge (b := 16) (by omega) (by decide))) (fun _ => ?_)
      refine lv_aload_n hx hb dL_law_242 rfl (lv_at hl 3 rfl) ?_
      refine lv_iload_n hx hb dL_law_243 rfl (lv_at hl 1 rfl) ?_
      have hpm : List.Perm (Wo : va_W) (([] : va_W) ++ Wo) := List.Perm.refl _
      refine us_calli (va_runS (As := [.ref b, .int (nI (2 * i))]) (rest := []) ⟨hx, hb, hml, hown, hts⟩ (ul_cell l g (i := (2 * i)) hLs (by omega)) (va_cwS 2 hts gu_RL_197 rfl rfl rfl us_hL_cell ⟨Nat.le_of_ble_eq_true rfl, Nat.le_of_ble_eq_true rfl⟩) (us_preX hZ hS hA hK hN hX hbl hbA) rfl rfl hl.1 rfl (lv_room (Nat.le_of_ble_eq_true rfl)) dL_law_244 ⟨Nat.le_trans (Nat.le_of_eq (Nat.add_zero _)) (by show (2000 + 6000 * i) ≤ 453666; omega), Nat.le_trans (Nat.le_of_eq (Nat.add_zero _)) (by show (20000 + 300000 * i) ≤ 7741250; omega)⟩) hP hD hS hA hpm (fun r u H locs hpost hP hD hS => ?_)
      obtain rfl := hpost
      have hP : va_P g.1 vwCl Wo H := hP
      have hD : va_D A Wo := hD
      refine lv_sipush (v := 255) hx hb dL_law_247 (by decide) ?_
      refine lv_iand hx hb dL_law_250 ?_
      refine us_top_any (fun y => ?_)
      refine lv_istore (lv' := [(5, .int y), (4, .int (nI i)), (2, .int (nI (2 * i))), (1, .ref h0), (0, .ref b), (3, .int made)]) hx hb dL_law_251 hl (by decide) rfl (fun ls hl => ?_)
      refine va_new (ci := 11) (fs := [.int 0]) (C := RX9) (T := TX9) (N := 1) hx hb hts us_inX9 tyX9 tyX9_ok hown (hts _ us_m777) (hts _ us_m778) (hts _ us_m56) hK hP hD hS hA rfl (fun j hj => by rcases (show j = 0 by omega) with rfl; rfl) (by show (2000 + 6000 * i) + 1 ≤ 453666; omega) (by show (20000 + 300000 * i) + 1 ≤ 7741250; omega) dL_law_253 (fun b0 H hP hD hS => ?_)
      have hP : va_P g.1 vwCl ([(b0, .inr (11, [.int 0]))] ++ Wo) H := ub_P_perm List.perm_append_comm hP
      have hD : va_D A ([(b0, .inr (11, [.int 0]))] ++ Wo) := ub_D_perm List.perm_append_comm hD
      refine lv_dup hx hb dL_law_256 rfl ?_
      refine lv_aload_n hx hb dL_law_257 rfl (lv_at hl 4 rfl) ?_
      refine lv_iload_n hx hb dL_law_258 rfl (lv_at hl 2 rfl) ?_
      refine lv_iconst (v := 1) hx hb dL_law_259 (by decide) ?_
      refine lv_iadd hx hb dL_law_260 ?_
      refine us_topi (x := nI (2 * i + 1)) (nI_1 _) ?_
      have hpm : List.Perm (([(b0, .inr (11, [.int 0]))] ++ Wo) : va_W) (([] : va_W) ++ ([(b0, .inr (11, [.int 0]))] ++ Wo)) := List.Perm.refl _
      refine us_calli (va_runS (As := [.ref b, .int (nI (2 * i + 1))]) (rest := [.ref b0, .ref b0]) ⟨hx, hb, hml, hown, hts⟩ (ul_cell l g (i := (2 * i + 1)) hLs (by omega)) (va_cwS 2 hts gu_RL_197 rfl rfl rfl us_hL_cell ⟨Nat.le_of_ble_eq_true rfl, Nat.le_of_ble_eq_true rfl⟩) (us_preX hZ hS hA hK hN hX hbl hbA) rfl rfl hl.1 rfl (lv_room (Nat.le_of_ble_eq_true rfl)) dL_law_261 ⟨Nat.le_trans (Nat.le_of_eq (Nat.add_zero _)) (by show ((2000 + 6000 * i) + 1) ≤ 453666; omega), Nat.le_trans (Nat.le_of_eq (Nat.add_zero _)) (by show ((20000 + 300000 * i) + 1) ≤ 7741250; omega)⟩) hP hD hS hA hpm (fun r u H locs hpost hP hD hS => ?_)
      obtain rfl := hpost
      have hP : va_P g.1 vwCl ([(b0, .inr (11, [.int 0]))] ++ Wo) H := hP
      have hD : va_D A ([(b0, .inr (11, [.int 0]))] ++ Wo) := hD
      have hpm : List.Perm (([(b0, .inr (11, [.int 0]))] ++ Wo) : va_W) ([(b0, .inr (11, [.int 0]))] ++ Wo) := List.Perm.refl _
      have hFc := ub_freeP hD hS hA hpm
      obtain ⟨hPc, hDc⟩ := ub_subP hP hD hpm
      refine us_callv (va_runI (As := [.int r]) (rest := [.ref b0]) ⟨hx, hb, hml, hown, hts⟩ (ul_bitsInit l g) (cwI 1 hts gu_init_X9_init rfl rfl rfl (hts _ us_m56) (hts _ us_m779) (hts _ us_m780) rfl us_hX9_init ⟨Nat.le_of_ble_eq_true rfl, Nat.le_of_ble_eq_true rfl⟩) (us_preS hZ hS hFc hPc hDc hK hN) rfl rfl hl.1 rfl (lv_room (Nat.le_of_ble_eq_true rfl)) dL_law_264 ⟨by show ((2000 + 6000 * i) + 1) + 0 ≤ 453666; omega, by show ((20000 + 300000 * i) + 1) + 0 ≤ 7741250; omega⟩) hP hD hS hA hpm (fun u H locs hpost hP hD hS => ?_)
      obtain rfl := hpost
      generalize r = x0 at *
      have hP : va_P g.1 vwCl ([(b0, .inr (11, [.int x0]))] ++ Wo) H := hP
      have hD : va_D A ([(b0, .inr (11, [.int x0]))] ++ Wo) := hD
      refine lv_astore (lv' := [(6, .ref b0), (5, .int y), (4, .int (nI i)), (2, .int (nI (2 * i))), (1, .ref h0), (0, .ref b), (3, .int made)]) hx hb dL_law_267 hl (by decide) rfl (fun ls hl => ?_)
      refine lv_iinc (v := nI (2 * i) + 2) (lv' := [(2, .int (nI (2 * i) + 2)), (6, .ref b0), (5, .int y), (4, .int (nI i)), (1, .ref h0), (0, .ref b), (3, .int made)]) hx hb dL_law_269 hl (k := 3) rfl rfl (by decide) rfl (fun ls hl => ?_)
      rw [show nI (2 * i) + 2 = nI (2 * (i + 1)) from nI_add (2 * i) 2] at hl
      refine lv_aload_n hx hb dL_law_272 rfl (lv_at hl 4 rfl) ?_
      refine lv_bipush (v := 12) hx hb dL_law_273 (by decide) ?_
      have hpm : List.Perm (([(b0, .inr (11, [.int x0]))] ++ Wo) : va_W) (Wo ++ [(b0, .inr (11, [.int x0]))]) := List.perm_append_comm
      have hFc := ub_freeP hD hS hA hpm
      obtain ⟨hPc, hDc⟩ := ub_subP hP hD hpm
      refine us_calli (va_runV (As := [.int 12]) (rest := []) ⟨hx, hb, hml, hown, hts⟩ (uo_account l g hR (x := 12)) (cwV 1 hts gu_RL_34 rfl rfl rfl ⟨rfl, uhX8_account⟩ ⟨Nat.le_of_ble_eq_true rfl, Nat.le_of_ble_eq_true rfl⟩) (us_preO hR hZ hS hFc hPc hDc hK hN) rfl rfl hl.1 rfl (lv_room (Nat.le_of_ble_eq_true rfl)) dL_law_275 ⟨Nat.le_trans (Nat.le_of_eq (Nat.add_zero _)) (by show ((2000 + 6000 * i) + 1) ≤ 453666; omega), Nat.le_trans (Nat.le_of_eq (Nat.add_zero _)) (by show ((20000 + 300000 * i) + 1) ≤ 7741250; omega)⟩) hP hD hS hA hpm (fun r Wo11 H locs hpost hP hD hS => ?_)
      have hP : va_P g.1 vwCl ([(b0, .inr (11, [.int x0]))] ++ Wo11) H := ub_P_perm List.perm_append_comm hP
      have hD : va_D A ([(b0, .inr (11, [.int x0]))] ++ Wo11) := ub_D_perm List.perm_append_comm hD
      obtain ⟨hr, hR⟩ := hpost
      have er : r = nI hist.length := by rw [hr]; rfl
      rw [er]
      refine lv_istore (lv' := [(7, .int (nI hist.length)), (2, .int (nI (2 * (i + 1)))), (6, .ref b0), (5, .int y), (4, .int (nI i)), (1, .ref h0), (0, .ref b), (3, .int made)]) hx hb dL_law_278 hl (by decide) rfl (fun ls hl => ?_)
      refine lv_aload_n hx hb dL_law_280 rfl (lv_at hl 5 rfl) ?_
      have hpm : List.Perm (([(b0, .inr (11, [.int x0]))] ++ Wo11) : va_W) (Wo11 ++ [(b0, .inr (11, [.int x0]))]) := List.perm_append_comm
      have hFc := ub_freeP hD hS hA hpm
      obtain ⟨hPc, hDc⟩ := ub_subP hP hD hpm
      refine us_callr (va_runS (As := [.ref h0]) (rest := []) ⟨hx, hb, hml, hown, hts⟩ (ul_told l g hR (us_told_ao (uo_W_len hR).2 hJ) (fun r hr => ut_tell_len (uo_W_len hR).2 hr)) (va_cwS 1 hts gu_RL_204 rfl rfl rfl us_hL_told ⟨Nat.le_of_ble_eq_true rfl, Nat.le_of_ble_eq_true rfl⟩) (us_preS hZ hS hFc hPc hDc hK hN) rfl rfl hl.1 rfl (lv_room (Nat.le_of_ble_eq_true rfl)) dL_law_281 ⟨by show ((2000 + 6000 * i) + 1) + 182 ≤ 453666; omega, by show ((20000 + 300000 * i) + 1) + 26000 ≤ 7741250; omega⟩) hP hD hS hA hpm (fun r8 u H locs hpost hP hD hS => ?_)
      obtain ⟨Wo12, v8, a8, L9, rfl, hR, hT8⟩ := hpost
      have hP : va_P g.1 vwCl ([(b0, .inr (11, [.int x0])), (r8, .inr (0, [.ref v8, .int 0, .int 0, .int 0])), (v8, .inl (g.2.2.2.1, ((us_told f hist.length).length), .inl a8))] ++ Wo12) H := ub_P_perm us_pl hP
      have hD : va_D A ([(b0, .inr (11, [.int x0])), (r8, .inr (0, [.ref v8, .int 0, .int 0, .int 0])), (v8, .inl (g.2.2.2.1, ((us_told f hist.length).length), .inl a8))] ++ Wo12) := ub_D_perm us_pl hD
      refine W.widen (k := ((2000 + 6000 * i) + 1) + 182) (n := ((20000 + 300000 * i) + 1) + 26000) (by omega) (by omega) ?_
      refine lv_astore (lv' := [(8, .ref r8), (7, .int (nI hist.length)), (2, .int (nI (2 * (i + 1)))), (6, .ref b0), (5, .int y), (4, .int (nI i)), (1, .ref h0), (0, .ref b), (3, .int made)]) hx hb dL_law_284 hl (by decide) rfl (fun ls hl => ?_)
      refine lv_aload_n hx hb dL_law_286 rfl (lv_at hl 6 rfl) ?_
      refine lv_iload hx hb dL_law_287 (lv_at hl 4 rfl) ?_
      refine lv_aload hx hb dL_law_289 (lv_at hl 3 rfl) ?_
      have hlen := us_told_len (n := hist.length) hI
      have hpm : List.Perm (([(b0, .inr (11, [.int x0])), (r8, .inr (0, [.ref v8, .int 0, .int 0, .int 0])), (v8, .inl (g.2.2.2.1, ((us_told f hist.length).length), .inl a8))] ++ Wo12) : va_W) (([(b0, .inr (11, [.int x0]))] ++ Wo12) ++ [(r8, .inr (0, [.ref v8, .int 0, .int 0, .int 0])), (v8, .inl (g.2.2.2.1, ((us_told f hist.length).length), .inl a8))]) := List.Perm.cons _ List.perm_append_comm
      have hFc := ub_freeP hD hS hA hpm
      obtain ⟨hPc, hDc⟩ := ub_subP hP hD hpm
      refine us_calli (va_runS (As := [.ref h0, .int y, .ref b0]) (rest := []) ⟨hx, hb, hml, hown, hts⟩ (ul_acts l g (b0 := b0) (x := x0) (y := y) hR hJ (by omega)) (va_cwS 3 hts gu_RL_208 rfl rfl rfl us_hL_acts ⟨Nat.le_of_ble_eq_true rfl, Nat.le_of_ble_eq_true rfl⟩) (us_preS hZ hS hFc hPc hDc hK hN) rfl rfl hl.1 rfl (lv_room (Nat.le_of_ble_eq_true rfl)) dL_law_291 ⟨by show (((2000 + 6000 * i) + 1) + 182) + 18 ≤ 453666; omega, by show (((20000 + 300000 * i) + 1) + 26000) + 253 ≤ 7741250; omega⟩) hP hD hS hA hpm (fun r u H locs hpost hP hD hS => ?_)
      obtain ⟨x1, Wa, f2, hist2, lr2, ld2, rfl, hR, hpo⟩ := hpost
      have hP : va_P g.1 vwCl ([(b0, .inr (11, [.int x1])), (r8, .inr (0, [.ref v8, .int 0, .int 0, .int 0])), (v8, .inl (g.2.2.2.1, ((us_told f hist.length).length), .inl a8))] ++ Wa) H := ub_P_perm (List.Perm.cons _ List.perm_append_comm) hP
      have hD : va_D A ([(b0, .inr (11, [.int x1])), (r8, .inr (0, [.ref v8, .int 0, .int 0, .int 0])), (v8, .inl (g.2.2.2.1, ((us_told f hist.length).length), .inl a8))] ++ Wa) := ub_D_perm (List.Perm.cons _ List.perm_append_comm) hD
      generalize r = is0 at *
      refine W.widen (k := (((2000 + 6000 * i) + 1) + 182) + 18) (n := (((20000 + 300000 * i) + 1) + 26000) + 253) (by omega) (by omega) ?_
      obtain ⟨hpo1, hJ2⟩ := hpo
      refine lv_istore (lv' := [(9, .int is0), (8, .ref r8), (7, .int (nI hist.length)), (2, .int (nI (2 * (i + 1)))), (6, .ref b0), (5, .int y), (4, .int (nI i)), (1, .ref h0), (0, .ref b), (3, .int made)]) hx hb dL_law_294 hl (by decide) rfl (fun ls hl => ?_)
      refine lv_iload hx hb dL_law_296 (lv_at hl 0 rfl) ?_
      refine lv_sipush (v := (-1011)) hx hb dL_law_298 (by decide) ?_
      rcases hpo1 with hpo1 | hpo1
      · obtain ⟨g1, g2, g3⟩ := hpo1
        have g2 := g2.symm
        have g3 := g3.symm
        subst g2
        subst g3
        refine lv_icmp_gt (tgt := 318) hx hb dL_law_301 (by decide) (fun cc => absurd cc (Int32.not_lt.mpr g1)) (fun _ => ?_)
        refine lv_aload hx hb dL_law_304 (lv_at hl 1 rfl) ?_
        refine lv_aload_n hx hb dL_law_306 rfl (lv_at hl 7 rfl) ?_
        have hpm : List.Perm (([(b0, .inr (11, [.int x1])), (r8, .inr (0, [.ref v8, .int 0, .int 0, .int 0])), (v8, .inl (g.2.2.2.1, ((us_told f hist.length).length), .inl a8))] ++ Wa) : va_W) (Wa ++ [(b0, .inr (11, [.int x1])), (r8, .inr (0, [.ref v8, .int 0, .int 0, .int 0])), (v8, .inl (g.2.2.2.1, ((us_told f hist.length).length), .inl a8))]) := List.perm_append_comm
        have hFc := ub_freeP hD hS hA hpm
        obtain ⟨hPc, hDc⟩ := ub_subP hP hD hpm
        refine us_callr (va_runS (As := [.ref h0]) (rest := [.ref r8]) ⟨hx, hb, hml, hown, hts⟩ (ul_told l g hR (us_told_ao (uo_W_len hR).2 hJ2) (fun r hr => ut_tell_len (uo_W_len hR).2 hr)) (va_cwS 1 hts gu_RL_204 rfl rfl rfl us_hL_told ⟨Nat.le_of_ble_eq_true rfl, Nat.le_of_ble_eq_true rfl⟩) (us_preS hZ hS hFc hPc hDc hK hN) rfl rfl hl.1 rfl (lv_room (Nat.le_of_ble_eq_true rfl)) dL_law_307 ⟨by show ((((2000 + 6000 * i) + 1) + 182) + 18) + 182 ≤ 453666; omega, by show ((((20000 + 300000 * i) + 1) + 26000) + 253) + 26000 ≤ 7741250; omega⟩) hP hD hS hA hpm (fun r9 u H locs hpost hP hD hS => ?_)
        obtain ⟨Wo13, v9, a9, L9, rfl, hR, hT9⟩ := hpost
        have hP : va_P g.1 vwCl ([(b0, .inr (11, [.int x1])), (r8, .inr (0, [.ref v8, .int 0, .int 0, .int 0])), (v8, .inl (g.2.2.2.1, ((us_told f hist.length).length), .inl a8)), (r9, .inr (0, [.ref v9, .int 0, .int 0, .int 0])), (v9, .inl (g.2.2.2.1, ((us_told f hist.length).length), .inl a9))] ++ Wo13) H := ub_P_perm us_pl hP
        have hD : va_D A ([(b0, .inr (11, [.int x1])), (r8, .inr (0, [.ref v8, .int 0, .int 0, .int 0])), (v8, .inl (g.2.2.2.1, ((us_told f hist.length).length), .inl a8)), (r9, .inr (0, [.ref v9, .int 0, .int 0, .int 0])), (v9, .inl (g.2.2.2.1, ((us_told f hist.length).length), .inl a9))] ++ Wo13) := ub_D_perm us_pl hD
        refine W.widen (k := ((((2000 + 6000 * i) + 1) + 182) + 18) + 182) (n := ((((20000 + 300000 * i) + 1) + 26000) + 253) + 26000) (by omega) (by omega) ?_
        have hpm : List.Perm (([(b0, .inr (11, [.int x1])), (r8, .inr (0, [.ref v8, .int 0, .int 0, .int 0])), (v8, .inl (g.2.2.2.1, ((us_told f hist.length).length), .inl a8)), (r9, .inr (0, [.ref v9, .int 0, .int 0, .int 0])), (v9, .inl (g.2.2.2.1, ((us_told f hist.length).length), .inl a9))] ++ Wo13) : va_W) ([(r8, .inr (0, [.ref v8, .int 0, .int 0, .int 0])), (v8, .inl (g.2.2.2.1, ((us_told f hist.length).length), .inl a8)), (r9, .inr (0, [.ref v9, .int 0, .int 0, .int 0])), (v9, .inl (g.2.2.2.1, ((us_told f hist.length).length), .inl a9))] ++ ([(b0, .inr (11, [.int x1]))] ++ Wo13)) := uo_P0 (ub_permN (ws := [(b0, .inr (11, [.int x1])), (r8, .inr (0, [.ref v8, .int 0, .int 0, .int 0])), (v8, .inl (g.2.2.2.1, ((us_told f hist.length).length), .inl a8)), (r9, .inr (0, [.ref v9, .int 0, .int 0, .int 0])), (v9, .inl (g.2.2.2.1, ((us_told f hist.length).length), .inl a9))]) (ws' := [(r8, .inr (0, [.ref v8, .int 0, .int 0, .int 0])), (v8, .inl (g.2.2.2.1, ((us_told f hist.length).length), .inl a8)), (r9, .inr (0, [.ref v9, .int 0, .int 0, .int 0])), (v9, .inl (g.2.2.2.1, ((us_told f hist.length).length), .inl a9))] ++ [(b0, .inr (11, [.int x1]))]) 5 rfl [1, 2, 3, 4, 0] (by decide) rfl)
        have hFc := ub_freeP hD hS hA hpm
        obtain ⟨hPc, hDc⟩ := ub_subP hP hD hpm
        refine us_calli (va_runV (As := [.ref r9]) (rest := []) ⟨hx, hb, hml, hown, hts⟩ (uj_equals l g (n := (us_told f hist.length).length) (by omega) (fun y hy => (hT8.2 y hy).trans (hT9.2 y hy).symm)) (cwV 1 hts gu_RL_132 rfl rfl rfl ⟨rfl, us_hJ0_equals_9ea2d⟩ ⟨Nat.le_of_ble_eq_true rfl, Nat.le_of_ble_eq_true rfl⟩) (us_preV hZ hS hFc hPc hDc hK hN 0 (ci := 0) rfl rfl rfl) rfl rfl hl.1 rfl (lv_room (Nat.le_of_ble_eq_true rfl)) dL_law_310 ⟨Nat.le_trans (Nat.le_of_eq (Nat.add_zero _)) (by show (((((2000 + 6000 * i) + 1) + 182) + 18) + 182) ≤ 453666; omega), Nat.le_trans (Nat.le_of_eq (Nat.add_zero _)) (by show (((((20000 + 300000 * i) + 1) + 26000) + 253) + 26000) ≤ 7741250; omega)⟩) hP hD hS hA hpm (fun r u H locs hpost hP hD hS => ?_)
        obtain ⟨rfl, rfl⟩ := hpost
        have hP : va_P g.1 vwCl ([(r8, .inr (0, [.ref v8, .int 0, .int 0, .int 0])), (v8, .inl (g.2.2.2.1, ((us_told f hist.length).length), .inl a8)), (r9, .inr (0, [.ref v9, .int 0, .int 0, .int 0])), (v9, .inl (g.2.2.2.1, ((us_told f hist.length).length), .inl a9)), (b0, .inr (11, [.int x1]))] ++ Wo13) H := hP
        have hD : va_D A ([(r8, .inr (0, [.ref v8, .int 0, .int 0, .int 0])), (v8, .inl (g.2.2.2.1, ((us_told f hist.length).length), .inl a8)), (r9, .inr (0, [.ref v9, .int 0, .int 0, .int 0])), (v9, .inl (g.2.2.2.1, ((us_told f hist.length).length), .inl a9)), (b0, .inr (11, [.int x1]))] ++ Wo13) := hD
        refine lv_if_ne (tgt := 318) hx hb dL_law_313 (by decide) (fun _ => ?_) (fun cc => absurd cc (show ¬ (1 : Int32) = 0 by decide))
        refine lv_iload hx hb dL_law_318 (lv_at hl 0 rfl) ?_
        refine lv_sipush (v := (-1011)) hx hb dL_law_320 (by decide) ?_
        refine lv_icmp_gt (tgt := 331) hx hb dL_law_323 (by decide) (fun cc => absurd cc (Int32.not_lt.mpr g1)) (fun _ => ?_)
        refine lv_iload hx hb dL_law_326 (lv_at hl 2 rfl) ?_
        refine lv_goto (tgt := 340) hx hb dL_law_328 (by decide) ?_
        refine lv_istore (lv' := [(7, .int (nI hist.length)), (9, .int is0), (8, .ref r8), (2, .int (nI (2 * (i + 1)))), (6, .ref b0), (5, .int y), (4, .int (nI i)), (1, .ref h0), (0, .ref b), (3, .int made)]) hx hb dL_law_340 hl (by decide) rfl (fun ls hl => ?_)
        refine lv_iload hx hb dL_law_342 (lv_at hl 1 rfl) ?_
        refine lv_sipush (v := (-1011)) hx hb dL_law_344 (by decide) ?_
        refine lv_icmp_le (tgt := 385) hx hb dL_law_347 (by decide) (fun _ => ?_) (fun cc => absurd g1 cc)
        have hP : va_P g.1 vwCl Wo13 H := us_dropP hP
        have hD : va_D A Wo13 := us_dropD hD
        refine W.widen (k := 2000 + 6000 * i + 1000) (n := 20000 + 300000 * i + 110000) (by omega) (by omega) ?_
        exact J385 f hist sv lr2 ld2 _ Wo13 _ _ ls hJ2 hR (lv_sub (l' := [(7, .int (nI (hist).length)), (4, .int (nI i)), (2, .int (nI (2 * (i + 1)))), (1, .ref h0), (0, .ref b), (3, .int made)]) hl [0, 6, 3, 7, 8, 9] rfl) hP hD hS
      · obtain ⟨g1, g2⟩ := hpo1
        have g1 : (-1011 : Int32) < is0 := Int32.not_le.mp g1
        refine lv_icmp_gt (tgt := 318) hx hb dL_law_301 (by decide) (fun _ => ?_) (fun cc => absurd g1 cc)
        refine lv_iload hx hb dL_law_318 (lv_at hl 0 rfl) ?_
        refine lv_sipush (v := (-1011)) hx hb dL_law_320 (by decide) ?_
        refine lv_icmp_gt (tgt := 331) hx hb dL_law_323 (by decide) (fun _ => ?_) (fun cc => absurd g1 cc)
        refine lv_bipush (v := 8) hx hb dL_law_331 (by decide) ?_
        refine lv_iload hx hb dL_law_333 (lv_at hl 2 rfl) ?_
        refine lv_iconst (v := 1) hx hb dL_law_335 (by decide) ?_
        refine lv_iadd hx hb dL_law_336 ?_
        refine us_topi (x := nI (hist.length + 1)) (nI_1 _) ?_
        refine va_mmin hx hb (hml.trans hl.1.symm) hown (hts _ us_m806) (hts _ us_m348) (hts _ us_m49) (hts _ us_m349) (Nat.le_of_ble_eq_true rfl) (Nat.le_of_ble_eq_true rfl) (by show ((((2000 + 6000 * i) + 1) + 182) + 18) ≤ 453666; omega) (by show ((((20000 + 300000 * i) + 1) + 26000) + 253) ≤ 7741250; omega) dL_law_337 ?_
        refine us_topi (x := nI (min 8 (hist.length + 1))) (us_min8 hh8) ?_
        refine lv_istore (lv' := [(7, .int (nI (min 8 (hist.length + 1)))), (9, .int is0), (8, .ref r8), (2, .int (nI (2 * (i + 1)))), (6, .ref b0), (5, .int y), (4, .int (nI i)), (1, .ref h0), (0, .ref b), (3, .int made)]) hx hb dL_law_340 hl (by decide) rfl (fun ls hl => ?_)
        refine lv_iload hx hb dL_law_342 (lv_at hl 1 rfl) ?_
        refine lv_sipush (v := (-1011)) hx hb dL_law_344 (by decide) ?_
        refine lv_icmp_le (tgt := 385) hx hb dL_law_347 (by decide) (fun cc => absurd cc (Int32.not_le.mpr g1)) (fun _ => ?_)
        have hlc : hist2.length = min 8 (hist.length + 1) := by rw [g2]; exact us_take8 hh8
        refine lv_aload hx hb dL_law_350 (lv_at hl 4 rfl) ?_
        refine lv_iconst (v := 4) hx hb dL_law_352 (by decide) ?_
        have hpm : List.Perm (([(b0, .inr (11, [.int x1])), (r8, .inr (0, [.ref v8, .int 0, .int 0, .int 0])), (v8, .inl (g.2.2.2.1, ((us_told f hist.length).length), .inl a8))] ++ Wa) : va_W) ([(b0, .inr (11, [.int x1]))] ++ ([(r8, .inr (0, [.ref v8, .int 0, .int 0, .int 0])), (v8, .inl (g.2.2.2.1, ((us_told f hist.length).length), .inl a8))] ++ Wa)) := List.Perm.refl _
        have hFc := ub_freeP hD hS hA hpm
        obtain ⟨hPc, hDc⟩ := ub_subP hP hD hpm
        refine us_calli (va_runV (As := [.int 4]) (rest := []) ⟨hx, hb, hml, hown, hts⟩ (ul_next l g (x := x1) (n := 4) (by decide)) (cwV 1 hts gu_RL_23 rfl rfl rfl ⟨rfl, us_hX9_next⟩ ⟨Nat.le_of_ble_eq_true rfl, Nat.le_of_ble_eq_true rfl⟩) (us_preV hZ hS hFc hPc hDc hK hN 0 (ci := 11) rfl rfl rfl) rfl rfl hl.1 rfl (lv_room (Nat.le_of_ble_eq_true rfl)) dL_law_353 ⟨by show ((((2000 + 6000 * i) + 1) + 182) + 18) + 0 ≤ 453666; omega, by show ((((20000 + 300000 * i) + 1) + 26000) + 253) + 0 ≤ 7741250; omega⟩) hP hD hS hA hpm (fun r u H locs hpost hP hD hS => ?_)
        obtain ⟨x3, rfl⟩ := hpost
        have hP : va_P g.1 vwCl ([(b0, .inr (11, [.int x3])), (r8, .inr (0, [.ref v8, .int 0, .int 0, .int 0])), (v8, .inl (g.2.2.2.1, ((us_told f hist.length).length), .inl a8))] ++ Wa) H := hP
        have hD : va_D A ([(b0, .inr (11, [.int x3])), (r8, .inr (0, [.ref v8, .int 0, .int 0, .int 0])), (v8, .inl (g.2.2.2.1, ((us_told f hist.length).length), .inl a8))] ++ Wa) := hD
        by_cases hn4 : r = 0
        · refine lv_if_ne (tgt := 385) hx hb dL_law_356 (by decide) (fun cc => absurd hn4 cc) (fun _ => ?_)
          refine lv_iinc (v := nI (min 8 (hist.length + 1)) + (-1)) (lv' := [(7, .int (nI (min 8 (hist.length + 1)) + (-1))), (9, .int is0), (8, .ref r8), (2, .int (nI (2 * (i + 1)))), (6, .ref b0), (5, .int y), (4, .int (nI i)), (1, .ref h0), (0, .ref b), (3, .int made)]) hx hb dL_law_359 hl (k := 0) rfl rfl (by decide) rfl (fun ls hl => ?_)
          refine lv_aload_n hx hb dL_law_362 rfl (lv_at hl 7 rfl) ?_
          have hpm : List.Perm (([(b0, .inr (11, [.int x3])), (r8, .inr (0, [.ref v8, .int 0, .int 0, .int 0])), (v8, .inl (g.2.2.2.1, ((us_told f hist.length).length), .inl a8))] ++ Wa) : va_W) (Wa ++ [(b0, .inr (11, [.int x3])), (r8, .inr (0, [.ref v8, .int 0, .int 0, .int 0])), (v8, .inl (g.2.2.2.1, ((us_told f hist.length).length), .inl a8))]) := List.perm_append_comm
          have hFc := ub_freeP hD hS hA hpm
          obtain ⟨hPc, hDc⟩ := ub_subP hP hD hpm
          refine us_calli (va_runV (As := []) (rest := []) ⟨hx, hb, hml, hown, hts⟩ (uo_undo l g hR) (cwV 0 hts gu_RL_187 rfl rfl rfl ⟨rfl, uhX8_undo⟩ ⟨Nat.le_of_ble_eq_true rfl, Nat.le_of_ble_eq_true rfl⟩) (us_preO hR hZ hS hFc hPc hDc hK hN) rfl rfl hl.1 rfl (lv_room (Nat.le_of_ble_eq_true rfl)) dL_law_363 ⟨by show ((((2000 + 6000 * i) + 1) + 182) + 18) + 18 ≤ 453666; omega, by show ((((20000 + 300000 * i) + 1) + 26000) + 253) + 253 ≤ 7741250; omega⟩) hP hD hS hA hpm (fun r Wo14 H locs hpost hP hD hS => ?_)
          have hP : va_P g.1 vwCl ([(b0, .inr (11, [.int x3])), (r8, .inr (0, [.ref v8, .int 0, .int 0, .int 0])), (v8, .inl (g.2.2.2.1, ((us_told f hist.length).length), .inl a8))] ++ Wo14) H := ub_P_perm List.perm_append_comm hP
          have hD : va_D A ([(b0, .inr (11, [.int x3])), (r8, .inr (0, [.ref v8, .int 0, .int 0, .int 0])), (v8, .inl (g.2.2.2.1, ((us_told f hist.length).length), .inl a8))] ++ Wo14) := ub_D_perm List.perm_append_comm hD
          obtain ⟨hr, hR⟩ := hpost
          refine W.widen (k := ((((2000 + 6000 * i) + 1) + 182) + 18) + 18) (n := ((((20000 + 300000 * i) + 1) + 26000) + 253) + 253) (by omega) (by omega) ?_
          have ehd : hist2.headD f2 = f := by rw [g2]; rfl
          rw [ehd] at hR
          have htl : hist2.tail.length = min 8 (hist.length + 1) - 1 := by rw [List.length_tail, hlc]
          have er : r = nI (min 8 (hist.length + 1) - 1) := by rw [hr, if_neg (by omega), hlc]
          rw [er]
          refine lv_iload hx hb dL_law_366 (lv_at hl 0 rfl) ?_
          refine lv_icmp_ne (tgt := 383) hx hb dL_law_368 (by decide) (fun cc => absurd (us_dec8 hh8).symm cc) (fun _ => ?_)
          refine lv_aload hx hb dL_law_371 (lv_at hl 2 rfl) ?_
          refine lv_aload_n hx hb dL_law_373 rfl (lv_at hl 7 rfl) ?_
          have hpm : List.Perm (([(b0, .inr (11, [.int x3])), (r8, .inr (0, [.ref v8, .int 0, .int 0, .int 0])), (v8, .inl (g.2.2.2.1, ((us_told f hist.length).length), .inl a8))] ++ Wo14) : va_W) (Wo14 ++ [(b0, .inr (11, [.int x3])), (r8, .inr (0, [.ref v8, .int 0, .int 0, .int 0])), (v8, .inl (g.2.2.2.1, ((us_told f hist.length).length), .inl a8))]) := List.perm_append_comm
          have hFc := ub_freeP hD hS hA hpm
          obtain ⟨hPc, hDc⟩ := ub_subP hP hD hpm
          refine us_callr (va_runS (As := [.ref h0]) (rest := [.ref r8]) ⟨hx, hb, hml, hown, hts⟩ (ul_told l g hR (us_told_ao (uo_W_len hR).2 hJ) (fun r hr => ut_tell_len (uo_W_len hR).2 hr)) (va_cwS 1 hts gu_RL_204 rfl rfl rfl us_hL_told ⟨Nat.le_of_ble_eq_true rfl, Nat.le_of_ble_eq_true rfl⟩) (us_preS hZ hS hFc hPc hDc hK hN) rfl rfl hl.1 rfl (lv_room (Nat.le_of_ble_eq_true rfl)) dL_law_374 ⟨by show (((((2000 + 6000 * i) + 1) + 182) + 18) + 18) + 182 ≤ 453666; omega, by show (((((20000 + 300000 * i) + 1) + 26000) + 253) + 253) + 26000 ≤ 7741250; omega⟩) hP hD hS hA hpm (fun r9 u H locs hpost hP hD hS => ?_)
          obtain ⟨Wo15, v9, a9, L9, rfl, hR, hT9⟩ := hpost
          have hP : va_P g.1 vwCl ([(b0, .inr (11, [.int x3])), (r8, .inr (0, [.ref v8, .int 0, .int 0, .int 0])), (v8, .inl (g.2.2.2.1, ((us_told f hist.length).length), .inl a8)), (r9, .inr (0, [.ref v9, .int 0, .int 0, .int 0])), (v9, .inl (g.2.2.2.1, ((us_told f hist2.tail.length).length), .inl a9))] ++ Wo15) H := ub_P_perm us_pl hP
          have hD : va_D A ([(b0, .inr (11, [.int x3])), (r8, .inr (0, [.ref v8, .int 0, .int 0, .int 0])), (v8, .inl (g.2.2.2.1, ((us_told f hist.length).length), .inl a8)), (r9, .inr (0, [.ref v9, .int 0, .int 0, .int 0])), (v9, .inl (g.2.2.2.1, ((us_told f hist2.tail.length).length), .inl a9))] ++ Wo15) := ub_D_perm us_pl hD
          refine W.widen (k := (((((2000 + 6000 * i) + 1) + 182) + 18) + 18) + 182) (n := (((((20000 + 300000 * i) + 1) + 26000) + 253) + 253) + 26000) (by omega) (by omega) ?_
          have etn : (us_told f hist2.tail.length) = us_told f hist.length := us_told_n
          rw [etn] at hT9 hP hD
          have hpm : List.Perm (([(b0, .inr (11, [.int x3])), (r8, .inr (0, [.ref v8, .int 0, .int 0, .int 0])), (v8, .inl (g.2.2.2.1, ((us_told f hist.length).length), .inl a8)), (r9, .inr (0, [.ref v9, .int 0, .int 0, .int 0])), (v9, .inl (g.2.2.2.1, ((us_told f hist.length).length), .inl a9))] ++ Wo15) : va_W) ([(r8, .inr (0, [.ref v8, .int 0, .int 0, .int 0])), (v8, .inl (g.2.2.2.1, ((us_told f hist.length).length), .inl a8)), (r9, .inr (0, [.ref v9, .int 0, .int 0, .int 0])), (v9, .inl (g.2.2.2.1, ((us_told f hist.length).length), .inl a9))] ++ ([(b0, .inr (11, [.int x3]))] ++ Wo15)) := uo_P0 (ub_permN (ws := [(b0, .inr (11, [.int x3])), (r8, .inr (0, [.ref v8, .int 0, .int 0, .int 0])), (v8, .inl (g.2.2.2.1, ((us_told f hist.length).length), .inl a8)), (r9, .inr (0, [.ref v9, .int 0, .int 0, .int 0])), (v9, .inl (g.2.2.2.1, ((us_told f hist.length).length), .inl a9))]) (ws' := [(r8, .inr (0, [.ref v8, .int 0, .int 0, .int 0])), (v8, .inl (g.2.2.2.1, ((us_told f hist.length).length), .inl a8)), (r9, .inr (0, [.ref v9, .int 0, .int 0, .int 0])), (v9, .inl (g.2.2.2.1, ((us_told f hist.length).length), .inl a9))] ++ [(b0, .inr (11, [.int x3]))]) 5 rfl [1, 2, 3, 4, 0] (by decide) rfl)
          have hFc := ub_freeP hD hS hA hpm
          obtain ⟨hPc, hDc⟩ := ub_subP hP hD hpm
          refine us_calli (va_runV (As := [.ref r9]) (rest := []) ⟨hx, hb, hml, hown, hts⟩ (uj_equals l g (n := (us_told f hist.length).length) (by omega) (fun y hy => (hT8.2 y hy).trans (hT9.2 y hy).symm)) (cwV 1 hts gu_RL_132 rfl rfl rfl ⟨rfl, us_hJ0_equals_9ea2d⟩ ⟨Nat.le_of_ble_eq_true rfl, Nat.le_of_ble_eq_true rfl⟩) (us_preV hZ hS hFc hPc hDc hK hN 0 (ci := 0) rfl rfl rfl) rfl rfl hl.1 rfl (lv_room (Nat.le_of_ble_eq_true rfl)) dL_law_377 ⟨Nat.le_trans (Nat.le_of_eq (Nat.add_zero _)) (by show ((((((2000 + 6000 * i) + 1) + 182) + 18) + 18) + 182) ≤ 453666; omega), Nat.le_trans (Nat.le_of_eq (Nat.add_zero _)) (by show ((((((20000 + 300000 * i) + 1) + 26000) + 253) + 253) + 26000) ≤ 7741250; omega)⟩) hP hD hS hA hpm (fun r u H locs hpost hP hD hS => ?_)
          obtain ⟨rfl, rfl⟩ := hpost
          have hP : va_P g.1 vwCl ([(r8, .inr (0, [.ref v8, .int 0, .int 0, .int 0])), (v8, .inl (g.2.2.2.1, ((us_told f hist.length).length), .inl a8)), (r9, .inr (0, [.ref v9, .int 0, .int 0, .int 0])), (v9, .inl (g.2.2.2.1, ((us_told f hist.length).length), .inl a9)), (b0, .inr (11, [.int x3]))] ++ Wo15) H := hP
          have hD : va_D A ([(r8, .inr (0, [.ref v8, .int 0, .int 0, .int 0])), (v8, .inl (g.2.2.2.1, ((us_told f hist.length).length), .inl a8)), (r9, .inr (0, [.ref v9, .int 0, .int 0, .int 0])), (v9, .inl (g.2.2.2.1, ((us_told f hist.length).length), .inl a9)), (b0, .inr (11, [.int x3]))] ++ Wo15) := hD
          refine lv_if_ne (tgt := 385) hx hb dL_law_380 (by decide) (fun _ => ?_) (fun cc => absurd cc (show ¬ (1 : Int32) = 0 by decide))
          have hP : va_P g.1 vwCl Wo15 H := us_dropP hP
          have hD : va_D A Wo15 := us_dropD hD
          refine W.widen (k := 2000 + 6000 * i + 1000) (n := 20000 + 300000 * i + 110000) (by omega) (by omega) ?_
          exact J385 f hist2.tail sv lr2 ld2 _ Wo15 _ _ ls hJ hR (lv_sub (l' := [(7, .int (nI (hist2.tail).length)), (4, .int (nI i)), (2, .int (nI (2 * (i + 1)))), (1, .ref h0), (0, .ref b), (3, .int made)]) hl [0, 6, 3, 7, 8, 9] (by rw [htl, ← us_dec8 hh8]; rfl)) hP hD hS
        · refine lv_if_ne (tgt := 385) hx hb dL_law_356 (by decide) (fun _ => ?_) (fun cc => absurd cc hn4)
          have hP : va_P g.1 vwCl Wa H := us_dropP hP
          have hD : va_D A Wa := us_dropD hD
          refine W.widen (k := 2000 + 6000 * i + 1000) (n := 20000 + 300000 * i + 110000) (by omega) (by omega) ?_
          exact J385 f2 hist2 sv lr2 ld2 _ Wa _ _ ls hJ2 hR (lv_sub (l' := [(7, .int (nI (hist2).length)), (4, .int (nI i)), (2, .int (nI (2 * (i + 1)))), (1, .ref h0), (0, .ref b), (3, .int made)]) hl [0, 6, 3, 7, 8, 9] (by rw [hlc]; rfl)) hP hD hS
  exact loopM 16 0 f hist sv lr ld L Wo H locs ls (by omega) hJ hR hl hP hD hS
set_option maxHeartbeats 4000000 in
set_option maxRecDepth 100000 in
theorem ul_main {p : Program} {l : Launch} {e : Env} {s : State} {m : MethodId} {args : Array Value} {below : List Frame} {meth : Method} {c : Code} {Q : State → Prop} {g : us_G} {A : Nat → Prop} (K0 : us_kx p s m args meth c cL_law 10 RL g A) {b Ls : Nat} {xs : Nat → Int32} (hX : va_X b Ls xs s s.heap) (hbl : b < s.heap.size) (hbA : ¬ A b) (hLs : Ls < 2 ^ 31) {h0 : Nat}
    (kend : ∀ (H : Heap) (locs : List Loc) (ls : Array Slot), va_S A s.heap H locs → W p l e ({ frames := 13, cells := 453666, slots := 7741250, locals := 506 } : Room) s m args below meth c H locs 453666 7741250 Q (F0 m 494 ls [.int 1])) {Wo : va_W} {H : Heap} {locs : List Loc} {ls : Array Slot} (hR : uo_W g h0 0 us_s0 [] none (-1015) (-1015) [] Wo) (hl : lv_has ls 10 [(2, .int 0), (1, .ref h0), (0, .ref b)]) (hP : va_P g.1 vwCl Wo H) (hD : va_D A Wo) (hS : va_S A s.heap H locs) : W p l e ({ frames := 13, cells := 453666, slots := 7741250, locals := 506 } : Room) s m args below meth c H locs 60 2000 Q (F0 m 10 ls []) := by
  obtain ⟨hx, hb, hml, hown, hts, hK, hN, hA, hZ⟩ := id K0
  refine lv_aload_n hx hb dL_law_10 rfl (lv_at hl 1 rfl) ?_
  have hpm : (Wo : va_W).Perm (Wo ++ ([] : va_W)) := List.Perm.of_eq (List.append_nil _).symm
  have hFc := ub_freeP hD hS hA hpm
  obtain ⟨hPc, hDc⟩ := ub_subP hP hD hpm
  refine us_calli (va_runV (As := []) (rest := []) ⟨hx, hb, hml, hown, hts⟩ (uo_undo l g hR) (cwV 0 hts gu_RL_187 rfl rfl rfl ⟨rfl, uhX8_undo⟩ ⟨Nat.le_of_ble_eq_true rfl, Nat.le_of_ble_eq_true rfl⟩) (us_preO hR hZ hS hFc hPc hDc hK hN) rfl rfl hl.1 rfl (lv_room (Nat.le_of_ble_eq_true rfl)) dL_law_11 ⟨by show 60 + 18 ≤ 453666; omega, by show 2000 + 253 ≤ 7741250; omega⟩) hP hD hS hA hpm (fun r Wo16 H locs hpost hP hD hS => ?_)
  have hP : va_P g.1 vwCl Wo16 H := by have h9 := hP; rw [List.append_nil] at h9; exact h9
  have hD : va_D A Wo16 := by have h9 := hD; rw [List.append_nil] at h9; exact h9
  obtain ⟨hr, hR⟩ := hpost
  refine W.widen (k := 60 + 18) (n := 2000 + 253) (by omega) (by omega) ?_
  have er : r = (-1015) := hr
  rw [er]
  refine lv_sipush (v := (-1015)) hx hb dL_law_14 (by decide) ?_
  refine lv_icmp_ne (tgt := 225) hx hb dL_law_17 (by decide) (fun cc => absurd rfl cc) (fun _ => ?_)
  refine lv_aload_n hx hb dL_law_20 rfl (lv_at hl 1 rfl) ?_
  have hpm : (Wo16 : va_W).Perm (Wo16 ++ ([] : va_W)) := List.Perm.of_eq (List.append_nil _).symm
  have hFc := ub_freeP hD hS hA hpm
  obtain ⟨hPc, hDc⟩ := ub_subP hP hD hpm
  refine us_calli (va_runV (As := []) (rest := []) ⟨hx, hb, hml, hown, hts⟩ (uo_restoreN l g hR) (cwV 0 hts gu_RL_183 rfl rfl rfl ⟨rfl, uhX8_restoreS⟩ ⟨Nat.le_of_ble_eq_true rfl, Nat.le_of_ble_eq_true rfl⟩) (us_preO hR hZ hS hFc hPc hDc hK hN) rfl rfl hl.1 rfl (lv_room (Nat.le_of_ble_eq_true rfl)) dL_law_21 ⟨by show (60 + 18) + 0 ≤ 453666; omega, by show (2000 + 253) + 0 ≤ 7741250; omega⟩) hP hD hS hA hpm (fun r Wo17 H locs hpost hP hD hS => ?_)
  have hP : va_P g.1 vwCl Wo17 H := by have h9 := hP; rw [List.append_nil] at h9; exact h9
  have hD : va_D A Wo17 := by have h9 := hD; rw [List.append_nil] at h9; exact h9
  obtain ⟨hr, hR⟩ := hpost
  have er : r = (-1015) := hr
  rw [er]
  refine lv_sipush (v := (-1015)) hx hb dL_law_24 (by decide) ?_
  refine lv_icmp_ne (tgt := 225) hx hb dL_law_27 (by decide) (fun cc => absurd rfl cc) (fun _ => ?_)
  refine lv_aload_n hx hb dL_law_30 rfl (lv_at hl 1 rfl) ?_
  refine lv_iconst (v := 0) hx hb dL_law_31 (by decide) ?_
  have hpm : (Wo17 : va_W).Perm (Wo17 ++ ([] : va_W)) := List.Perm.of_eq (List.append_nil _).symm
  have hFc := ub_freeP hD hS hA hpm
  obtain ⟨hPc, hDc⟩ := ub_subP hP hD hpm
  refine us_calli (va_runV (As := [.int 0]) (rest := []) ⟨hx, hb, hml, hown, hts⟩ (uo_reason l g hR (x := 0)) (cwV 1 hts gu_RL_179 rfl rfl rfl ⟨rfl, uhX8_reason⟩ ⟨Nat.le_of_ble_eq_true rfl, Nat.le_of_ble_eq_true rfl⟩) (us_preO hR hZ hS hFc hPc hDc hK hN) rfl rfl hl.1 rfl (lv_room (Nat.le_of_ble_eq_true rfl)) dL_law_32 ⟨Nat.le_trans (Nat.le_of_eq (Nat.add_zero _)) (by show (60 + 18) ≤ 453666; omega), Nat.le_trans (Nat.le_of_eq (Nat.add_zero _)) (by show (2000 + 253) ≤ 7741250; omega)⟩) hP hD hS hA hpm (fun r Wo18 H locs hpost hP hD hS => ?_)
  have hP : va_P g.1 vwCl Wo18 H := by have h9 := hP; rw [List.append_nil] at h9; exact h9
  have hD : va_D A Wo18 := by have h9 := hD; rw [List.append_nil] at h9; exact h9
  obtain ⟨hr, hR⟩ := hpost
  have er : r = (-1015) := hr
  rw [er]
  refine lv_sipush (v := (-1015)) hx hb dL_law_35 (by decide) ?_
  refine lv_icmp_ne (tgt := 225) hx hb dL_law_38 (by decide) (fun cc => absurd rfl cc) (fun _ => ?_)
  refine lv_aload_n hx hb dL_law_41 rfl (lv_at hl 1 rfl) ?_
  have hpm : (Wo18 : va_W).Perm (Wo18 ++ ([] : va_W)) := List.Perm.of_eq (List.append_nil _).symm
  have hFc := ub_freeP hD hS hA hpm
  obtain ⟨hPc, hDc⟩ := ub_subP hP hD hpm
  refine us_calli (va_runV (As := []) (rest := []) ⟨hx, hb, hml, hown, hts⟩ (uo_run l g hR) (cwV 0 hts gu_RL_190 rfl rfl rfl ⟨rfl, uhX8_run⟩ ⟨Nat.le_of_ble_eq_true rfl, Nat.le_of_ble_eq_true rfl⟩) (us_preO hR hZ hS hFc hPc hDc hK hN) rfl rfl hl.1 rfl (lv_room (Nat.le_of_ble_eq_true rfl)) dL_law_42 ⟨by show (60 + 18) + 36 ≤ 453666; omega, by show (2000 + 253) + 506 ≤ 7741250; omega⟩) hP hD hS hA hpm (fun r Wo19 H locs hpost hP hD hS => ?_)
  have hP : va_P g.1 vwCl Wo19 H := by have h9 := hP; rw [List.append_nil] at h9; exact h9
  have hD : va_D A Wo19 := by have h9 := hD; rw [List.append_nil] at h9; exact h9
  obtain ⟨hr, hR⟩ := hpost
  refine W.widen (k := (60 + 18) + 36) (n := (2000 + 253) + 506) (by omega) (by omega) ?_
  have er : r = (-2000) := hr
  rw [er]
  refine lv_sipush (v := (-2000)) hx hb dL_law_45 (by decide) ?_
  refine lv_icmp_ne (tgt := 225) hx hb dL_law_48 (by decide) (fun cc => absurd rfl cc) (fun _ => ?_)
  refine lv_aload_n hx hb dL_law_51 rfl (lv_at hl 1 rfl) ?_
  refine lv_iconst (v := 0) hx hb dL_law_52 (by decide) ?_
  have hpm : (Wo19 : va_W).Perm (Wo19 ++ ([] : va_W)) := List.Perm.of_eq (List.append_nil _).symm
  have hFc := ub_freeP hD hS hA hpm
  obtain ⟨hPc, hDc⟩ := ub_subP hP hD hpm
  refine us_calli (va_runV (As := [.int 0]) (rest := []) ⟨hx, hb, hml, hown, hts⟩ (uo_character l g hR (x := 0)) (cwV 1 hts gu_RL_77 rfl rfl rfl ⟨rfl, uhX8_character⟩ ⟨Nat.le_of_ble_eq_true rfl, Nat.le_of_ble_eq_true rfl⟩) (us_preO hR hZ hS hFc hPc hDc hK hN) rfl rfl hl.1 rfl (lv_room (Nat.le_of_ble_eq_true rfl)) dL_law_53 ⟨Nat.le_trans (Nat.le_of_eq (Nat.add_zero _)) (by show ((60 + 18) + 36) ≤ 453666; omega), Nat.le_trans (Nat.le_of_eq (Nat.add_zero _)) (by show ((2000 + 253) + 506) ≤ 7741250; omega)⟩) hP hD hS hA hpm (fun r Wo20 H locs hpost hP hD hS => ?_)
  have hP : va_P g.1 vwCl Wo20 H := by have h9 := hP; rw [List.append_nil] at h9; exact h9
  have hD : va_D A Wo20 := by have h9 := hD; rw [List.append_nil] at h9; exact h9
  obtain ⟨hr, hR⟩ := hpost
  have er : r = (-1011) := by rw [hr]; rfl
  rw [er]
  refine lv_sipush (v := (-1011)) hx hb dL_law_56 (by decide) ?_
  refine lv_icmp_ne (tgt := 225) hx hb dL_law_59 (by decide) (fun cc => absurd rfl cc) (fun _ => ?_)
  refine lv_aload_n hx hb dL_law_62 rfl (lv_at hl 1 rfl) ?_
  refine lv_iconst (v := 4) hx hb dL_law_63 (by decide) ?_
  have hI := (uo_W_len hR).2
  have hpm : (Wo20 : va_W).Perm (Wo20 ++ ([] : va_W)) := List.Perm.of_eq (List.append_nil _).symm
  have hFc := ub_freeP hD hS hA hpm
  obtain ⟨hPc, hDc⟩ := ub_subP hP hD hpm
  refine us_calli (va_runV (As := [.int 4]) (rest := []) ⟨hx, hb, hml, hown, hts⟩ (uo_rope l g hR (by omega)) (cwV 1 hts gu_RL_43 rfl rfl rfl ⟨rfl, uhX8_rope⟩ ⟨Nat.le_of_ble_eq_true rfl, Nat.le_of_ble_eq_true rfl⟩) (us_preO hR hZ hS hFc hPc hDc hK hN) rfl rfl hl.1 rfl (lv_room (Nat.le_of_ble_eq_true rfl)) dL_law_64 ⟨by show ((60 + 18) + 36) + 18 ≤ 453666; omega, by show ((2000 + 253) + 506) + 253 ≤ 7741250; omega⟩) hP hD hS hA hpm (fun r Wo21 H locs hpost hP hD hS => ?_)
  have hP : va_P g.1 vwCl Wo21 H := by have h9 := hP; rw [List.append_nil] at h9; exact h9
  have hD : va_D A Wo21 := by have h9 := hD; rw [List.append_nil] at h9; exact h9
  obtain ⟨f2, lr2, ld2, hU, hR⟩ := hpost
  refine W.widen (k := ((60 + 18) + 36) + 18) (n := ((2000 + 253) + 506) + 253) (by omega) (by omega) ?_
  obtain ⟨e1, e2⟩ := ux_rope_no rfl hU
  rw [e2] at hR
  have er : r = (-1012) := e1
  rw [er]
  refine lv_sipush (v := (-1012)) hx hb dL_law_67 (by decide) ?_
  refine lv_icmp_ne (tgt := 225) hx hb dL_law_70 (by decide) (fun cc => absurd rfl cc) (fun _ => ?_)
  refine lv_aload_n hx hb dL_law_73 rfl (lv_at hl 1 rfl) ?_
  refine lv_iconst (v := 0) hx hb dL_law_74 (by decide) ?_
  refine lv_iconst (v := 0) hx hb dL_law_75 (by decide) ?_
  refine lv_iconst (v := 1) hx hb dL_law_76 (by decide) ?_
  have hI := (uo_W_len hR).2
  have hpm : (Wo21 : va_W).Perm (Wo21 ++ ([] : va_W)) := List.Perm.of_eq (List.append_nil _).symm
  have hFc := ub_freeP hD hS hA hpm
  obtain ⟨hPc, hDc⟩ := ub_subP hP hD hpm
  refine us_calli (va_runV (As := [.int 0, .int 0, .int 1]) (rest := []) ⟨hx, hb, hml, hown, hts⟩ (uo_pull l g hR (by omega)) (cwV 3 hts gu_RL_55 rfl rfl rfl ⟨rfl, uhX8_pull⟩ ⟨Nat.le_of_ble_eq_true rfl, Nat.le_of_ble_eq_true rfl⟩) (us_preO hR hZ hS hFc hPc hDc hK hN) rfl rfl hl.1 rfl (lv_room (Nat.le_of_ble_eq_true rfl)) dL_law_77 ⟨by show (((60 + 18) + 36) + 18) + 18 ≤ 453666; omega, by show (((2000 + 253) + 506) + 253) + 253 ≤ 7741250; omega⟩) hP hD hS hA hpm (fun r Wo22 H locs hpost hP hD hS => ?_)
  have hP : va_P g.1 vwCl Wo22 H := by have h9 := hP; rw [List.append_nil] at h9; exact h9
  have hD : va_D A Wo22 := by have h9 := hD; rw [List.append_nil] at h9; exact h9
  obtain ⟨f2, lr2, ld2, hU, hR⟩ := hpost
  refine W.widen (k := (((60 + 18) + 36) + 18) + 18) (n := (((2000 + 253) + 506) + 253) + 253) (by omega) (by omega) ?_
  obtain ⟨e1, e2⟩ := ux_pull_no hI rfl hU
  rw [e2] at hR
  have er : r = (-1011) := e1
  rw [er]
  refine lv_sipush (v := (-1011)) hx hb dL_law_80 (by decide) ?_
  refine lv_icmp_ne (tgt := 225) hx hb dL_law_83 (by decide) (fun cc => absurd rfl cc) (fun _ => ?_)
  refine lv_aload_n hx hb dL_law_86 rfl (lv_at hl 1 rfl) ?_
  have hI := (uo_W_len hR).2
  have hpm : (Wo22 : va_W).Perm (Wo22 ++ ([] : va_W)) := List.Perm.of_eq (List.append_nil _).symm
  have hFc := ub_freeP hD hS hA hpm
  obtain ⟨hPc, hDc⟩ := ub_subP hP hD hpm
  refine us_calli (va_runV (As := []) (rest := []) ⟨hx, hb, hml, hown, hts⟩ (uo_ring l g hR (by omega)) (cwV 0 hts gu_RL_62 rfl rfl rfl ⟨rfl, uhX8_ring⟩ ⟨Nat.le_of_ble_eq_true rfl, Nat.le_of_ble_eq_true rfl⟩) (us_preO hR hZ hS hFc hPc hDc hK hN) rfl rfl hl.1 rfl (lv_room (Nat.le_of_ble_eq_true rfl)) dL_law_87 ⟨by show ((((60 + 18) + 36) + 18) + 18) + 18 ≤ 453666; omega, by show ((((2000 + 253) + 506) + 253) + 253) + 253 ≤ 7741250; omega⟩) hP hD hS hA hpm (fun r Wo23 H locs hpost hP hD hS => ?_)
  have hP : va_P g.1 vwCl Wo23 H := by have h9 := hP; rw [List.append_nil] at h9; exact h9
  have hD : va_D A Wo23 := by have h9 := hD; rw [List.append_nil] at h9; exact h9
  obtain ⟨f2, lr2, ld2, hU, hR⟩ := hpost
  refine W.widen (k := ((((60 + 18) + 36) + 18) + 18) + 18) (n := ((((2000 + 253) + 506) + 253) + 253) + 253) (by omega) (by omega) ?_
  obtain ⟨e1, e2, e3, e4⟩ := ux_ring_no rfl hU
  rw [e2, e3, e4] at hR
  have er : r = (-1014) := e1
  rw [er]
  refine lv_sipush (v := (-1014)) hx hb dL_law_90 (by decide) ?_
  refine lv_icmp_ne (tgt := 225) hx hb dL_law_93 (by decide) (fun cc => absurd rfl cc) (fun _ => ?_)
  refine lv_aload_n hx hb dL_law_96 rfl (lv_at hl 1 rfl) ?_
  refine lv_iconst (v := 0) hx hb dL_law_97 (by decide) ?_
  have hpm : (Wo23 : va_W).Perm (Wo23 ++ ([] : va_W)) := List.Perm.of_eq (List.append_nil _).symm
  have hFc := ub_freeP hD hS hA hpm
  obtain ⟨hPc, hDc⟩ := ub_subP hP hD hpm
  refine us_calli (va_runV (As := [.int 0]) (rest := []) ⟨hx, hb, hml, hown, hts⟩ (uo_reason l g hR (x := 0)) (cwV 1 hts gu_RL_179 rfl rfl rfl ⟨rfl, uhX8_reason⟩ ⟨Nat.le_of_ble_eq_true rfl, Nat.le_of_ble_eq_true rfl⟩) (us_preO hR hZ hS hFc hPc hDc hK hN) rfl rfl hl.1 rfl (lv_room (Nat.le_of_ble_eq_true rfl)) dL_law_98 ⟨Nat.le_trans (Nat.le_of_eq (Nat.add_zero _)) (by show (((((60 + 18) + 36) + 18) + 18) + 18) ≤ 453666; omega), Nat.le_trans (Nat.le_of_eq (Nat.add_zero _)) (by show (((((2000 + 253) + 506) + 253) + 253) + 253) ≤ 7741250; omega)⟩) hP hD hS hA hpm (fun r Wo24 H locs hpost hP hD hS => ?_)
  have hP : va_P g.1 vwCl Wo24 H := by have h9 := hP; rw [List.append_nil] at h9; exact h9
  have hD : va_D A Wo24 := by have h9 := hD; rw [List.append_nil] at h9; exact h9
  obtain ⟨hr, hR⟩ := hpost
  have er : r = 3 := hr
  rw [er]
  refine lv_iconst (v := 3) hx hb dL_law_101 (by decide) ?_
  refine lv_icmp_ne (tgt := 225) hx hb dL_law_102 (by decide) (fun cc => absurd rfl cc) (fun _ => ?_)
  refine lv_aload_n hx hb dL_law_105 rfl (lv_at hl 1 rfl) ?_
  refine lv_iconst (v := 1) hx hb dL_law_106 (by decide) ?_
  have hpm : (Wo24 : va_W).Perm (Wo24 ++ ([] : va_W)) := List.Perm.of_eq (List.append_nil _).symm
  have hFc := ub_freeP hD hS hA hpm
  obtain ⟨hPc, hDc⟩ := ub_subP hP hD hpm
  refine us_calli (va_runV (As := [.int 1]) (rest := []) ⟨hx, hb, hml, hown, hts⟩ (uo_reason l g hR (x := 1)) (cwV 1 hts gu_RL_179 rfl rfl rfl ⟨rfl, uhX8_reason⟩ ⟨Nat.le_of_ble_eq_true rfl, Nat.le_of_ble_eq_true rfl⟩) (us_preO hR hZ hS hFc hPc hDc hK hN) rfl rfl hl.1 rfl (lv_room (Nat.le_of_ble_eq_true rfl)) dL_law_107 ⟨Nat.le_trans (Nat.le_of_eq (Nat.add_zero _)) (by show (((((60 + 18) + 36) + 18) + 18) + 18) ≤ 453666; omega), Nat.le_trans (Nat.le_of_eq (Nat.add_zero _)) (by show (((((2000 + 253) + 506) + 253) + 253) + 253) ≤ 7741250; omega)⟩) hP hD hS hA hpm (fun r Wo25 H locs hpost hP hD hS => ?_)
  have hP : va_P g.1 vwCl Wo25 H := by have h9 := hP; rw [List.append_nil] at h9; exact h9
  have hD : va_D A Wo25 := by have h9 := hD; rw [List.append_nil] at h9; exact h9
  obtain ⟨hr, hR⟩ := hpost
  have er : r = 0 := by rw [hr]; rfl
  rw [er]
  refine lv_if_ne (tgt := 225) hx hb dL_law_110 (by decide) (fun cc => absurd rfl cc) (fun _ => ?_)
  refine lv_aload_n hx hb dL_law_113 rfl (lv_at hl 1 rfl) ?_
  have hI := (uo_W_len hR).2
  have hpm : (Wo25 : va_W).Perm (Wo25 ++ ([] : va_W)) := List.Perm.of_eq (List.append_nil _).symm
  have hFc := ub_freeP hD hS hA hpm
  obtain ⟨hPc, hDc⟩ := ub_subP hP hD hpm
  refine us_calli (va_runV (As := []) (rest := []) ⟨hx, hb, hml, hown, hts⟩ (uo_hour l g hR (by omega)) (cwV 0 hts gu_RL_65 rfl rfl rfl ⟨rfl, uhX8_hour⟩ ⟨Nat.le_of_ble_eq_true rfl, Nat.le_of_ble_eq_true rfl⟩) (us_preO hR hZ hS hFc hPc hDc hK hN) rfl rfl hl.1 rfl (lv_room (Nat.le_of_ble_eq_true rfl)) dL_law_114 ⟨by show (((((60 + 18) + 36) + 18) + 18) + 18) + 18 ≤ 453666; omega, by show (((((2000 + 253) + 506) + 253) + 253) + 253) + 253 ≤ 7741250; omega⟩) hP hD hS hA hpm (fun r Wo26 H locs hpost hP hD hS => ?_)
  have hP : va_P g.1 vwCl Wo26 H := by have h9 := hP; rw [List.append_nil] at h9; exact h9
  have hD : va_D A Wo26 := by have h9 := hD; rw [List.append_nil] at h9; exact h9
  obtain ⟨f2, lr2, ld2, hU, hR⟩ := hpost
  refine W.widen (k := (((((60 + 18) + 36) + 18) + 18) + 18) + 18) (n := (((((2000 + 253) + 506) + 253) + 253) + 253) + 253) (by omega) (by omega) ?_
  obtain ⟨e1, e2⟩ := ux_hour_no rfl hU
  rw [e2] at hR
  have er : r = (-1014) := e1
  rw [er]
  refine lv_sipush (v := (-1014)) hx hb dL_law_117 (by decide) ?_
  refine lv_icmp_ne (tgt := 225) hx hb dL_law_120 (by decide) (fun cc => absurd rfl cc) (fun _ => ?_)
  refine lv_aload_n hx hb dL_law_123 rfl (lv_at hl 1 rfl) ?_
  refine lv_iconst (v := 0) hx hb dL_law_124 (by decide) ?_
  refine lv_iconst (v := 1) hx hb dL_law_125 (by decide) ?_
  have hI := (uo_W_len hR).2
  have hpm : (Wo26 : va_W).Perm (Wo26 ++ ([] : va_W)) := List.Perm.of_eq (List.append_nil _).symm
  have hFc := ub_freeP hD hS hA hpm
  obtain ⟨hPc, hDc⟩ := ub_subP hP hD hpm
  refine us_calli (va_runV (As := [.int 0, .int 1]) (rest := []) ⟨hx, hb, hml, hown, hts⟩ (uo_sensor l g hR (by omega)) (cwV 2 hts gu_RL_49 rfl rfl rfl ⟨rfl, uhX8_sensor⟩ ⟨Nat.le_of_ble_eq_true rfl, Nat.le_of_ble_eq_true rfl⟩) (us_preO hR hZ hS hFc hPc hDc hK hN) rfl rfl hl.1 rfl (lv_room (Nat.le_of_ble_eq_true rfl)) dL_law_126 ⟨by show ((((((60 + 18) + 36) + 18) + 18) + 18) + 18) + 18 ≤ 453666; omega, by show ((((((2000 + 253) + 506) + 253) + 253) + 253) + 253) + 253 ≤ 7741250; omega⟩) hP hD hS hA hpm (fun r Wo27 H locs hpost hP hD hS => ?_)
  have hP : va_P g.1 vwCl Wo27 H := by have h9 := hP; rw [List.append_nil] at h9; exact h9
  have hD : va_D A Wo27 := by have h9 := hD; rw [List.append_nil] at h9; exact h9
  obtain ⟨f2, lr2, ld2, hU, hR⟩ := hpost
  refine W.widen (k := ((((((60 + 18) + 36) + 18) + 18) + 18) + 18) + 18) (n := ((((((2000 + 253) + 506) + 253) + 253) + 253) + 253) + 253) (by omega) (by omega) ?_
  obtain ⟨e1, e2⟩ := ux_sensor_no hI rfl hU
  rw [e2] at hR
  have er : r = (-1011) := e1
  rw [er]
  refine lv_sipush (v := (-1011)) hx hb dL_law_129 (by decide) ?_
  refine lv_icmp_ne (tgt := 225) hx hb dL_law_132 (by decide) (fun cc => absurd rfl cc) (fun _ => ?_)
  refine lv_aload_n hx hb dL_law_135 rfl (lv_at hl 1 rfl) ?_
  refine lv_iconst (v := 0) hx hb dL_law_136 (by decide) ?_
  refine lv_iconst (v := 1) hx hb dL_law_137 (by decide) ?_
  have hI := (uo_W_len hR).2
  have hpm : (Wo27 : va_W).Perm (Wo27 ++ ([] : va_W)) := List.Perm.of_eq (List.append_nil _).symm
  have hFc := ub_freeP hD hS hA hpm
  obtain ⟨hPc, hDc⟩ := ub_subP hP hD hpm
  refine us_calli (va_runV (As := [.int 0, .int 1]) (rest := []) ⟨hx, hb, hml, hown, hts⟩ (uo_oil l g hR (by omega)) (cwV 2 hts gu_RL_68 rfl rfl rfl ⟨rfl, uhX8_oil⟩ ⟨Nat.le_of_ble_eq_true rfl, Nat.le_of_ble_eq_true rfl⟩) (us_preO hR hZ hS hFc hPc hDc hK hN) rfl rfl hl.1 rfl (lv_room (Nat.le_of_ble_eq_true rfl)) dL_law_138 ⟨by show (((((((60 + 18) + 36) + 18) + 18) + 18) + 18) + 18) + 18 ≤ 453666; omega, by show (((((((2000 + 253) + 506) + 253) + 253) + 253) + 253) + 253) + 253 ≤ 7741250; omega⟩) hP hD hS hA hpm (fun r Wo28 H locs hpost hP hD hS => ?_)
  have hP : va_P g.1 vwCl Wo28 H := by have h9 := hP; rw [List.append_nil] at h9; exact h9
  have hD : va_D A Wo28 := by have h9 := hD; rw [List.append_nil] at h9; exact h9
  obtain ⟨f2, lr2, ld2, hU, hR⟩ := hpost
  refine W.widen (k := (((((((60 + 18) + 36) + 18) + 18) + 18) + 18) + 18) + 18) (n := (((((((2000 + 253) + 506) + 253) + 253) + 253) + 253) + 253) + 253) (by omega) (by omega) ?_
  obtain ⟨e1, e2⟩ := ux_oil_no hI rfl hU
  rw [e2] at hR
  have er : r = (-1011) := e1
  rw [er]
  refine lv_sipush (v := (-1011)) hx hb dL_law_141 (by decide) ?_
  refine lv_icmp_ne (tgt := 225) hx hb dL_law_144 (by decide) (fun cc => absurd rfl cc) (fun _ => ?_)
  have hI := (uo_W_len hR).2
  refine lv_aload_n hx hb dL_law_147 rfl (lv_at hl 1 rfl) ?_
  have hpm : (Wo28 : va_W).Perm (Wo28 ++ ([] : va_W)) := List.Perm.of_eq (List.append_nil _).symm
  have hFc := ub_freeP hD hS hA hpm
  obtain ⟨hPc, hDc⟩ := ub_subP hP hD hpm
  refine us_calli (va_runV (As := []) (rest := []) ⟨hx, hb, hml, hown, hts⟩ (uo_busiest l g hR ) (cwV 0 hts gu_RL_170 rfl rfl rfl ⟨rfl, uhX8_busiest⟩ ⟨Nat.le_of_ble_eq_true rfl, Nat.le_of_ble_eq_true rfl⟩) (us_preO hR hZ hS hFc hPc hDc hK hN) rfl rfl hl.1 rfl (lv_room (Nat.le_of_ble_eq_true rfl)) dL_law_148 ⟨Nat.le_trans (Nat.le_of_eq (Nat.add_zero _)) (by show ((((((((60 + 18) + 36) + 18) + 18) + 18) + 18) + 18) + 18) ≤ 453666; omega), Nat.le_trans (Nat.le_of_eq (Nat.add_zero _)) (by show ((((((((2000 + 253) + 506) + 253) + 253) + 253) + 253) + 253) + 253) ≤ 7741250; omega)⟩) hP hD hS hA hpm (fun r Wo29 H locs hpost hP hD hS => ?_)
  have hP : va_P g.1 vwCl Wo29 H := by have h9 := hP; rw [List.append_nil] at h9; exact h9
  have hD : va_D A Wo29 := by have h9 := hD; rw [List.append_nil] at h9; exact h9
  obtain ⟨hr, hR⟩ := hpost
  have er : r = (-1015) := by rw [hr, uw_busiest hI]; exact if_pos rfl
  rw [er]
  refine lv_sipush (v := (-1015)) hx hb dL_law_151 (by decide) ?_
  refine lv_icmp_ne (tgt := 225) hx hb dL_law_154 (by decide) (fun cc => absurd rfl cc) (fun _ => ?_)
  refine lv_aload_n hx hb dL_law_157 rfl (lv_at hl 1 rfl) ?_
  refine lv_iconst (v := 0) hx hb dL_law_158 (by decide) ?_
  have hpm : (Wo29 : va_W).Perm (Wo29 ++ ([] : va_W)) := List.Perm.of_eq (List.append_nil _).symm
  have hFc := ub_freeP hD hS hA hpm
  obtain ⟨hPc, hDc⟩ := ub_subP hP hD hpm
  refine us_calli (va_runV (As := [.int 0]) (rest := []) ⟨hx, hb, hml, hown, hts⟩ (uo_guess l g hR (x := 0)) (cwV 1 hts gu_RL_159 rfl rfl rfl ⟨rfl, uhX8_guess⟩ ⟨Nat.le_of_ble_eq_true rfl, Nat.le_of_ble_eq_true rfl⟩) (us_preO hR hZ hS hFc hPc hDc hK hN) rfl rfl hl.1 rfl (lv_room (Nat.le_of_ble_eq_true rfl)) dL_law_159 ⟨Nat.le_trans (Nat.le_of_eq (Nat.add_zero _)) (by show ((((((((60 + 18) + 36) + 18) + 18) + 18) + 18) + 18) + 18) ≤ 453666; omega), Nat.le_trans (Nat.le_of_eq (Nat.add_zero _)) (by show ((((((((2000 + 253) + 506) + 253) + 253) + 253) + 253) + 253) + 253) ≤ 7741250; omega)⟩) hP hD hS hA hpm (fun r Wo30 H locs hpost hP hD hS => ?_)
  have hP : va_P g.1 vwCl Wo30 H := by have h9 := hP; rw [List.append_nil] at h9; exact h9
  have hD : va_D A Wo30 := by have h9 := hD; rw [List.append_nil] at h9; exact h9
  obtain ⟨hr, hR⟩ := hpost
  have er : r = (-1015) := by rw [hr]; exact (uw_guess (h := 0) hI (by decide)).trans um_gp_0
  rw [er]
  refine lv_sipush (v := (-1015)) hx hb dL_law_162 (by decide) ?_
  refine lv_icmp_ne (tgt := 225) hx hb dL_law_165 (by decide) (fun cc => absurd rfl cc) (fun _ => ?_)
  refine lv_aload_n hx hb dL_law_168 rfl (lv_at hl 1 rfl) ?_
  refine lv_bipush (v := 24) hx hb dL_law_169 (by decide) ?_
  have hpm : (Wo30 : va_W).Perm (Wo30 ++ ([] : va_W)) := List.Perm.of_eq (List.append_nil _).symm
  have hFc := ub_freeP hD hS hA hpm
  obtain ⟨hPc, hDc⟩ := ub_subP hP hD hpm
  refine us_calli (va_runV (As := [.int 24]) (rest := []) ⟨hx, hb, hml, hown, hts⟩ (uo_answered l g hR (x := 24)) (cwV 1 hts gu_RL_103 rfl rfl rfl ⟨rfl, uhX8_answered⟩ ⟨Nat.le_of_ble_eq_true rfl, Nat.le_of_ble_eq_true rfl⟩) (us_preO hR hZ hS hFc hPc hDc hK hN) rfl rfl hl.1 rfl (lv_room (Nat.le_of_ble_eq_true rfl)) dL_law_171 ⟨Nat.le_trans (Nat.le_of_eq (Nat.add_zero _)) (by show ((((((((60 + 18) + 36) + 18) + 18) + 18) + 18) + 18) + 18) ≤ 453666; omega), Nat.le_trans (Nat.le_of_eq (Nat.add_zero _)) (by show ((((((((2000 + 253) + 506) + 253) + 253) + 253) + 253) + 253) + 253) ≤ 7741250; omega)⟩) hP hD hS hA hpm (fun r Wo31 H locs hpost hP hD hS => ?_)
  have hP : va_P g.1 vwCl Wo31 H := by have h9 := hP; rw [List.append_nil] at h9; exact h9
  have hD : va_D A Wo31 := by have h9 := hD; rw [List.append_nil] at h9; exact h9
  obtain ⟨hr, hR⟩ := hpost
  have er : r = (-1012) := hr.trans ux_answered24
  rw [er]
  refine lv_sipush (v := (-1012)) hx hb dL_law_174 (by decide) ?_
  refine lv_icmp_ne (tgt := 225) hx hb dL_law_177 (by decide) (fun cc => absurd rfl cc) (fun _ => ?_)
  refine lv_aload_n hx hb dL_law_180 rfl (lv_at hl 1 rfl) ?_
  have hpm : (Wo31 : va_W).Perm (Wo31 ++ ([] : va_W)) := List.Perm.of_eq (List.append_nil _).symm
  have hFc := ub_freeP hD hS hA hpm
  obtain ⟨hPc, hDc⟩ := ub_subP hP hD hpm
  refine us_calld (va_runV (As := []) (rest := []) ⟨hx, hb, hml, hown, hts⟩ (uo_meanRust l g hR ) (cwV 0 hts gu_RL_136 rfl rfl rfl ⟨rfl, uhX8_meanRust⟩ ⟨Nat.le_of_ble_eq_true rfl, Nat.le_of_ble_eq_true rfl⟩) (us_preO hR hZ hS hFc hPc hDc hK hN) rfl rfl hl.1 rfl (lv_room (Nat.le_of_ble_eq_true rfl)) dL_law_181 ⟨Nat.le_trans (Nat.le_of_eq (Nat.add_zero _)) (by show ((((((((60 + 18) + 36) + 18) + 18) + 18) + 18) + 18) + 18) ≤ 453666; omega), Nat.le_trans (Nat.le_of_eq (Nat.add_zero _)) (by show ((((((((2000 + 253) + 506) + 253) + 253) + 253) + 253) + 253) + 253) ≤ 7741250; omega)⟩) hP hD hS hA hpm (fun r Wo32 H locs hpost hP hD hS => ?_)
  have hP : va_P g.1 vwCl Wo32 H := by have h9 := hP; rw [List.append_nil] at h9; exact h9
  have hD : va_D A Wo32 := by have h9 := hD; rw [List.append_nil] at h9; exact h9
  obtain ⟨hr, hR⟩ := hpost
  have er : r = FP.dconst0 := hr.trans ((uw_meanRust hI).trans (if_pos rfl))
  rw [er]
  refine lv_dconst0 hx hb dL_law_184 ?_
  refine lv_dcmp hx hb dL_law_185 ?_
  refine us_topi (x := 0) (uf_d (show FP.dconst0 &&& 0x7fffffffffffffff ≤ 0x7ff0000000000000 by decide +kernel)) ?_
  refine lv_if_ne (tgt := 225) hx hb dL_law_186 (by decide) (fun cc => absurd rfl cc) (fun _ => ?_)
  refine lv_aload_n hx hb dL_law_189 rfl (lv_at hl 1 rfl) ?_
  have hpm : (Wo32 : va_W).Perm (Wo32 ++ ([] : va_W)) := List.Perm.of_eq (List.append_nil _).symm
  have hFc := ub_freeP hD hS hA hpm
  obtain ⟨hPc, hDc⟩ := ub_subP hP hD hpm
  refine us_callf (va_runV (As := []) (rest := []) ⟨hx, hb, hml, hown, hts⟩ (uo_answerShare l g hR  (by omega)) (cwV 0 hts gu_RL_140 rfl rfl rfl ⟨rfl, uhX8_answerShare⟩ ⟨Nat.le_of_ble_eq_true rfl, Nat.le_of_ble_eq_true rfl⟩) (us_preO hR hZ hS hFc hPc hDc hK hN) rfl rfl hl.1 rfl (lv_room (Nat.le_of_ble_eq_true rfl)) dL_law_190 ⟨Nat.le_trans (Nat.le_of_eq (Nat.add_zero _)) (by show ((((((((60 + 18) + 36) + 18) + 18) + 18) + 18) + 18) + 18) ≤ 453666; omega), Nat.le_trans (Nat.le_of_eq (Nat.add_zero _)) (by show ((((((((2000 + 253) + 506) + 253) + 253) + 253) + 253) + 253) + 253) ≤ 7741250; omega)⟩) hP hD hS hA hpm (fun r Wo33 H locs hpost hP hD hS => ?_)
  have hP : va_P g.1 vwCl Wo33 H := by have h9 := hP; rw [List.append_nil] at h9; exact h9
  have hD : va_D A Wo33 := by have h9 := hD; rw [List.append_nil] at h9; exact h9
  obtain ⟨hr, hR⟩ := hpost
  have er : r = FP.fconst0 := hr.trans ((uw_answerShare hI (by omega)).trans (if_pos rfl))
  rw [er]
  refine lv_fconst0 hx hb dL_law_193 ?_
  refine lv_fcmp hx hb dL_law_194 ?_
  refine us_topi (x := 0) (uf_f (show FP.fconst0 &&& 0x7fffffff ≤ 0x7f800000 by decide +kernel)) ?_
  refine lv_if_ne (tgt := 225) hx hb dL_law_195 (by decide) (fun cc => absurd rfl cc) (fun _ => ?_)
  refine lv_aload_n hx hb dL_law_198 rfl (lv_at hl 1 rfl) ?_
  refine lv_bipush (v := 13) hx hb dL_law_199 (by decide) ?_
  have hpm : (Wo33 : va_W).Perm (Wo33 ++ ([] : va_W)) := List.Perm.of_eq (List.append_nil _).symm
  have hFc := ub_freeP hD hS hA hpm
  obtain ⟨hPc, hDc⟩ := ub_subP hP hD hpm
  refine us_calli (va_runV (As := [.int 13]) (rest := []) ⟨hx, hb, hml, hown, hts⟩ (uo_account l g hR (x := 13)) (cwV 1 hts gu_RL_34 rfl rfl rfl ⟨rfl, uhX8_account⟩ ⟨Nat.le_of_ble_eq_true rfl, Nat.le_of_ble_eq_true rfl⟩) (us_preO hR hZ hS hFc hPc hDc hK hN) rfl rfl hl.1 rfl (lv_room (Nat.le_of_ble_eq_true rfl)) dL_law_201 ⟨Nat.le_trans (Nat.le_of_eq (Nat.add_zero _)) (by show ((((((((60 + 18) + 36) + 18) + 18) + 18) + 18) + 18) + 18) ≤ 453666; omega), Nat.le_trans (Nat.le_of_eq (Nat.add_zero _)) (by show ((((((((2000 + 253) + 506) + 253) + 253) + 253) + 253) + 253) + 253) ≤ 7741250; omega)⟩) hP hD hS hA hpm (fun r Wo34 H locs hpost hP hD hS => ?_)
  have hP : va_P g.1 vwCl Wo34 H := by have h9 := hP; rw [List.append_nil] at h9; exact h9
  have hD : va_D A Wo34 := by have h9 := hD; rw [List.append_nil] at h9; exact h9
  obtain ⟨hr, hR⟩ := hpost
  have er : r = (-1012) := by rw [hr]; rfl
  rw [er]
  refine lv_sipush (v := (-1012)) hx hb dL_law_204 (by decide) ?_
  refine lv_icmp_ne (tgt := 225) hx hb dL_law_207 (by decide) (fun cc => absurd rfl cc) (fun _ => ?_)
  refine lv_aload_n hx hb dL_law_210 rfl (lv_at hl 1 rfl) ?_
  have hpm : (Wo34 : va_W).Perm (Wo34 ++ ([] : va_W)) := List.Perm.of_eq (List.append_nil _).symm
  have hFc := ub_freeP hD hS hA hpm
  obtain ⟨hPc, hDc⟩ := ub_subP hP hD hpm
  refine us_calli (va_runV (As := []) (rest := []) ⟨hx, hb, hml, hown, hts⟩ (uo_forecast l g hR ) (cwV 0 hts gu_RL_112 rfl rfl rfl ⟨rfl, uhX8_forecast⟩ ⟨Nat.le_of_ble_eq_true rfl, Nat.le_of_ble_eq_true rfl⟩) (us_preO hR hZ hS hFc hPc hDc hK hN) rfl rfl hl.1 rfl (lv_room (Nat.le_of_ble_eq_true rfl)) dL_law_211 ⟨Nat.le_trans (Nat.le_of_eq (Nat.add_zero _)) (by show ((((((((60 + 18) + 36) + 18) + 18) + 18) + 18) + 18) + 18) ≤ 453666; omega), Nat.le_trans (Nat.le_of_eq (Nat.add_zero _)) (by show ((((((((2000 + 253) + 506) + 253) + 253) + 253) + 253) + 253) + 253) ≤ 7741250; omega)⟩) hP hD hS hA hpm (fun r Wo35 H locs hpost hP hD hS => ?_)
  have hP : va_P g.1 vwCl Wo35 H := by have h9 := hP; rw [List.append_nil] at h9; exact h9
  have hD : va_D A Wo35 := by have h9 := hD; rw [List.append_nil] at h9; exact h9
  obtain ⟨hr, hR⟩ := hpost
  have er : r = 0 := hr
  rw [er]
  refine lv_if_ne (tgt := 225) hx hb dL_law_214 (by decide) (fun cc => absurd rfl cc) (fun _ => ?_)
  refine lv_aload_n hx hb dL_law_217 rfl (lv_at hl 1 rfl) ?_
  have hpm : (Wo35 : va_W).Perm (Wo35 ++ ([] : va_W)) := List.Perm.of_eq (List.append_nil _).symm
  have hFc := ub_freeP hD hS hA hpm
  obtain ⟨hPc, hDc⟩ := ub_subP hP hD hpm
  refine us_calli (va_runV (As := []) (rest := []) ⟨hx, hb, hml, hown, hts⟩ (uo_isBalanced l g hR ) (cwV 0 hts gu_RL_144 rfl rfl rfl ⟨rfl, uhX8_isBalanced⟩ ⟨Nat.le_of_ble_eq_true rfl, Nat.le_of_ble_eq_true rfl⟩) (us_preO hR hZ hS hFc hPc hDc hK hN) rfl rfl hl.1 rfl (lv_room (Nat.le_of_ble_eq_true rfl)) dL_law_218 ⟨Nat.le_trans (Nat.le_of_eq (Nat.add_zero _)) (by show ((((((((60 + 18) + 36) + 18) + 18) + 18) + 18) + 18) + 18) ≤ 453666; omega), Nat.le_trans (Nat.le_of_eq (Nat.add_zero _)) (by show ((((((((2000 + 253) + 506) + 253) + 253) + 253) + 253) + 253) + 253) ≤ 7741250; omega)⟩) hP hD hS hA hpm (fun r Wo36 H locs hpost hP hD hS => ?_)
  have hP : va_P g.1 vwCl Wo36 H := by have h9 := hP; rw [List.append_nil] at h9; exact h9
  have hD : va_D A Wo36 := by have h9 := hD; rw [List.append_nil] at h9; exact h9
  obtain ⟨hr, hR⟩ := hpost
  have er : r = 1 := hr
  rw [er]
  refine lv_iconst (v := 1) hx hb dL_law_221 (by decide) ?_
  refine lv_icmp_eq (tgt := 227) hx hb dL_law_222 (by decide) (fun _ => ?_) (fun cc => absurd rfl cc)
  refine lv_aload_n hx hb dL_law_227 rfl (lv_at hl 1 rfl) ?_
  have hpm : List.Perm (Wo36 : va_W) (Wo36 ++ ([] : va_W)) := List.Perm.of_eq (List.append_nil _).symm
  have hFc := ub_freeP hD hS hA hpm
  obtain ⟨hPc, hDc⟩ := ub_subP hP hD hpm
  refine us_calli (va_runS (As := [.ref h0]) (rest := []) ⟨hx, hb, hml, hown, hts⟩ (ul_stock l g hR (by omega)) (va_cwS 1 hts gu_RL_193 rfl rfl rfl us_hL_stock ⟨Nat.le_of_ble_eq_true rfl, Nat.le_of_ble_eq_true rfl⟩) (us_preS hZ hS hFc hPc hDc hK hN) rfl rfl hl.1 rfl (lv_room (Nat.le_of_ble_eq_true rfl)) dL_law_228 ⟨by show ((((((((60 + 18) + 36) + 18) + 18) + 18) + 18) + 18) + 18) + 252 ≤ 453666; omega, by show ((((((((2000 + 253) + 506) + 253) + 253) + 253) + 253) + 253) + 253) + 3542 ≤ 7741250; omega⟩) hP hD hS hA hpm (fun r Wo37 H locs hpost hP hD hS => ?_)
  obtain ⟨hist2, lr3, ld3, hR, hmade⟩ := hpost
  have hP : va_P g.1 vwCl Wo37 H := by have h9 := hP; rw [List.append_nil] at h9; exact h9
  have hD : va_D A Wo37 := by have h9 := hD; rw [List.append_nil] at h9; exact h9
  refine lv_istore_n (lv' := [(3, .int r), (2, .int 0), (1, .ref h0), (0, .ref b)]) hx hb dL_law_231 rfl hl (by decide) rfl (fun ls hl => ?_)
  refine lv_iconst (v := 0) hx hb dL_law_232 (by decide) ?_
  refine lv_istore (lv' := [(4, .int 0), (3, .int r), (2, .int 0), (1, .ref h0), (0, .ref b)]) hx hb dL_law_233 hl (by decide) rfl (fun ls hl => ?_)
  refine W.widen (k := 2000) (n := 20000) (by omega) (by omega) ?_
  exact ul_sixteen K0 hX hbl hbA hLs kend hmade uJ_14 (uo_W_mono (by omega) (by omega) hR) (lv_sub hl [0, 2, 3, 4, 1] rfl) hP hD hS
