/-! ===== parishes: guesses, sums, ranks, the day's line ===== -/
theorem ug_pos {f : Nat → Nat} {c h : Nat} (hI : um_I f c) (hh : h < 24) (h0 : f (211 + h) ≠ 0) : um_guess (um_pa f) (f 0) (f (211 + h)) = nI (ut_gv f h) ∧ ut_gv f h < 4 := by
  have hlt : f (211 + h) < 2 ^ f 0 := hI.2.2.2.2.2.2.2.2.2.2.2.2.2.2.2 h hh
  have hP : ∀ r, r < f 0 → um_pa f r < 4 := fun r hr => (hI.2.2.2.2.2.2.2.2.2.1 r (by have := hI.2.1; omega)).1
  obtain ⟨r, hr⟩ := Nat.exists_testBit_of_ne_zero h0
  have hrn : r < f 0 := by
    apply Nat.lt_of_not_le
    intro hle
    have := Nat.testBit_lt_two_pow (Nat.lt_of_lt_of_le hlt (Nat.pow_le_pow_right (by decide) hle))
    rw [this] at hr
    exact absurd hr (by decide)
  have hG : 0 < um_gG (um_pa f) (f 0) (f (211 + h)) (um_pa f r) := um_cnt_pos.mpr ⟨r, hrn, by rw [decide_eq_true rfl, hr]; rfl⟩
  unfold um_guess ut_gv
  rcases um_gp_inv (W := um_gW (um_pa f) (f 0)) (G := um_gG (um_pa f) (f 0) (f (211 + h))) (fun q => um_gG_le) 4 with ⟨e, h1⟩ | ⟨p, hp, e, hb⟩
  · have := h1 _ (hP r hrn)
    omega
  · rw [e]
    exact ⟨rfl, hp⟩
def ut_dd (f : Nat → Nat) : Nat → List Nat
  | 0 => []
  | i + 1 => ut_dayS f i (ut_dd f i)
theorem ut_dd_day {f : Nat → Nat} : ∀ k i, ut_day f k i (ut_dd f i) = ut_dd f (i + k)
  | 0, _ => rfl
  | k + 1, i => by
    have h := ut_dd_day (f := f) k (i + 1)
    rw [ut_day]
    rw [ut_dd] at h
    rw [h, show i + 1 + k = i + (k + 1) by omega]
theorem ut_day_dd {f : Nat → Nat} : ut_day f 24 0 [] = ut_dd f 24 := ut_dd_day 24 0
theorem ut_dd_len {f : Nat → Nat} (hg : ∀ i, i < 24 → f (211 + i) ≠ 0 → ut_gv f i < 4) : ∀ i, i ≤ 24 → (ut_dd f i).length ≤ 5 * i
  | 0, _ => Nat.le_refl 0
  | i + 1, hi => by
    have h := ut_dd_len hg i (by omega)
    rw [ut_dd]
    unfold ut_dayS
    split
    · omega
    · rename_i h0
      have h1 := (ut_num_len i).2.1
      have h2 := (ut_num_len (ut_gv f i)).2.2 (by have := hg i (by omega) h0; omega)
      have h3 : (if (ut_dd f i).length = 0 then ([] : List Nat) else [32]).length ≤ 1 := by
        split
        · exact Nat.zero_le 1
        · exact Nat.le_refl 1
      rw [List.length_append, List.length_append, List.length_append, List.length_cons]
      omega
theorem ut_dd_lt {f : Nat → Nat} (hg : ∀ i, i < 24 → f (211 + i) ≠ 0 → ut_gv f i < 4) : ∀ i, i ≤ 24 → ∀ y ∈ ut_dd f i, y < 128
  | 0, _, y, hy => absurd hy List.not_mem_nil
  | i + 1, hi, y, hy => by
    have h := ut_dd_lt hg i (by omega)
    rw [ut_dd] at hy
    unfold ut_dayS at hy
    split at hy
    · exact h y hy
    · rename_i h0
      rw [List.mem_append, List.mem_append, List.mem_append, List.mem_cons] at hy
      rcases hy with hy | hy | hy | rfl | hy
      · exact h y hy
      · split at hy
        · exact absurd hy List.not_mem_nil
        · rw [List.mem_singleton] at hy
          omega
      · exact ut_num_lt (by omega) y hy
      · decide
      · exact ut_num_lt (by have := hg i (by omega) h0; omega) y hy
theorem us_il_num : ∀ x, x < 100 → us_il_list (nI x) = ut_num x := by decide +kernel
theorem um_pop_z : um_pop 12 0 = 0 := rfl
def uz_b (f : Nat → Nat) (h : Nat) : Nat := um_pop 12 (f (211 + h))
/-- the busiest hour of the first i -/
def uz_z (f : Nat → Nat) : Nat → Int32
  | 0 => -1015
  | n + 1 => if f (211 + um_bm (uz_b f) n) = 0 then (-1015) else nI (um_bm (uz_b f) n)
theorem uz_busiest {f : Nat → Nat} {c : Nat} (hI : um_I f c) : ux_busiest f = uz_z f 24 := uw_busiest hI
theorem uz_no {f : Nat → Nat} {i : Nat} (h0 : f (211 + i) = 0) : uz_z f (i + 1) = uz_z f i := by
  have hb : uz_b f i = 0 := by
    unfold uz_b
    rw [h0]
    rfl
  cases i with
  | zero => exact if_pos h0
  | succ n =>
    show (if f (211 + um_bm (uz_b f) (n + 1)) = 0 then (-1015 : Int32) else nI (um_bm (uz_b f) (n + 1))) = _
    rw [um_bm, hb, if_neg (Nat.not_lt_zero _)]
    rfl
theorem uz_cases {f : Nat → Nat} {c : Nat} (hI : um_I f c) : ∀ i, i ≤ 24 → (uz_z f i = -1015 ∧ (i < 24 → f (211 + i) ≠ 0 → uz_z f (i + 1) = nI i)) ∨ (∃ m, m < 24 ∧ uz_z f i = nI m ∧ (i < 24 → f (211 + i) ≠ 0 → uz_z f (i + 1) = if um_pop 12 (f (211 + m)) < um_pop 12 (f (211 + i)) then nI i else nI m))
  | 0, _ => Or.inl ⟨rfl, fun _ h => if_neg h⟩
  | n + 1, hn => by
    have hm := um_bm_le (B := uz_b f) n
    have e1 : ∀ q, uz_z f (q + 1) = if f (211 + um_bm (uz_b f) q) = 0 then (-1015 : Int32) else nI (um_bm (uz_b f) q) := fun q => rfl
    by_cases h : f (211 + um_bm (uz_b f) n) = 0
    · refine Or.inl ⟨by rw [e1, if_pos h], fun hi h2 => ?_⟩
      have hlt : uz_b f (um_bm (uz_b f) n) < uz_b f (n + 1) := by
        apply Nat.lt_of_not_le
        intro hle
        have z : uz_b f (um_bm (uz_b f) n) = 0 := by
          show um_pop 12 (f (211 + um_bm (uz_b f) n)) = 0
          rw [h]
          rfl
        exact h2 ((um_pop0 (um_I_set hI hi)).mp (show uz_b f (n + 1) = 0 by omega))
      rw [e1, um_bm, if_pos hlt, if_neg h2]
    · refine Or.inr ⟨um_bm (uz_b f) n, by omega, by rw [e1, if_neg h], fun hi h2 => ?_⟩
      rw [e1, um_bm]
      show (if f (211 + (if uz_b f (um_bm (uz_b f) n) < uz_b f (n + 1) then n + 1 else um_bm (uz_b f) n)) = 0 then (-1015 : Int32) else nI (if uz_b f (um_bm (uz_b f) n) < uz_b f (n + 1) then n + 1 else um_bm (uz_b f) n)) = if uz_b f (um_bm (uz_b f) n) < uz_b f (n + 1) then nI (n + 1) else nI (um_bm (uz_b f) n)
      split <;> first | rfl | (rw [if_neg h2]) | (rw [if_neg h])
theorem ul_bitCount (l : Launch) (g : us_G) {sz x : Nat} (hx4 : x < 4096) : Met l yJ6_bitCount_0f7a4 wsJ6_bitCount_0f7a4 ({ frames := 0, cells := 0, slots := 0, locals := 0 } : Room) (va_Pc [.int (nI x)] (us_pc g [] sz)) (va_Qi (fun (r : Int32) (u : va_W) => r = nI (um_pop 12 x) ∧ u = ([] : va_W)) (fun u t => ub_pq g.1 u (va_A [] sz) t) (va_A [] sz)) 0 0 (va_A [] sz) :=
  us_frame (C := fun _ => True) (w1 := fun _ => ([] : va_W)) (fr := ([] : va_W)) (ucJ6_bitCount_0f7a4 l g.1 g.2.1 g.2.2.1 (um_pop12 x hx4)) (fun _ _ h => ⟨trivial, h⟩) (List.Perm.refl _) (fun r u h _ => ⟨[], List.Perm.refl _, h, rfl⟩)
theorem us_hJ6_bitCount_0f7a4 : yJ6_bitCount_0f7a4.cls ≠ "java/lang/invoke/MethodHandle" ∧ yJ6_bitCount_0f7a4.cls ≠ "java/lang/invoke/VarHandle" ∧ (parseMethodDescriptor yJ6_bitCount_0f7a4.desc).map (fun d => d.parameters.length) = some 1 := by decide +kernel
/-- hours guessed, parish by parish -/
theorem ug_up4 {a : Nat → Int32} {b : Nat → Nat → Bool} {P i : Nat} {x : Int32} (h : ∀ p, p < 4 → a p = nI (um_cnt (b p) i)) (hx : x = nI (um_cnt (b P) i + um_b2n (b P i))) (hne : ∀ p, p < 4 → p ≠ P → b p i = false) : ∀ p, p < 4 → upd a P x p = nI (um_cnt (b p) (i + 1)) := by
  intro p hp
  rw [um_cnt_s]
  by_cases e : p = P
  · rw [e, um_upd_at, hx]
  · rw [um_upd_other e, h p hp, hne p hp e]
    rfl
theorem ug_same4 {a : Nat → Int32} {b : Nat → Nat → Bool} {i : Nat} (h : ∀ p, p < 4 → a p = nI (um_cnt (b p) i)) (hne : ∀ p, p < 4 → b p i = false) : ∀ p, p < 4 → a p = nI (um_cnt (b p) (i + 1)) := by
  intro p hp
  rw [um_cnt_s, hne p hp, h p hp]
  rfl
theorem ug_m1015 : ∀ p, p < 4 → ¬ (-1015 : Int32) = nI p := by decide +kernel
theorem uz_ps {f : Nat → Nat} {p : Nat} : um_sum (fun r => if f (11 + 6 * r) = p then f (11 + 6 * r + 3) else 0) (f 0) = ur_ps (um_pa f) (fun r => f (14 + 6 * r)) (f 0) p :=
  um_sum_congr (fun r _ => by
    show (if f (11 + 6 * r) = p then f (11 + 6 * r + 3) else 0) = if f (11 + 6 * r) = p then f (14 + 6 * r) else 0
    rw [show 11 + 6 * r + 3 = 14 + 6 * r by omega])
theorem um_pop_lt : ∀ x, um_pop 12 x < 2 ^ 30 := fun x => by
  have h : ∀ n x, um_pop n x ≤ n := fun n => by
    induction n with
    | zero => exact fun x => Nat.le_refl 0
    | succ n ih =>
      intro x
      rw [um_pop]
      have := ih (x / 2)
      omega
  have := h 12 x
  omega
theorem uz_ps_lt {f : Nat → Nat} {c q : Nat} (hI : um_I f c) : ur_ps (um_pa f) (fun r => f (14 + 6 * r)) (f 0) q < 2 ^ 30 := by
  have h : ur_ps (um_pa f) (fun r => f (14 + 6 * r)) (f 0) q ≤ f 0 * 2 ^ 20 := um_sum_le (fun r hr => by
    show (if um_pa f r = q then f (14 + 6 * r) else 0) ≤ 2 ^ 20
    have h1 := um_I_own hI (show r < 12 by have := hI.2.1; omega)
    have h0 := hI.1
    have h5 := hI.2.2.2.2.2.1
    have h6 := hI.2.2.2.2.2.2.1
    split <;> omega)
  have := hI.2.1
  omega
theorem us_hL_parishes : yL_parishes.cls ≠ "java/lang/invoke/MethodHandle" ∧ yL_parishes.cls ≠ "java/lang/invoke/VarHandle" ∧ (parseMethodDescriptor yL_parishes.desc).map (fun d => d.parameters.length) = some 1 := by decide +kernel
set_option maxHeartbeats 4000000 in
set_option maxRecDepth 100000 in
theorem ul_parishes (l : Launch) (g : us_G) {sz : Nat} {h0 k : Nat} {f : Nat → Nat} {hist : List (Nat → Nat)} {sv : Option (Nat → Nat)} {lr ld : Int32} {L : List Nat} {Wo : va_W} (hR : uo_W g h0 k f hist sv lr ld L Wo) (hJ : uJ f) : Met l yL_parishes wsL_parishes ({ frames := 7, cells := 100, slots := 2000, locals := 160 } : Room) (va_Pc [.ref h0] (us_pc g Wo sz)) (va_Qi (fun (r : Int32) (u : va_W) => r = 1 ∧ ∃ L2 : List Nat, uo_W g h0 k f hist sv lr ld L2 u) (fun u t => ub_pq g.1 u (va_A Wo sz) t) (va_A Wo sz)) 100 2000 (va_A Wo sz) := by
  refine us_met_i (y := yL_parishes) (cc := cL_parishes) (nL := 9) (av := [.ref h0]) (post := (fun (r : Int32) (u : va_W) => r = 1 ∧ ∃ L2 : List Nat, uo_W g h0 k f hist sv lr ld L2 u)) (by decide +kernel) (Nat.le_of_ble_eq_true rfl) fun p e s m args below meth c Q A K hret ls hl hP hD hS => ?_
  obtain ⟨hx, hb, hml, hown, hts, hK, hN, hA, hZ⟩ := K
  have hl : lv_has ls 9 [(0, .ref h0)] := hl
  have hI := (uo_W_len hR).2
  have q1 : f 0 ≤ 12 := hI.2.1
  have q2 : f 1 ≤ 16 := hI.2.2.1
  have hgD := fun i (hi : i < 24) (h : f (211 + i) ≠ 0) => ug_pos hI hi h
  have hg4 := fun i (hi : i < 24) (h : f (211 + i) ≠ 0) => (ug_pos hI hi h).2
  have hP4 : ∀ r, r < f 0 → um_pa f r < 4 := fun r hr => (hI.2.2.2.2.2.2.2.2.2.1 r (by omega)).1
  have K0 : us_kx p s m args meth c cL_parishes 9 RL g A := ⟨hx, hb, hml, hown, hts, hK, hN, hA, hZ⟩
  refine lv_iconst (v := 4) hx hb dL_parishes_0 (by decide) ?_
  refine us_newi (g := g) (N := 4) hx hb (hts _ us_m115) hK hP hD hS hA (by decide) (by decide) (by decide) (by show 0 + 1 ≤ 100; omega) (by show 0 + 4 ≤ 2000; omega) dL_parishes_1 (fun q1 H hP hD hS => ?_)
  have hP : va_P g.1 vwCl ([(q1, .inl (g.2.1, 4, .inl (fun _ => 0)))] ++ Wo) H := ub_P_perm List.perm_append_comm hP
  have hD : va_D A ([(q1, .inl (g.2.1, 4, .inl (fun _ => 0)))] ++ Wo) := ub_D_perm List.perm_append_comm hD
  refine lv_astore_n (lv' := [(1, .ref q1), (0, .ref h0)]) hx hb dL_parishes_3 rfl hl (by decide) rfl (fun ls hl => ?_)
  refine lv_sipush (v := (-1015)) hx hb dL_parishes_4 (by decide) ?_
  refine lv_istore_n (lv' := [(2, .int (-1015)), (1, .ref q1), (0, .ref h0)]) hx hb dL_parishes_7 rfl hl (by decide) rfl (fun ls hl => ?_)
  refine us_sbN K0 hl.1 hP hD hS (Nat.le_of_ble_eq_true rfl) (Nat.le_of_ble_eq_true rfl) (by show (0 + 1) + 2 ≤ 100; omega) (by show (0 + 4) + 20 ≤ 2000; omega) (Nat.le_of_ble_eq_true rfl) dL_parishes_8 dL_parishes_11 dL_parishes_12 (fun b v H locs hP hD hS => ?_)
  refine W.widen (k := 3 + 0) (n := 24 + 2 * 16) (by omega) (by omega) ?_
  have hP : va_P g.1 vwCl ([(b, .inr (1, [.ref v, .int 0, .int 0, .int (nI ([]).length)])), (v, .inl (g.2.2.2.1, 16, .inl (fun _ => 0))), (q1, .inl (g.2.1, 4, .inl (fun _ => 0)))] ++ Wo) H := hP
  have hD : va_D A ([(b, .inr (1, [.ref v, .int 0, .int 0, .int (nI ([]).length)])), (v, .inl (g.2.2.2.1, 16, .inl (fun _ => 0))), (q1, .inl (g.2.1, 4, .inl (fun _ => 0)))] ++ Wo) := hD
  refine lv_astore_n (lv' := [(3, .ref b), (2, .int (-1015)), (1, .ref q1), (0, .ref h0)]) hx hb dL_parishes_15 rfl hl (by decide) rfl (fun ls hl => ?_)
  refine lv_iconst (v := 0) hx hb dL_parishes_16 (by decide) ?_
  refine lv_istore (lv' := [(4, .int 0), (3, .ref b), (2, .int (-1015)), (1, .ref q1), (0, .ref h0)]) hx hb dL_parishes_17 hl (by decide) rfl (fun ls hl => ?_)
  have loopP : ∀ (q i : Nat) (v : Nat) (cap : Nat) (k0 : Nat) (a : Nat → Int32) (ah : Nat → Int32) (la : Int32) (Wo : va_W) (H : Heap) (locs : List Loc) (ls : Array Slot), 4 = i + q → us_B (ut_dd f 24) cap k0 a → (∀ p, p < 4 → ah p = nI (um_cnt (fun h => decide (um_guess (um_pa f) (f 0) (f (211 + h)) = nI p)) 24)) → ((i = 0 ∧ la = -1) ∨ ∃ r, r < 4 ∧ ur_rk (ur_P f) 4 r + 1 = i ∧ la = nI r) → uo_W g h0 k f hist sv lr ld L Wo → lv_has ls 9 [(5, .int (nI i)), (4, .int la), (0, .ref h0), (1, .ref q1), (2, .int (uz_z f 24)), (3, .ref b)] → va_P g.1 vwCl ([(b, .inr (1, [.ref v, .int 0, .int 0, .int (nI (ut_dd f 24).length)])), (v, .inl (g.2.2.2.1, cap, .inl a)), (q1, .inl (g.2.1, 4, .inl ah))] ++ Wo) H → va_D A ([(b, .inr (1, [.ref v, .int 0, .int 0, .int (nI (ut_dd f 24).length)])), (v, .inl (g.2.2.2.1, cap, .inl a)), (q1, .inl (g.2.1, 4, .inl ah))] ++ Wo) → va_S A s.heap H locs → W p l e ({ frames := 7, cells := 100, slots := 2000, locals := 160 } : Room) s m args below meth c H locs ((51 + i) + k0) ((216 + 5 * i) + 2 * cap) Q (F0 m 168 ls []) := by
    intro q
    induction q with
    | zero =>
      intro i v cap k0 a ah la Wo H locs ls hiq hB gh hl4 hR hl hP hD hS
      have ei : i = 4 := by omega
      refine lv_iload hx hb dL_parishes_168 (lv_at hl 0 rfl) ?_
      refine lv_iconst (v := 4) hx hb dL_parishes_170 (by decide) ?_
      refine lv_icmp_ge (tgt := 435) hx hb dL_parishes_171 (by decide) (fun _ => ?_) (fun cc => absurd (nI_le (a := 4) (by omega) (by omega)) cc)
      obtain ⟨hk1, -⟩ := us_B_k hB (Nat.le_trans (ut_dd_len hg4 24 (Nat.le_refl 24)) (by omega))
      have hq1 := hB.2.2.2.2
      have hl1 := (ut_dd_len hg4 24 (Nat.le_refl 24))
      refine lv_aload_n hx hb dL_parishes_435 rfl (lv_at hl 2 rfl) ?_
      have hpm : List.Perm (([(b, .inr (1, [.ref v, .int 0, .int 0, .int (nI (ut_dd f 24).length)])), (v, .inl (g.2.2.2.1, cap, .inl a)), (q1, .inl (g.2.1, 4, .inl ah))] ++ Wo) : va_W) (Wo ++ [(b, .inr (1, [.ref v, .int 0, .int 0, .int (nI (ut_dd f 24).length)])), (v, .inl (g.2.2.2.1, cap, .inl a)), (q1, .inl (g.2.1, 4, .inl ah))]) := List.perm_append_comm
      have hFc := ub_freeP hD hS hA hpm
      obtain ⟨hPc, hDc⟩ := ub_subP hP hD hpm
      refine us_calli (va_runV (As := []) (rest := []) ⟨hx, hb, hml, hown, hts⟩ (uo_busiest l g hR ) (cwV 0 hts gu_RL_170 rfl rfl rfl ⟨rfl, uhX8_busiest⟩ ⟨Nat.le_of_ble_eq_true rfl, Nat.le_of_ble_eq_true rfl⟩) (us_preO hR hZ hS hFc hPc hDc hK hN) rfl rfl hl.1 rfl (lv_room (Nat.le_of_ble_eq_true rfl)) dL_parishes_436 ⟨Nat.le_trans (Nat.le_of_eq (Nat.add_zero _)) (by show ((51 + i) + k0) ≤ 100; omega), Nat.le_trans (Nat.le_of_eq (Nat.add_zero _)) (by show ((216 + 5 * i) + 2 * cap) ≤ 2000; omega)⟩) hP hD hS hA hpm (fun r Wo1 H locs hpost hP hD hS => ?_)
      have hP : va_P g.1 vwCl ([(b, .inr (1, [.ref v, .int 0, .int 0, .int (nI (ut_dd f 24).length)])), (v, .inl (g.2.2.2.1, cap, .inl a)), (q1, .inl (g.2.1, 4, .inl ah))] ++ Wo1) H := ub_P_perm List.perm_append_comm hP
      have hD : va_D A ([(b, .inr (1, [.ref v, .int 0, .int 0, .int (nI (ut_dd f 24).length)])), (v, .inl (g.2.2.2.1, cap, .inl a)), (q1, .inl (g.2.1, 4, .inl ah))] ++ Wo1) := ub_D_perm List.perm_append_comm hD
      obtain ⟨hr, hR⟩ := hpost
      have er : r = uz_z f 24 := hr.trans (uz_busiest hI)
      rw [er]
      refine lv_iload_n hx hb dL_parishes_439 rfl (lv_at hl 4 rfl) ?_
      refine lv_icmp_ne (tgt := 500) hx hb dL_parishes_440 (by decide) (fun cc => absurd rfl cc) (fun _ => ?_)
      refine lv_aload_n hx hb dL_parishes_443 rfl (lv_at hl 2 rfl) ?_
      refine lv_aload_n hx hb dL_parishes_444 rfl (lv_at hl 2 rfl) ?_
      have hpm : List.Perm (([(b, .inr (1, [.ref v, .int 0, .int 0, .int (nI (ut_dd f 24).length)])), (v, .inl (g.2.2.2.1, cap, .inl a)), (q1, .inl (g.2.1, 4, .inl ah))] ++ Wo1) : va_W) (Wo1 ++ [(b, .inr (1, [.ref v, .int 0, .int 0, .int (nI (ut_dd f 24).length)])), (v, .inl (g.2.2.2.1, cap, .inl a)), (q1, .inl (g.2.1, 4, .inl ah))]) := List.perm_append_comm
      have hFc := ub_freeP hD hS hA hpm
      obtain ⟨hPc, hDc⟩ := ub_subP hP hD hpm
      refine us_calli (va_runV (As := []) (rest := [.ref h0]) ⟨hx, hb, hml, hown, hts⟩ (uo_tellDay l g hR  hgD) (cwV 0 hts gu_RL_173 rfl rfl rfl ⟨rfl, uhX8_tellDay⟩ ⟨Nat.le_of_ble_eq_true rfl, Nat.le_of_ble_eq_true rfl⟩) (us_preO hR hZ hS hFc hPc hDc hK hN) rfl rfl hl.1 rfl (lv_room (Nat.le_of_ble_eq_true rfl)) dL_parishes_445 ⟨Nat.le_trans (Nat.le_of_eq (Nat.add_zero _)) (by show ((51 + i) + k0) ≤ 100; omega), Nat.le_trans (Nat.le_of_eq (Nat.add_zero _)) (by show ((216 + 5 * i) + 2 * cap) ≤ 2000; omega)⟩) hP hD hS hA hpm (fun r Wo2 H locs hpost hP hD hS => ?_)
      have hP : va_P g.1 vwCl ([(b, .inr (1, [.ref v, .int 0, .int 0, .int (nI (ut_dd f 24).length)])), (v, .inl (g.2.2.2.1, cap, .inl a)), (q1, .inl (g.2.1, 4, .inl ah))] ++ Wo2) H := ub_P_perm List.perm_append_comm hP
      have hD : va_D A ([(b, .inr (1, [.ref v, .int 0, .int 0, .int (nI (ut_dd f 24).length)])), (v, .inl (g.2.2.2.1, cap, .inl a)), (q1, .inl (g.2.1, 4, .inl ah))] ++ Wo2) := ub_D_perm List.perm_append_comm hD
      obtain ⟨hr, hR⟩ := hpost
      have er : r = nI (ut_dd f 24).length := by rw [hr, ut_day_dd]
      rw [er]
      rw [ut_day_dd] at hR
      have hLn := (uo_W_len hR).1
      have hLc := ut_dd_lt hg4 24 (Nat.le_refl 24)
      have hpm : List.Perm (([(b, .inr (1, [.ref v, .int 0, .int 0, .int (nI (ut_dd f 24).length)])), (v, .inl (g.2.2.2.1, cap, .inl a)), (q1, .inl (g.2.1, 4, .inl ah))] ++ Wo2) : va_W) (Wo2 ++ [(b, .inr (1, [.ref v, .int 0, .int 0, .int (nI (ut_dd f 24).length)])), (v, .inl (g.2.2.2.1, cap, .inl a)), (q1, .inl (g.2.1, 4, .inl ah))]) := List.perm_append_comm
      have hFc := ub_freeP hD hS hA hpm
      obtain ⟨hPc, hDc⟩ := ub_subP hP hD hpm
      refine us_callr (va_runS (As := [.ref h0, .int (nI (ut_dd f 24).length)]) (rest := []) ⟨hx, hb, hml, hown, hts⟩ (ul_line l g hR hLn hLc) (va_cwS 2 hts gu_RL_93 rfl rfl rfl us_hL_line ⟨Nat.le_of_ble_eq_true rfl, Nat.le_of_ble_eq_true rfl⟩) (us_preS hZ hS hFc hPc hDc hK hN) rfl rfl hl.1 rfl (lv_room (Nat.le_of_ble_eq_true rfl)) dL_parishes_448 ⟨by show ((51 + i) + k0) + 14 ≤ 100; omega, by show ((216 + 5 * i) + 2 * cap) + (20 + 5 * 128 + 36) ≤ 2000; omega⟩) hP hD hS hA hpm (fun r0 u H locs hpost hP hD hS => ?_)
      obtain ⟨Wo3, v0, a0, rfl, hR, hT0⟩ := hpost
      have hP : va_P g.1 vwCl ([(b, .inr (1, [.ref v, .int 0, .int 0, .int (nI (ut_dd f 24).length)])), (v, .inl (g.2.2.2.1, cap, .inl a)), (q1, .inl (g.2.1, 4, .inl ah)), (r0, .inr (0, [.ref v0, .int 0, .int 0, .int 0])), (v0, .inl (g.2.2.2.1, ((ut_dd f 24).length), .inl a0))] ++ Wo3) H := ub_P_perm us_pl hP
      have hD : va_D A ([(b, .inr (1, [.ref v, .int 0, .int 0, .int (nI (ut_dd f 24).length)])), (v, .inl (g.2.2.2.1, cap, .inl a)), (q1, .inl (g.2.1, 4, .inl ah)), (r0, .inr (0, [.ref v0, .int 0, .int 0, .int 0])), (v0, .inl (g.2.2.2.1, ((ut_dd f 24).length), .inl a0))] ++ Wo3) := ub_D_perm us_pl hD
      refine W.widen (k := ((51 + i) + 14) + k0) (n := ((216 + 5 * i) + (20 + 5 * 128 + 36)) + 2 * cap) (by omega) (by omega) ?_
      refine lv_aload_n hx hb dL_parishes_451 rfl (lv_at hl 5 rfl) ?_
      refine us_sbT (base := ((51 + i) + 14)) (bs := ((216 + 5 * i) + (20 + 5 * 128 + 36))) K0 hl.1 hP hD hS (List.Perm.refl _) hB (by omega) (Nat.le_of_ble_eq_true rfl) (Nat.le_of_ble_eq_true rfl) (by show ((51 + i) + 14) + 12 ≤ 100; omega) (by show ((216 + 5 * i) + (20 + 5 * 128 + 36)) + 5 * _ + 36 ≤ 2000; omega) (Nat.le_of_ble_eq_true rfl) dL_parishes_452 (fun r2 v2 a2 H locs hT2 hP hD hS => ?_)
      have hP : va_P g.1 vwCl ([(r2, .inr (0, [.ref v2, .int 0, .int 0, .int 0])), (v2, .inl (g.2.2.2.1, ((ut_dd f 24).length), .inl a2)), (q1, .inl (g.2.1, 4, .inl ah)), (r0, .inr (0, [.ref v0, .int 0, .int 0, .int 0])), (v0, .inl (g.2.2.2.1, ((ut_dd f 24).length), .inl a0))] ++ Wo3) H := hP
      have hD : va_D A ([(r2, .inr (0, [.ref v2, .int 0, .int 0, .int 0])), (v2, .inl (g.2.2.2.1, ((ut_dd f 24).length), .inl a2)), (q1, .inl (g.2.1, 4, .inl ah)), (r0, .inr (0, [.ref v0, .int 0, .int 0, .int 0])), (v0, .inl (g.2.2.2.1, ((ut_dd f 24).length), .inl a0))] ++ Wo3) := hD
      have hpm : List.Perm (([(r2, .inr (0, [.ref v2, .int 0, .int 0, .int 0])), (v2, .inl (g.2.2.2.1, ((ut_dd f 24).length), .inl a2)), (q1, .inl (g.2.1, 4, .inl ah)), (r0, .inr (0, [.ref v0, .int 0, .int 0, .int 0])), (v0, .inl (g.2.2.2.1, ((ut_dd f 24).length), .inl a0))] ++ Wo3) : va_W) ([(r0, .inr (0, [.ref v0, .int 0, .int 0, .int 0])), (v0, .inl (g.2.2.2.1, ((ut_dd f 24).length), .inl a0)), (r2, .inr (0, [.ref v2, .int 0, .int 0, .int 0])), (v2, .inl (g.2.2.2.1, ((ut_dd f 24).length), .inl a2))] ++ ([(q1, .inl (g.2.1, 4, .inl ah))] ++ Wo3)) := uo_P0 (ub_permN (ws := [(r2, .inr (0, [.ref v2, .int 0, .int 0, .int 0])), (v2, .inl (g.2.2.2.1, ((ut_dd f 24).length), .inl a2)), (q1, .inl (g.2.1, 4, .inl ah)), (r0, .inr (0, [.ref v0, .int 0, .int 0, .int 0])), (v0, .inl (g.2.2.2.1, ((ut_dd f 24).length), .inl a0))]) (ws' := [(r0, .inr (0, [.ref v0, .int 0, .int 0, .int 0])), (v0, .inl (g.2.2.2.1, ((ut_dd f 24).length), .inl a0)), (r2, .inr (0, [.ref v2, .int 0, .int 0, .int 0])), (v2, .inl (g.2.2.2.1, ((ut_dd f 24).length), .inl a2))] ++ [(q1, .inl (g.2.1, 4, .inl ah))]) 5 rfl [3, 4, 0, 1, 2] (by decide) rfl)
      have hFc := ub_freeP hD hS hA hpm
      obtain ⟨hPc, hDc⟩ := ub_subP hP hD hpm
      refine us_calli (va_runV (As := [.ref r2]) (rest := []) ⟨hx, hb, hml, hown, hts⟩ (uj_equals l g (n := (ut_dd f 24).length) (by omega) (fun y hy => (hT0.2 y hy).trans (hT2.2 y hy).symm)) (cwV 1 hts gu_RL_132 rfl rfl rfl ⟨rfl, us_hJ0_equals_9ea2d⟩ ⟨Nat.le_of_ble_eq_true rfl, Nat.le_of_ble_eq_true rfl⟩) (us_preV hZ hS hFc hPc hDc hK hN 0 (ci := 0) rfl rfl rfl) rfl rfl hl.1 rfl (lv_room (Nat.le_of_ble_eq_true rfl)) dL_parishes_455 ⟨Nat.le_trans (Nat.le_of_eq (Nat.add_zero _)) (by show (((51 + i) + 14) + 12) ≤ 100; omega), Nat.le_trans (Nat.le_of_eq (Nat.add_zero _)) (by show (((216 + 5 * i) + (20 + 5 * 128 + 36)) + 5 * (ut_dd f 24).length + 36) ≤ 2000; omega)⟩) hP hD hS hA hpm (fun r u H locs hpost hP hD hS => ?_)
      obtain ⟨rfl, rfl⟩ := hpost
      have hP : va_P g.1 vwCl ([(r0, .inr (0, [.ref v0, .int 0, .int 0, .int 0])), (v0, .inl (g.2.2.2.1, ((ut_dd f 24).length), .inl a0)), (r2, .inr (0, [.ref v2, .int 0, .int 0, .int 0])), (v2, .inl (g.2.2.2.1, ((ut_dd f 24).length), .inl a2)), (q1, .inl (g.2.1, 4, .inl ah))] ++ Wo3) H := hP
      have hD : va_D A ([(r0, .inr (0, [.ref v0, .int 0, .int 0, .int 0])), (v0, .inl (g.2.2.2.1, ((ut_dd f 24).length), .inl a0)), (r2, .inr (0, [.ref v2, .int 0, .int 0, .int 0])), (v2, .inl (g.2.2.2.1, ((ut_dd f 24).length), .inl a2)), (q1, .inl (g.2.1, 4, .inl ah))] ++ Wo3) := hD
      refine lv_if_eq (tgt := 500) hx hb dL_parishes_458 (by decide) (fun cc => absurd cc (show ¬ (1 : Int32) = 0 by decide)) (fun _ => ?_)
      refine lv_aload_n hx hb dL_parishes_461 rfl (lv_at hl 2 rfl) ?_
      refine lv_bipush (v := 24) hx hb dL_parishes_462 (by decide) ?_
      have hpm : List.Perm (([(r0, .inr (0, [.ref v0, .int 0, .int 0, .int 0])), (v0, .inl (g.2.2.2.1, ((ut_dd f 24).length), .inl a0)), (r2, .inr (0, [.ref v2, .int 0, .int 0, .int 0])), (v2, .inl (g.2.2.2.1, ((ut_dd f 24).length), .inl a2)), (q1, .inl (g.2.1, 4, .inl ah))] ++ Wo3) : va_W) (Wo3 ++ [(r0, .inr (0, [.ref v0, .int 0, .int 0, .int 0])), (v0, .inl (g.2.2.2.1, ((ut_dd f 24).length), .inl a0)), (r2, .inr (0, [.ref v2, .int 0, .int 0, .int 0])), (v2, .inl (g.2.2.2.1, ((ut_dd f 24).length), .inl a2)), (q1, .inl (g.2.1, 4, .inl ah))]) := List.perm_append_comm
      have hFc := ub_freeP hD hS hA hpm
      obtain ⟨hPc, hDc⟩ := ub_subP hP hD hpm
      refine us_calli (va_runV (As := [.int 24]) (rest := []) ⟨hx, hb, hml, hown, hts⟩ (uo_guess l g hR (x := 24)) (cwV 1 hts gu_RL_159 rfl rfl rfl ⟨rfl, uhX8_guess⟩ ⟨Nat.le_of_ble_eq_true rfl, Nat.le_of_ble_eq_true rfl⟩) (us_preO hR hZ hS hFc hPc hDc hK hN) rfl rfl hl.1 rfl (lv_room (Nat.le_of_ble_eq_true rfl)) dL_parishes_464 ⟨Nat.le_trans (Nat.le_of_eq (Nat.add_zero _)) (by show (((51 + i) + 14) + 12) ≤ 100; omega), Nat.le_trans (Nat.le_of_eq (Nat.add_zero _)) (by show (((216 + 5 * i) + (20 + 5 * 128 + 36)) + 5 * (ut_dd f 24).length + 36) ≤ 2000; omega)⟩) hP hD hS hA hpm (fun r Wo4 H locs hpost hP hD hS => ?_)
      have hP : va_P g.1 vwCl ([(r0, .inr (0, [.ref v0, .int 0, .int 0, .int 0])), (v0, .inl (g.2.2.2.1, ((ut_dd f 24).length), .inl a0)), (r2, .inr (0, [.ref v2, .int 0, .int 0, .int 0])), (v2, .inl (g.2.2.2.1, ((ut_dd f 24).length), .inl a2)), (q1, .inl (g.2.1, 4, .inl ah))] ++ Wo4) H := ub_P_perm List.perm_append_comm hP
      have hD : va_D A ([(r0, .inr (0, [.ref v0, .int 0, .int 0, .int 0])), (v0, .inl (g.2.2.2.1, ((ut_dd f 24).length), .inl a0)), (r2, .inr (0, [.ref v2, .int 0, .int 0, .int 0])), (v2, .inl (g.2.2.2.1, ((ut_dd f 24).length), .inl a2)), (q1, .inl (g.2.1, 4, .inl ah))] ++ Wo4) := ub_D_perm List.perm_append_comm hD
      obtain ⟨hr, hR⟩ := hpost
      have er : r = (-1012) := hr.trans uw_guess24
      rw [er]
      refine lv_sipush (v := (-1012)) hx hb dL_parishes_467 (by decide) ?_
      refine lv_icmp_ne (tgt := 500) hx hb dL_parishes_470 (by decide) (fun cc => absurd rfl cc) (fun _ => ?_)
      refine lv_aload_n hx hb dL_parishes_473 rfl (lv_at hl 2 rfl) ?_
      refine lv_iconst (v := 4) hx hb dL_parishes_474 (by decide) ?_
      have hpm : List.Perm (([(r0, .inr (0, [.ref v0, .int 0, .int 0, .int 0])), (v0, .inl (g.2.2.2.1, ((ut_dd f 24).length), .inl a0)), (r2, .inr (0, [.ref v2, .int 0, .int 0, .int 0])), (v2, .inl (g.2.2.2.1, ((ut_dd f 24).length), .inl a2)), (q1, .inl (g.2.1, 4, .inl ah))] ++ Wo4) : va_W) (Wo4 ++ [(r0, .inr (0, [.ref v0, .int 0, .int 0, .int 0])), (v0, .inl (g.2.2.2.1, ((ut_dd f 24).length), .inl a0)), (r2, .inr (0, [.ref v2, .int 0, .int 0, .int 0])), (v2, .inl (g.2.2.2.1, ((ut_dd f 24).length), .inl a2)), (q1, .inl (g.2.1, 4, .inl ah))]) := List.perm_append_comm
      have hFc := ub_freeP hD hS hA hpm
      obtain ⟨hPc, hDc⟩ := ub_subP hP hD hpm
      refine us_calli (va_runV (As := [.int 4]) (rest := []) ⟨hx, hb, hml, hown, hts⟩ (uo_ranked l g hR (x := 4)) (cwV 1 hts gu_RL_167 rfl rfl rfl ⟨rfl, uhX8_ranked⟩ ⟨Nat.le_of_ble_eq_true rfl, Nat.le_of_ble_eq_true rfl⟩) (us_preO hR hZ hS hFc hPc hDc hK hN) rfl rfl hl.1 rfl (lv_room (Nat.le_of_ble_eq_true rfl)) dL_parishes_475 ⟨Nat.le_trans (Nat.le_of_eq (Nat.add_zero _)) (by show (((51 + i) + 14) + 12) ≤ 100; omega), Nat.le_trans (Nat.le_of_eq (Nat.add_zero _)) (by show (((216 + 5 * i) + (20 + 5 * 128 + 36)) + 5 * (ut_dd f 24).length + 36) ≤ 2000; omega)⟩) hP hD hS hA hpm (fun r Wo5 H locs hpost hP hD hS => ?_)
      have hP : va_P g.1 vwCl ([(r0, .inr (0, [.ref v0, .int 0, .int 0, .int 0])), (v0, .inl (g.2.2.2.1, ((ut_dd f 24).length), .inl a0)), (r2, .inr (0, [.ref v2, .int 0, .int 0, .int 0])), (v2, .inl (g.2.2.2.1, ((ut_dd f 24).length), .inl a2)), (q1, .inl (g.2.1, 4, .inl ah))] ++ Wo5) H := ub_P_perm List.perm_append_comm hP
      have hD : va_D A ([(r0, .inr (0, [.ref v0, .int 0, .int 0, .int 0])), (v0, .inl (g.2.2.2.1, ((ut_dd f 24).length), .inl a0)), (r2, .inr (0, [.ref v2, .int 0, .int 0, .int 0])), (v2, .inl (g.2.2.2.1, ((ut_dd f 24).length), .inl a2)), (q1, .inl (g.2.1, 4, .inl ah))] ++ Wo5) := ub_D_perm List.perm_append_comm hD
      obtain ⟨hr, hR⟩ := hpost
      have er : r = (-1011) := hr.trans (ur_rankedNo hI)
      rw [er]
      refine lv_sipush (v := (-1011)) hx hb dL_parishes_478 (by decide) ?_
      refine lv_icmp_ne (tgt := 500) hx hb dL_parishes_481 (by decide) (fun cc => absurd rfl cc) (fun _ => ?_)
      refine lv_aload_n hx hb dL_parishes_484 rfl (lv_at hl 2 rfl) ?_
      refine lv_iconst (v := 4) hx hb dL_parishes_485 (by decide) ?_
      refine lv_iconst (v := 0) hx hb dL_parishes_486 (by decide) ?_
      have hpm : List.Perm (([(r0, .inr (0, [.ref v0, .int 0, .int 0, .int 0])), (v0, .inl (g.2.2.2.1, ((ut_dd f 24).length), .inl a0)), (r2, .inr (0, [.ref v2, .int 0, .int 0, .int 0])), (v2, .inl (g.2.2.2.1, ((ut_dd f 24).length), .inl a2)), (q1, .inl (g.2.1, 4, .inl ah))] ++ Wo5) : va_W) (Wo5 ++ [(r0, .inr (0, [.ref v0, .int 0, .int 0, .int 0])), (v0, .inl (g.2.2.2.1, ((ut_dd f 24).length), .inl a0)), (r2, .inr (0, [.ref v2, .int 0, .int 0, .int 0])), (v2, .inl (g.2.2.2.1, ((ut_dd f 24).length), .inl a2)), (q1, .inl (g.2.1, 4, .inl ah))]) := List.perm_append_comm
      have hFc := ub_freeP hD hS hA hpm
      obtain ⟨hPc, hDc⟩ := ub_subP hP hD hpm
      refine us_calli (va_runV (As := [.int 4, .int 0]) (rest := []) ⟨hx, hb, hml, hown, hts⟩ (uo_parishOf l g hR (x := 4) (v := 0)) (cwV 2 hts gu_RL_164 rfl rfl rfl ⟨rfl, uhX8_parishOf⟩ ⟨Nat.le_of_ble_eq_true rfl, Nat.le_of_ble_eq_true rfl⟩) (us_preO hR hZ hS hFc hPc hDc hK hN) rfl rfl hl.1 rfl (lv_room (Nat.le_of_ble_eq_true rfl)) dL_parishes_487 ⟨Nat.le_trans (Nat.le_of_eq (Nat.add_zero _)) (by show (((51 + i) + 14) + 12) ≤ 100; omega), Nat.le_trans (Nat.le_of_eq (Nat.add_zero _)) (by show (((216 + 5 * i) + (20 + 5 * 128 + 36)) + 5 * (ut_dd f 24).length + 36) ≤ 2000; omega)⟩) hP hD hS hA hpm (fun r Wo6 H locs hpost hP hD hS => ?_)
      have hP : va_P g.1 vwCl ([(r0, .inr (0, [.ref v0, .int 0, .int 0, .int 0])), (v0, .inl (g.2.2.2.1, ((ut_dd f 24).length), .inl a0)), (r2, .inr (0, [.ref v2, .int 0, .int 0, .int 0])), (v2, .inl (g.2.2.2.1, ((ut_dd f 24).length), .inl a2)), (q1, .inl (g.2.1, 4, .inl ah))] ++ Wo6) H := ub_P_perm List.perm_append_comm hP
      have hD : va_D A ([(r0, .inr (0, [.ref v0, .int 0, .int 0, .int 0])), (v0, .inl (g.2.2.2.1, ((ut_dd f 24).length), .inl a0)), (r2, .inr (0, [.ref v2, .int 0, .int 0, .int 0])), (v2, .inl (g.2.2.2.1, ((ut_dd f 24).length), .inl a2)), (q1, .inl (g.2.1, 4, .inl ah))] ++ Wo6) := ub_D_perm List.perm_append_comm hD
      obtain ⟨hr, hR⟩ := hpost
      have er : r = (-1011) := hr.trans uw_parishOfNo
      rw [er]
      refine lv_sipush (v := (-1011)) hx hb dL_parishes_490 (by decide) ?_
      refine lv_icmp_ne (tgt := 500) hx hb dL_parishes_493 (by decide) (fun cc => absurd rfl cc) (fun _ => ?_)
      refine lv_iconst (v := 1) hx hb dL_parishes_496 (by decide) ?_
      refine lv_goto (tgt := 501) hx hb dL_parishes_497 (by decide) ?_
      have hP : va_P g.1 vwCl Wo6 H := us_dropP hP
      have hD : va_D A Wo6 := us_dropD hD
      refine W.widen (k := 100) (n := 2000) (by omega) (by omega) ?_
      exact hret _ _ _ _ _ ls ⟨rfl, _, hR⟩ dL_parishes_501 rfl hP hD hS
    | succ q ih =>
      intro i v cap k0 a ah la Wo H locs ls hiq hB gh hl4 hR hl hP hD hS
      have hi4 : i < 4 := by omega
      obtain ⟨rk, k1, k2, k3⟩ := ur_ranked hI hi4
      obtain ⟨hk2, -⟩ := us_B_k hB (Nat.le_trans (ut_dd_len hg4 24 (Nat.le_refl 24)) (by omega))
      have hq2 := hB.2.2.2.2
      have hl2 := (ut_dd_len hg4 24 (Nat.le_refl 24))
      refine lv_iload hx hb dL_parishes_168 (lv_at hl 0 rfl) ?_
      refine lv_iconst (v := 4) hx hb dL_parishes_170 (by decide) ?_
      refine lv_icmp_ge (tgt := 435) hx hb dL_parishes_171 (by decide) (fun cc => absurd cc (nI_ge (b := 4) (by omega) (by decide))) (fun _ => ?_)
      refine lv_iconst (v := 5) hx hb dL_parishes_174 (by decide) ?_
      refine us_newi (g := g) (N := 5) hx hb (hts _ us_m115) hK hP hD hS hA (by decide) (by decide) (by decide) (by show ((51 + i) + k0) + 1 ≤ 100; omega) (by show ((216 + 5 * i) + 2 * cap) + 5 ≤ 2000; omega) dL_parishes_175 (fun q6 H hP hD hS => ?_)
      have hP : va_P g.1 vwCl ([(b, .inr (1, [.ref v, .int 0, .int 0, .int (nI (ut_dd f 24).length)])), (v, .inl (g.2.2.2.1, cap, .inl a)), (q1, .inl (g.2.1, 4, .inl ah)), (q6, .inl (g.2.1, 5, .inl (fun _ => 0)))] ++ Wo) H := ub_P_perm us_pn hP
      have hD : va_D A ([(b, .inr (1, [.ref v, .int 0, .int 0, .int (nI (ut_dd f 24).length)])), (v, .inl (g.2.2.2.1, cap, .inl a)), (q1, .inl (g.2.1, 4, .inl ah)), (q6, .inl (g.2.1, 5, .inl (fun _ => 0)))] ++ Wo) := ub_D_perm us_pn hD
      refine W.widen (k := ((51 + i) + 1) + k0) (n := ((216 + 5 * i) + 5) + 2 * cap) (by omega) (by omega) ?_
      refine lv_astore (lv' := [(6, .ref q6), (5, .int (nI i)), (4, .int la), (0, .ref h0), (1, .ref q1), (2, .int (uz_z f 24)), (3, .ref b)]) hx hb dL_parishes_177 hl (by decide) rfl (fun ls hl => ?_)
      refine lv_iconst (v := 0) hx hb dL_parishes_179 (by decide) ?_
      refine lv_istore (lv' := [(7, .int 0), (6, .ref q6), (5, .int (nI i)), (4, .int la), (0, .ref h0), (1, .ref q1), (2, .int (uz_z f 24)), (3, .ref b)]) hx hb dL_parishes_180 hl (by decide) rfl (fun ls hl => ?_)
      have loopS : ∀ (q8 n : Nat) (s5 : Nat → Int32) (Wo : va_W) (H : Heap) (locs : List Loc) (ls : Array Slot), f 0 = n + q8 → s5 0 = nI (um_sum (fun r => um_b2n (decide (um_pa f r = i))) n) → s5 1 = nI (um_sum (fun r => if f (11 + 6 * r) = i then f (11 + 6 * r + 3) else 0) n) → s5 2 = nI (um_sum (fun r => if f (11 + 6 * r) = i then f (11 + 6 * r + 2) else 0) n) → s5 4 = nI (um_sum (fun r => if f (11 + 6 * r) = i then um_cnt (fun k => decide (f (83 + 3 * k) = r)) (f 1) else 0) n) → s5 3 = 0 → uo_W g h0 k f hist sv lr ld L Wo → lv_has ls 9 [(7, .int (nI n)), (6, .ref q6), (5, .int (nI i)), (4, .int la), (0, .ref h0), (1, .ref q1), (2, .int (uz_z f 24)), (3, .ref b)] → va_P g.1 vwCl ([(b, .inr (1, [.ref v, .int 0, .int 0, .int (nI (ut_dd f 24).length)])), (v, .inl (g.2.2.2.1, cap, .inl a)), (q1, .inl (g.2.1, 4, .inl ah)), (q6, .inl (g.2.1, 5, .inl s5))] ++ Wo) H → va_D A ([(b, .inr (1, [.ref v, .int 0, .int 0, .int (nI (ut_dd f 24).length)])), (v, .inl (g.2.2.2.1, cap, .inl a)), (q1, .inl (g.2.1, 4, .inl ah)), (q6, .inl (g.2.1, 5, .inl s5))] ++ Wo) → va_S A s.heap H locs → W p l e ({ frames := 7, cells := 100, slots := 2000, locals := 160 } : Room) s m args below meth c H locs (((51 + i) + 1) + k0) (((216 + 5 * i) + 5) + 2 * cap) Q (F0 m 182 ls []) := by
        intro q8
        induction q8 with
        | zero =>
          intro n s5 Wo H locs ls hiq8 s0 s1 s2 s4 s3 hR hl hP hD hS
          have en : n = f 0 := by omega
          refine lv_iload hx hb dL_parishes_182 (lv_at hl 0 rfl) ?_
          refine lv_aload_n hx hb dL_parishes_184 rfl (lv_at hl 4 rfl) ?_
          refine lv_iconst (v := 0) hx hb dL_parishes_185 (by decide) ?_
          have hpm : List.Perm (([(b, .inr (1, [.ref v, .int 0, .int 0, .int (nI (ut_dd f 24).length)])), (v, .inl (g.2.2.2.1, cap, .inl a)), (q1, .inl (g.2.1, 4, .inl ah)), (q6, .inl (g.2.1, 5, .inl s5))] ++ Wo) : va_W) (Wo ++ [(b, .inr (1, [.ref v, .int 0, .int 0, .int (nI (ut_dd f 24).length)])), (v, .inl (g.2.2.2.1, cap, .inl a)), (q1, .inl (g.2.1, 4, .inl ah)), (q6, .inl (g.2.1, 5, .inl s5))]) := List.perm_append_comm
          have hFc := ub_freeP hD hS hA hpm
          obtain ⟨hPc, hDc⟩ := ub_subP hP hD hpm
          refine us_calli (va_runV (As := [.int 0]) (rest := [.int (nI n)]) ⟨hx, hb, hml, hown, hts⟩ (uo_account l g hR (x := 0)) (cwV 1 hts gu_RL_34 rfl rfl rfl ⟨rfl, uhX8_account⟩ ⟨Nat.le_of_ble_eq_true rfl, Nat.le_of_ble_eq_true rfl⟩) (us_preO hR hZ hS hFc hPc hDc hK hN) rfl rfl hl.1 rfl (lv_room (Nat.le_of_ble_eq_true rfl)) dL_parishes_186 ⟨Nat.le_trans (Nat.le_of_eq (Nat.add_zero _)) (by show (((51 + i) + 1) + k0) ≤ 100; omega), Nat.le_trans (Nat.le_of_eq (Nat.add_zero _)) (by show (((216 + 5 * i) + 5) + 2 * cap) ≤ 2000; omega)⟩) hP hD hS hA hpm (fun r Wo7 H locs hpost hP hD hS => ?_)
          have hP : va_P g.1 vwCl ([(b, .inr (1, [.ref v, .int 0, .int 0, .int (nI (ut_dd f 24).length)])), (v, .inl (g.2.2.2.1, cap, .inl a)), (q1, .inl (g.2.1, 4, .inl ah)), (q6, .inl (g.2.1, 5, .inl s5))] ++ Wo7) H := ub_P_perm List.perm_append_comm hP
          have hD : va_D A ([(b, .inr (1, [.ref v, .int 0, .int 0, .int (nI (ut_dd f 24).length)])), (v, .inl (g.2.2.2.1, cap, .inl a)), (q1, .inl (g.2.1, 4, .inl ah)), (q6, .inl (g.2.1, 5, .inl s5))] ++ Wo7) := ub_D_perm List.perm_append_comm hD
          obtain ⟨hr, hR⟩ := hpost
          have er : r = nI (f 0) := by rw [hr]; rfl
          rw [er]
          refine lv_icmp_ge (tgt := 304) hx hb dL_parishes_189 (by decide) (fun _ => ?_) (fun cc => absurd (nI_le (by omega) (by omega)) cc)
          rw [en] at s0 s1 s2 s4
          refine lv_aload hx hb dL_parishes_304 (lv_at hl 1 rfl) ?_
          refine lv_iconst (v := 3) hx hb dL_parishes_306 (by decide) ?_
          refine lv_aload_n hx hb dL_parishes_307 rfl (lv_at hl 5 rfl) ?_
          refine lv_iload hx hb dL_parishes_308 (lv_at hl 2 rfl) ?_
          refine va_iald hx hb hK hP 2 0 rfl rfl (i := nI i) (vp_in_nI hi4 (by decide)) dL_parishes_310 ?_
          refine us_topi (x := nI (um_cnt (fun h => decide (um_guess (um_pa f) (f 0) (f (211 + h)) = nI i)) 24)) (by rw [nI_clamp (by omega)]; exact gh i hi4) ?_
          refine va_iast hx hb hK hP hD hS 3 0 rfl rfl (i := nI 3) (vp_in_nI (n := 3) (by decide) (by decide)) dL_parishes_311 (fun H locs hP hD hS => ?_)
          rw [nI_clamp (show 3 < 2 ^ 31 by omega)] at hP hD
          have hP : va_P g.1 vwCl ([(b, .inr (1, [.ref v, .int 0, .int 0, .int (nI (ut_dd f 24).length)])), (v, .inl (g.2.2.2.1, cap, .inl a)), (q1, .inl (g.2.1, 4, .inl ah)), (q6, .inl (g.2.1, 5, .inl (upd s5 3 (nI (um_cnt (fun h => decide (um_guess (um_pa f) (f 0) (f (211 + h)) = nI i)) 24)))))] ++ Wo7) H := hP
          have hD : va_D A ([(b, .inr (1, [.ref v, .int 0, .int 0, .int (nI (ut_dd f 24).length)])), (v, .inl (g.2.2.2.1, cap, .inl a)), (q1, .inl (g.2.1, 4, .inl ah)), (q6, .inl (g.2.1, 5, .inl (upd s5 3 (nI (um_cnt (fun h => decide (um_guess (um_pa f) (f 0) (f (211 + h)) = nI i)) 24)))))] ++ Wo7) := hD
          refine lv_iconst (v := 0) hx hb dL_parishes_312 (by decide) ?_
          refine lv_istore (lv' := [(7, .int 0), (6, .ref q6), (5, .int (nI i)), (4, .int la), (0, .ref h0), (1, .ref q1), (2, .int (uz_z f 24)), (3, .ref b)]) hx hb dL_parishes_313 hl (by decide) rfl (fun ls hl => ?_)
          have hall : ∀ y, y < 5 → (upd s5 3 (nI (um_cnt (fun h => decide (um_guess (um_pa f) (f 0) (f (211 + h)) = nI i)) 24))) y = ux_parishOf f (nI i) (nI y) := by
            intro y hy
            rcases (show y = 0 ∨ y = 1 ∨ y = 2 ∨ y = 3 ∨ y = 4 by omega) with rfl | rfl | rfl | rfl | rfl
            · exact (show _ = nI (um_gW (um_pa f) (f 0) i) from s0).trans (uw_parishOf0 hI hi4).symm
            · exact s1.trans (uw_parishOf1 hI hi4).symm
            · exact s2.trans (uw_parishOf2 hI hi4).symm
            · exact (show _ = nI (um_cnt (fun h => decide (um_guess (um_pa f) (f 0) (f (211 + h)) = nI i)) 24) from rfl).trans (uw_parishOf3 hI hi4).symm
            · exact s4.trans (uw_parishOf4 hI hi4).symm
          generalize (upd s5 3 (nI (um_cnt (fun h => decide (um_guess (um_pa f) (f 0) (f (211 + h)) = nI i)) 24))) = s6 at *
          have loopW : ∀ (q9 y : Nat) (Wo : va_W) (H : Heap) (locs : List Loc) (ls : Array Slot), 5 = y + q9 → uo_W g h0 k f hist sv lr ld L Wo → lv_has ls 9 [(7, .int (nI y)), (6, .ref q6), (5, .int (nI i)), (4, .int la), (0, .ref h0), (1, .ref q1), (2, .int (uz_z f 24)), (3, .ref b)] → va_P g.1 vwCl ([(b, .inr (1, [.ref v, .int 0, .int 0, .int (nI (ut_dd f 24).length)])), (v, .inl (g.2.2.2.1, cap, .inl a)), (q1, .inl (g.2.1, 4, .inl ah)), (q6, .inl (g.2.1, 5, .inl s6))] ++ Wo) H → va_D A ([(b, .inr (1, [.ref v, .int 0, .int 0, .int (nI (ut_dd f 24).length)])), (v, .inl (g.2.2.2.1, cap, .inl a)), (q1, .inl (g.2.1, 4, .inl ah)), (q6, .inl (g.2.1, 5, .inl s6))] ++ Wo) → va_S A s.heap H locs → W p l e ({ frames := 7, cells := 100, slots := 2000, locals := 160 } : Room) s m args below meth c H locs (((51 + i) + 1) + k0) (((216 + 5 * i) + 5) + 2 * cap) Q (F0 m 315 ls []) := by
            intro q9
            induction q9 with
            | zero =>
              intro y Wo H locs ls hiq9 hR hl hP hD hS
              have ey : y = 5 := by omega
              refine lv_iload hx hb dL_parishes_315 (lv_at hl 0 rfl) ?_
              refine lv_iconst (v := 5) hx hb dL_parishes_317 (by decide) ?_
              refine lv_icmp_ge (tgt := 345) hx hb dL_parishes_318 (by decide) (fun _ => ?_) (fun cc => absurd (nI_le (a := 5) (by omega) (by omega)) cc)
              refine lv_aload_n hx hb dL_parishes_345 rfl (lv_at hl 4 rfl) ?_
              refine lv_iload hx hb dL_parishes_346 (lv_at hl 2 rfl) ?_
              have hpm : List.Perm (([(b, .inr (1, [.ref v, .int 0, .int 0, .int (nI (ut_dd f 24).length)])), (v, .inl (g.2.2.2.1, cap, .inl a)), (q1, .inl (g.2.1, 4, .inl ah)), (q6, .inl (g.2.1, 5, .inl s6))] ++ Wo) : va_W) (Wo ++ [(b, .inr (1, [.ref v, .int 0, .int 0, .int (nI (ut_dd f 24).length)])), (v, .inl (g.2.2.2.1, cap, .inl a)), (q1, .inl (g.2.1, 4, .inl ah)), (q6, .inl (g.2.1, 5, .inl s6))]) := List.perm_append_comm
              have hFc := ub_freeP hD hS hA hpm
              obtain ⟨hPc, hDc⟩ := ub_subP hP hD hpm
              refine us_calli (va_runV (As := [.int (nI i)]) (rest := []) ⟨hx, hb, hml, hown, hts⟩ (uo_ranked l g hR (x := (nI i))) (cwV 1 hts gu_RL_167 rfl rfl rfl ⟨rfl, uhX8_ranked⟩ ⟨Nat.le_of_ble_eq_true rfl, Nat.le_of_ble_eq_true rfl⟩) (us_preO hR hZ hS hFc hPc hDc hK hN) rfl rfl hl.1 rfl (lv_room (Nat.le_of_ble_eq_true rfl)) dL_parishes_348 ⟨Nat.le_trans (Nat.le_of_eq (Nat.add_zero _)) (by show (((51 + i) + 1) + k0) ≤ 100; omega), Nat.le_trans (Nat.le_of_eq (Nat.add_zero _)) (by show (((216 + 5 * i) + 5) + 2 * cap) ≤ 2000; omega)⟩) hP hD hS hA hpm (fun r Wo8 H locs hpost hP hD hS => ?_)
              have hP : va_P g.1 vwCl ([(b, .inr (1, [.ref v, .int 0, .int 0, .int (nI (ut_dd f 24).length)])), (v, .inl (g.2.2.2.1, cap, .inl a)), (q1, .inl (g.2.1, 4, .inl ah)), (q6, .inl (g.2.1, 5, .inl s6))] ++ Wo8) H := ub_P_perm List.perm_append_comm hP
              have hD : va_D A ([(b, .inr (1, [.ref v, .int 0, .int 0, .int (nI (ut_dd f 24).length)])), (v, .inl (g.2.2.2.1, cap, .inl a)), (q1, .inl (g.2.1, 4, .inl ah)), (q6, .inl (g.2.1, 5, .inl s6))] ++ Wo8) := ub_D_perm List.perm_append_comm hD
              obtain ⟨hr, hR⟩ := hpost
              have er : r = nI rk := hr.trans k3
              rw [er]
              refine lv_istore (lv' := [(7, .int (nI rk)), (6, .ref q6), (5, .int (nI i)), (4, .int la), (0, .ref h0), (1, .ref q1), (2, .int (uz_z f 24)), (3, .ref b)]) hx hb dL_parishes_351 hl (by decide) rfl (fun ls hl => ?_)
              have J406 : ∀ (by0 : Int32) (Wo : va_W) (H : Heap) (locs : List Loc) (ls : Array Slot), ¬ by0 < 0 → (by0 = 0 → la ≤ nI rk) → uo_W g h0 k f hist sv lr ld L Wo → lv_has ls 9 [(8, .int by0), (7, .int (nI rk)), (6, .ref q6), (5, .int (nI i)), (4, .int la), (0, .ref h0), (1, .ref q1), (2, .int (uz_z f 24)), (3, .ref b)] → va_P g.1 vwCl ([(b, .inr (1, [.ref v, .int 0, .int 0, .int (nI (ut_dd f 24).length)])), (v, .inl (g.2.2.2.1, cap, .inl a)), (q1, .inl (g.2.1, 4, .inl ah)), (q6, .inl (g.2.1, 5, .inl s6))] ++ Wo) H → va_D A ([(b, .inr (1, [.ref v, .int 0, .int 0, .int (nI (ut_dd f 24).length)])), (v, .inl (g.2.2.2.1, cap, .inl a)), (q1, .inl (g.2.1, 4, .inl ah)), (q6, .inl (g.2.1, 5, .inl s6))] ++ Wo) → va_S A s.heap H locs → W p l e ({ frames := 7, cells := 100, slots := 2000, locals := 160 } : Room) s m args below meth c H locs (((51 + i) + 1) + k0) (((216 + 5 * i) + 5) + 2 * cap) Q (F0 m 406 ls []) := by
                intro by0 Wo H locs ls hby hge hR hl hP hD hS
                refine lv_iload hx hb dL_parishes_406 (lv_at hl 0 rfl) ?_
                refine lv_if_lt (tgt := 423) hx hb dL_parishes_408 (by decide) (fun cc => absurd cc hby) (fun _ => ?_)
                refine lv_iload hx hb dL_parishes_411 (lv_at hl 0 rfl) ?_
                by_cases hz : by0 = 0
                · refine lv_if_ne (tgt := 425) hx hb dL_parishes_413 (by decide) (fun cc => absurd hz cc) (fun _ => ?_)
                  refine lv_iload hx hb dL_parishes_416 (lv_at hl 1 rfl) ?_
                  refine lv_iload hx hb dL_parishes_418 (lv_at hl 4 rfl) ?_
                  refine lv_icmp_ge (tgt := 425) hx hb dL_parishes_420 (by decide) (fun _ => ?_) (fun cc => absurd (hge hz) cc)
                  refine lv_iload hx hb dL_parishes_425 (lv_at hl 1 rfl) ?_
                  refine lv_istore (lv' := [(4, .int (nI rk)), (8, .int by0), (7, .int (nI rk)), (6, .ref q6), (5, .int (nI i)), (0, .ref h0), (1, .ref q1), (2, .int (uz_z f 24)), (3, .ref b)]) hx hb dL_parishes_427 hl (by decide) rfl (fun ls hl => ?_)
                  refine lv_iinc (v := nI i + 1) (lv' := [(5, .int (nI i + 1)), (4, .int (nI rk)), (8, .int by0), (7, .int (nI rk)), (6, .ref q6), (0, .ref h0), (1, .ref q1), (2, .int (uz_z f 24)), (3, .ref b)]) hx hb dL_parishes_429 hl (k := 4) rfl rfl (by decide) rfl (fun ls hl => ?_)
                  refine lv_goto (tgt := 168) hx hb dL_parishes_432 (by decide) ?_
                  rw [nI_1] at hl
                  have hP : va_P g.1 vwCl ([(b, .inr (1, [.ref v, .int 0, .int 0, .int (nI (ut_dd f 24).length)])), (v, .inl (g.2.2.2.1, cap, .inl a)), (q1, .inl (g.2.1, 4, .inl ah))] ++ Wo) H := us_keepP (List.Sublist.cons₂ _ (List.Sublist.cons₂ _ (List.Sublist.cons₂ _ (List.Sublist.cons _ List.Sublist.slnil)))) hP
                  have hD : va_D A ([(b, .inr (1, [.ref v, .int 0, .int 0, .int (nI (ut_dd f 24).length)])), (v, .inl (g.2.2.2.1, cap, .inl a)), (q1, .inl (g.2.1, 4, .inl ah))] ++ Wo) := us_keepD (List.Sublist.cons₂ _ (List.Sublist.cons₂ _ (List.Sublist.cons₂ _ (List.Sublist.cons _ List.Sublist.slnil)))) hD
                  exact ih (i + 1) v cap k0 a ah (nI rk) Wo _ _ ls (by omega) hB gh (Or.inr ⟨rk, k1, by omega, rfl⟩) hR (lv_sub hl [0, 1, 5, 6, 7, 8] rfl) hP hD hS
                · refine lv_if_ne (tgt := 425) hx hb dL_parishes_413 (by decide) (fun _ => ?_) (fun cc => absurd cc hz)
                  refine lv_iload hx hb dL_parishes_425 (lv_at hl 1 rfl) ?_
                  refine lv_istore (lv' := [(4, .int (nI rk)), (8, .int by0), (7, .int (nI rk)), (6, .ref q6), (5, .int (nI i)), (0, .ref h0), (1, .ref q1), (2, .int (uz_z f 24)), (3, .ref b)]) hx hb dL_parishes_427 hl (by decide) rfl (fun ls hl => ?_)
                  refine lv_iinc (v := nI i + 1) (lv' := [(5, .int (nI i + 1)), (4, .int (nI rk)), (8, .int by0), (7, .int (nI rk)), (6, .ref q6), (0, .ref h0), (1, .ref q1), (2, .int (uz_z f 24)), (3, .ref b)]) hx hb dL_parishes_429 hl (k := 4) rfl rfl (by decide) rfl (fun ls hl => ?_)
                  refine lv_goto (tgt := 168) hx hb dL_parishes_432 (by decide) ?_
                  rw [nI_1] at hl
                  have hP : va_P g.1 vwCl ([(b, .inr (1, [.ref v, .int 0, .int 0, .int (nI (ut_dd f 24).length)])), (v, .inl (g.2.2.2.1, cap, .inl a)), (q1, .inl (g.2.1, 4, .inl ah))] ++ Wo) H := us_keepP (List.Sublist.cons₂ _ (List.Sublist.cons₂ _ (List.Sublist.cons₂ _ (List.Sublist.cons _ List.Sublist.slnil)))) hP
                  have hD : va_D A ([(b, .inr (1, [.ref v, .int 0, .int 0, .int (nI (ut_dd f 24).length)])), (v, .inl (g.2.2.2.1, cap, .inl a)), (q1, .inl (g.2.1, 4, .inl ah))] ++ Wo) := us_keepD (List.Sublist.cons₂ _ (List.Sublist.cons₂ _ (List.Sublist.cons₂ _ (List.Sublist.cons _ List.Sublist.slnil)))) hD
                  exact ih (i + 1) v cap k0 a ah (nI rk) Wo _ _ ls (by omega) hB gh (Or.inr ⟨rk, k1, by omega, rfl⟩) hR (lv_sub hl [0, 1, 5, 6, 7, 8] rfl) hP hD hS
              refine lv_iload hx hb dL_parishes_353 (lv_at hl 3 rfl) ?_
              have hl5 := hl4
              rcases hl5 with hl5 | hl5
              · obtain ⟨e1, e2⟩ := hl5
                refine lv_if_ge (tgt := 362) hx hb dL_parishes_355 (by decide) (fun cc => absurd cc (by rw [e2]; decide)) (fun _ => ?_)
                refine lv_iconst (v := 1) hx hb dL_parishes_358 (by decide) ?_
                refine lv_goto (tgt := 377) hx hb dL_parishes_359 (by decide) ?_
                refine lv_istore (lv' := [(8, .int 1), (7, .int (nI rk)), (6, .ref q6), (5, .int (nI i)), (4, .int la), (0, .ref h0), (1, .ref q1), (2, .int (uz_z f 24)), (3, .ref b)]) hx hb dL_parishes_377 hl (by decide) rfl (fun ls hl => ?_)
                refine lv_iload hx hb dL_parishes_379 (lv_at hl 0 rfl) ?_
                refine lv_if_eq (tgt := 389) hx hb dL_parishes_381 (by decide) (fun cc => absurd cc (show ¬ (1 : Int32) = 0 by decide)) (fun _ => ?_)
                refine lv_iload hx hb dL_parishes_384 (lv_at hl 0 rfl) ?_
                refine lv_goto (tgt := 404) hx hb dL_parishes_386 (by decide) ?_
                refine lv_istore (lv' := [(8, .int 1), (7, .int (nI rk)), (6, .ref q6), (5, .int (nI i)), (4, .int la), (0, .ref h0), (1, .ref q1), (2, .int (uz_z f 24)), (3, .ref b)]) hx hb dL_parishes_404 hl (by decide) rfl (fun ls hl => ?_)
                exact J406 1 Wo8 _ _ ls (by decide) (fun z => absurd z (by decide)) hR (lv_sub hl [0, 1, 2, 3, 4, 5, 6, 7, 8] rfl) hP hD hS
              · obtain ⟨rl, e1, e2, e3⟩ := hl5
                refine lv_if_ge (tgt := 362) hx hb dL_parishes_355 (by decide) (fun _ => ?_) (fun cc => absurd (by rw [e3]; exact nI_pos' (by omega)) cc)
                have hNx := ur_nextP (f := f) (i := rl) (j := rk) (r := i - 1) k1 (by omega) (by omega)
                have hps : ∀ q, ur_ps (um_pa f) (fun r => f (14 + 6 * r)) (f 0) q < 2 ^ 30 := fun q => uz_ps_lt hI
                have hpw : ∀ q, um_gW (um_pa f) (f 0) q < 13 := fun q => us_le12 hI.2.1
                refine lv_aload_n hx hb dL_parishes_362 rfl (lv_at hl 4 rfl) ?_
                refine lv_iload hx hb dL_parishes_363 (lv_at hl 3 rfl) ?_
                refine lv_iconst (v := 1) hx hb dL_parishes_365 (by decide) ?_
                have hpm : List.Perm (([(b, .inr (1, [.ref v, .int 0, .int 0, .int (nI (ut_dd f 24).length)])), (v, .inl (g.2.2.2.1, cap, .inl a)), (q1, .inl (g.2.1, 4, .inl ah)), (q6, .inl (g.2.1, 5, .inl s6))] ++ Wo8) : va_W) (Wo8 ++ [(b, .inr (1, [.ref v, .int 0, .int 0, .int (nI (ut_dd f 24).length)])), (v, .inl (g.2.2.2.1, cap, .inl a)), (q1, .inl (g.2.1, 4, .inl ah)), (q6, .inl (g.2.1, 5, .inl s6))]) := List.perm_append_comm
                have hFc := ub_freeP hD hS hA hpm
                obtain ⟨hPc, hDc⟩ := ub_subP hP hD hpm
                refine us_calli (va_runV (As := [.int la, .int 1]) (rest := []) ⟨hx, hb, hml, hown, hts⟩ (uo_parishOf l g hR (x := la) (v := 1)) (cwV 2 hts gu_RL_164 rfl rfl rfl ⟨rfl, uhX8_parishOf⟩ ⟨Nat.le_of_ble_eq_true rfl, Nat.le_of_ble_eq_true rfl⟩) (us_preO hR hZ hS hFc hPc hDc hK hN) rfl rfl hl.1 rfl (lv_room (Nat.le_of_ble_eq_true rfl)) dL_parishes_366 ⟨Nat.le_trans (Nat.le_of_eq (Nat.add_zero _)) (by show (((51 + i) + 1) + k0) ≤ 100; omega), Nat.le_trans (Nat.le_of_eq (Nat.add_zero _)) (by show (((216 + 5 * i) + 5) + 2 * cap) ≤ 2000; omega)⟩) hP hD hS hA hpm (fun r Wo9 H locs hpost hP hD hS => ?_)
                have hP : va_P g.1 vwCl ([(b, .inr (1, [.ref v, .int 0, .int 0, .int (nI (ut_dd f 24).length)])), (v, .inl (g.2.2.2.1, cap, .inl a)), (q1, .inl (g.2.1, 4, .inl ah)), (q6, .inl (g.2.1, 5, .inl s6))] ++ Wo9) H := ub_P_perm List.perm_append_comm hP
                have hD : va_D A ([(b, .inr (1, [.ref v, .int 0, .int 0, .int (nI (ut_dd f 24).length)])), (v, .inl (g.2.2.2.1, cap, .inl a)), (q1, .inl (g.2.1, 4, .inl ah)), (q6, .inl (g.2.1, 5, .inl s6))] ++ Wo9) := ub_D_perm List.perm_append_comm hD
                obtain ⟨hr, hR⟩ := hpost
                have er : r = nI (ur_ps (um_pa f) (fun r => f (14 + 6 * r)) (f 0) rl) := by rw [hr, e3]; exact ((uw_parishOf1 hI e1).trans (congrArg nI uz_ps))
                rw [er]
                refine lv_aload_n hx hb dL_parishes_369 rfl (lv_at hl 4 rfl) ?_
                refine lv_iload hx hb dL_parishes_370 (lv_at hl 0 rfl) ?_
                refine lv_iconst (v := 1) hx hb dL_parishes_372 (by decide) ?_
                have hpm : List.Perm (([(b, .inr (1, [.ref v, .int 0, .int 0, .int (nI (ut_dd f 24).length)])), (v, .inl (g.2.2.2.1, cap, .inl a)), (q1, .inl (g.2.1, 4, .inl ah)), (q6, .inl (g.2.1, 5, .inl s6))] ++ Wo9) : va_W) (Wo9 ++ [(b, .inr (1, [.ref v, .int 0, .int 0, .int (nI (ut_dd f 24).length)])), (v, .inl (g.2.2.2.1, cap, .inl a)), (q1, .inl (g.2.1, 4, .inl ah)), (q6, .inl (g.2.1, 5, .inl s6))]) := List.perm_append_comm
                have hFc := ub_freeP hD hS hA hpm
                obtain ⟨hPc, hDc⟩ := ub_subP hP hD hpm
                refine us_calli (va_runV (As := [.int (nI rk), .int 1]) (rest := [.int (nI (ur_ps (um_pa f) (fun r => f (14 + 6 * r)) (f 0) rl))]) ⟨hx, hb, hml, hown, hts⟩ (uo_parishOf l g hR (x := (nI rk)) (v := 1)) (cwV 2 hts gu_RL_164 rfl rfl rfl ⟨rfl, uhX8_parishOf⟩ ⟨Nat.le_of_ble_eq_true rfl, Nat.le_of_ble_eq_true rfl⟩) (us_preO hR hZ hS hFc hPc hDc hK hN) rfl rfl hl.1 rfl (lv_room (Nat.le_of_ble_eq_true rfl)) dL_parishes_373 ⟨Nat.le_trans (Nat.le_of_eq (Nat.add_zero _)) (by show (((51 + i) + 1) + k0) ≤ 100; omega), Nat.le_trans (Nat.le_of_eq (Nat.add_zero _)) (by show (((216 + 5 * i) + 5) + 2 * cap) ≤ 2000; omega)⟩) hP hD hS hA hpm (fun r Wo10 H locs hpost hP hD hS => ?_)
                have hP : va_P g.1 vwCl ([(b, .inr (1, [.ref v, .int 0, .int 0, .int (nI (ut_dd f 24).length)])), (v, .inl (g.2.2.2.1, cap, .inl a)), (q1, .inl (g.2.1, 4, .inl ah)), (q6, .inl (g.2.1, 5, .inl s6))] ++ Wo10) H := ub_P_perm List.perm_append_comm hP
                have hD : va_D A ([(b, .inr (1, [.ref v, .int 0, .int 0, .int (nI (ut_dd f 24).length)])), (v, .inl (g.2.2.2.1, cap, .inl a)), (q1, .inl (g.2.1, 4, .inl ah)), (q6, .inl (g.2.1, 5, .inl s6))] ++ Wo10) := ub_D_perm List.perm_append_comm hD
                obtain ⟨hr, hR⟩ := hpost
                have er : r = nI (ur_ps (um_pa f) (fun r => f (14 + 6 * r)) (f 0) rk) := hr.trans ((uw_parishOf1 hI k1).trans (congrArg nI uz_ps))
                rw [er]
                refine lv_isub hx hb dL_parishes_376 ?_
                refine lv_istore (lv' := [(8, .int ((nI (ur_ps (um_pa f) (fun r => f (14 + 6 * r)) (f 0) rl)) - (nI (ur_ps (um_pa f) (fun r => f (14 + 6 * r)) (f 0) rk)))), (7, .int (nI rk)), (6, .ref q6), (5, .int (nI i)), (4, .int la), (0, .ref h0), (1, .ref q1), (2, .int (uz_z f 24)), (3, .ref b)]) hx hb dL_parishes_377 hl (by decide) rfl (fun ls hl => ?_)
                refine lv_iload hx hb dL_parishes_379 (lv_at hl 0 rfl) ?_
                by_cases hq : ur_ps (um_pa f) (fun r => f (14 + 6 * r)) (f 0) rl = ur_ps (um_pa f) (fun r => f (14 + 6 * r)) (f 0) rk
                · refine lv_if_eq (tgt := 389) hx hb dL_parishes_381 (by decide) (fun _ => ?_) (fun cc => absurd ((um_sub_eq0 (hps _) (hps _)).mpr hq) cc)
                  refine lv_aload_n hx hb dL_parishes_389 rfl (lv_at hl 5 rfl) ?_
                  refine lv_iload hx hb dL_parishes_390 (lv_at hl 4 rfl) ?_
                  refine lv_iconst (v := 0) hx hb dL_parishes_392 (by decide) ?_
                  have hpm : List.Perm (([(b, .inr (1, [.ref v, .int 0, .int 0, .int (nI (ut_dd f 24).length)])), (v, .inl (g.2.2.2.1, cap, .inl a)), (q1, .inl (g.2.1, 4, .inl ah)), (q6, .inl (g.2.1, 5, .inl s6))] ++ Wo10) : va_W) (Wo10 ++ [(b, .inr (1, [.ref v, .int 0, .int 0, .int (nI (ut_dd f 24).length)])), (v, .inl (g.2.2.2.1, cap, .inl a)), (q1, .inl (g.2.1, 4, .inl ah)), (q6, .inl (g.2.1, 5, .inl s6))]) := List.perm_append_comm
                  have hFc := ub_freeP hD hS hA hpm
                  obtain ⟨hPc, hDc⟩ := ub_subP hP hD hpm
                  refine us_calli (va_runV (As := [.int la, .int 0]) (rest := []) ⟨hx, hb, hml, hown, hts⟩ (uo_parishOf l g hR (x := la) (v := 0)) (cwV 2 hts gu_RL_164 rfl rfl rfl ⟨rfl, uhX8_parishOf⟩ ⟨Nat.le_of_ble_eq_true rfl, Nat.le_of_ble_eq_true rfl⟩) (us_preO hR hZ hS hFc hPc hDc hK hN) rfl rfl hl.1 rfl (lv_room (Nat.le_of_ble_eq_true rfl)) dL_parishes_393 ⟨Nat.le_trans (Nat.le_of_eq (Nat.add_zero _)) (by show (((51 + i) + 1) + k0) ≤ 100; omega), Nat.le_trans (Nat.le_of_eq (Nat.add_zero _)) (by show (((216 + 5 * i) + 5) + 2 * cap) ≤ 2000; omega)⟩) hP hD hS hA hpm (fun r Wo11 H locs hpost hP hD hS => ?_)
                  have hP : va_P g.1 vwCl ([(b, .inr (1, [.ref v, .int 0, .int 0, .int (nI (ut_dd f 24).length)])), (v, .inl (g.2.2.2.1, cap, .inl a)), (q1, .inl (g.2.1, 4, .inl ah)), (q6, .inl (g.2.1, 5, .inl s6))] ++ Wo11) H := ub_P_perm List.perm_append_comm hP
                  have hD : va_D A ([(b, .inr (1, [.ref v, .int 0, .int 0, .int (nI (ut_dd f 24).length)])), (v, .inl (g.2.2.2.1, cap, .inl a)), (q1, .inl (g.2.1, 4, .inl ah)), (q6, .inl (g.2.1, 5, .inl s6))] ++ Wo11) := ub_D_perm List.perm_append_comm hD
                  obtain ⟨hr, hR⟩ := hpost
                  have er : r = nI (um_gW (um_pa f) (f 0) rl) := by rw [hr, e3]; exact (uw_parishOf0 hI e1)
                  rw [er]
                  refine lv_aload_n hx hb dL_parishes_396 rfl (lv_at hl 5 rfl) ?_
                  refine lv_iload hx hb dL_parishes_397 (lv_at hl 1 rfl) ?_
                  refine lv_iconst (v := 0) hx hb dL_parishes_399 (by decide) ?_
                  have hpm : List.Perm (([(b, .inr (1, [.ref v, .int 0, .int 0, .int (nI (ut_dd f 24).length)])), (v, .inl (g.2.2.2.1, cap, .inl a)), (q1, .inl (g.2.1, 4, .inl ah)), (q6, .inl (g.2.1, 5, .inl s6))] ++ Wo11) : va_W) (Wo11 ++ [(b, .inr (1, [.ref v, .int 0, .int 0, .int (nI (ut_dd f 24).length)])), (v, .inl (g.2.2.2.1, cap, .inl a)), (q1, .inl (g.2.1, 4, .inl ah)), (q6, .inl (g.2.1, 5, .inl s6))]) := List.perm_append_comm
                  have hFc := ub_freeP hD hS hA hpm
                  obtain ⟨hPc, hDc⟩ := ub_subP hP hD hpm
                  refine us_calli (va_runV (As := [.int (nI rk), .int 0]) (rest := [.int (nI (um_gW (um_pa f) (f 0) rl))]) ⟨hx, hb, hml, hown, hts⟩ (uo_parishOf l g hR (x := (nI rk)) (v := 0)) (cwV 2 hts gu_RL_164 rfl rfl rfl ⟨rfl, uhX8_parishOf⟩ ⟨Nat.le_of_ble_eq_true rfl, Nat.le_of_ble_eq_true rfl⟩) (us_preO hR hZ hS hFc hPc hDc hK hN) rfl rfl hl.1 rfl (lv_room (Nat.le_of_ble_eq_true rfl)) dL_parishes_400 ⟨Nat.le_trans (Nat.le_of_eq (Nat.add_zero _)) (by show (((51 + i) + 1) + k0) ≤ 100; omega), Nat.le_trans (Nat.le_of_eq (Nat.add_zero _)) (by show (((216 + 5 * i) + 5) + 2 * cap) ≤ 2000; omega)⟩) hP hD hS hA hpm (fun r Wo12 H locs hpost hP hD hS => ?_)
                  have hP : va_P g.1 vwCl ([(b, .inr (1, [.ref v, .int 0, .int 0, .int (nI (ut_dd f 24).length)])), (v, .inl (g.2.2.2.1, cap, .inl a)), (q1, .inl (g.2.1, 4, .inl ah)), (q6, .inl (g.2.1, 5, .inl s6))] ++ Wo12) H := ub_P_perm List.perm_append_comm hP
                  have hD : va_D A ([(b, .inr (1, [.ref v, .int 0, .int 0, .int (nI (ut_dd f 24).length)])), (v, .inl (g.2.2.2.1, cap, .inl a)), (q1, .inl (g.2.1, 4, .inl ah)), (q6, .inl (g.2.1, 5, .inl s6))] ++ Wo12) := ub_D_perm List.perm_append_comm hD
                  obtain ⟨hr, hR⟩ := hpost
                  have er : r = nI (um_gW (um_pa f) (f 0) rk) := hr.trans (uw_parishOf0 hI k1)
                  rw [er]
                  refine lv_isub hx hb dL_parishes_403 ?_
                  refine lv_istore (lv' := [(8, .int ((nI (um_gW (um_pa f) (f 0) rl)) - (nI (um_gW (um_pa f) (f 0) rk)))), (7, .int (nI rk)), (6, .ref q6), (5, .int (nI i)), (4, .int la), (0, .ref h0), (1, .ref q1), (2, .int (uz_z f 24)), (3, .ref b)]) hx hb dL_parishes_404 hl (by decide) rfl (fun ls hl => ?_)
                  exact J406 (nI (um_gW (um_pa f) (f 0) rl) - nI (um_gW (um_pa f) (f 0) rk)) Wo12 _ _ ls (fun z => by have a1 := hpw rl; have a2 := hpw rk; have := (um_sub_lt0 (by omega) (by omega)).mp z; omega) (fun z => by have a1 := hpw rl; have a2 := hpw rk; have := (um_sub_eq0 (by omega) (by omega)).mp z; rw [e3]; exact nI_le (by omega) (by omega)) hR (lv_sub hl [0, 1, 2, 3, 4, 5, 6, 7, 8] rfl) hP hD hS
                · refine lv_if_eq (tgt := 389) hx hb dL_parishes_381 (by decide) (fun cc => absurd cc (fun z => hq ((um_sub_eq0 (hps _) (hps _)).mp z))) (fun _ => ?_)
                  refine lv_iload hx hb dL_parishes_384 (lv_at hl 0 rfl) ?_
                  refine lv_goto (tgt := 404) hx hb dL_parishes_386 (by decide) ?_
                  refine lv_istore (lv' := [(8, .int ((nI (ur_ps (um_pa f) (fun r => f (14 + 6 * r)) (f 0) rl)) - (nI (ur_ps (um_pa f) (fun r => f (14 + 6 * r)) (f 0) rk)))), (7, .int (nI rk)), (6, .ref q6), (5, .int (nI i)), (4, .int la), (0, .ref h0), (1, .ref q1), (2, .int (uz_z f 24)), (3, .ref b)]) hx hb dL_parishes_404 hl (by decide) rfl (fun ls hl => ?_)
                  exact J406 (nI (ur_ps (um_pa f) (fun r => f (14 + 6 * r)) (f 0) rl) - nI (ur_ps (um_pa f) (fun r => f (14 + 6 * r)) (f 0) rk)) Wo10 _ _ ls (fun z => by have := (um_sub_lt0 (hps _) (hps _)).mp z; omega) (fun z => absurd ((um_sub_eq0 (hps _) (hps _)).mp z) hq) hR (lv_sub hl [0, 1, 2, 3, 4, 5, 6, 7, 8] rfl) hP hD hS
            | succ q9 ih2 =>
              intro y Wo H locs ls hiq9 hR hl hP hD hS
              refine lv_iload hx hb dL_parishes_315 (lv_at hl 0 rfl) ?_
              refine lv_iconst (v := 5) hx hb dL_parishes_317 (by decide) ?_
              refine lv_icmp_ge (tgt := 345) hx hb dL_parishes_318 (by decide) (fun cc => absurd cc (nI_ge (b := 5) (by omega) (by decide))) (fun _ => ?_)
              refine lv_aload_n hx hb dL_parishes_321 rfl (lv_at hl 4 rfl) ?_
              refine lv_iload hx hb dL_parishes_322 (lv_at hl 2 rfl) ?_
              refine lv_iload hx hb dL_parishes_324 (lv_at hl 0 rfl) ?_
              have hpm : List.Perm (([(b, .inr (1, [.ref v, .int 0, .int 0, .int (nI (ut_dd f 24).length)])), (v, .inl (g.2.2.2.1, cap, .inl a)), (q1, .inl (g.2.1, 4, .inl ah)), (q6, .inl (g.2.1, 5, .inl s6))] ++ Wo) : va_W) (Wo ++ [(b, .inr (1, [.ref v, .int 0, .int 0, .int (nI (ut_dd f 24).length)])), (v, .inl (g.2.2.2.1, cap, .inl a)), (q1, .inl (g.2.1, 4, .inl ah)), (q6, .inl (g.2.1, 5, .inl s6))]) := List.perm_append_comm
              have hFc := ub_freeP hD hS hA hpm
              obtain ⟨hPc, hDc⟩ := ub_subP hP hD hpm
              refine us_calli (va_runV (As := [.int (nI i), .int (nI y)]) (rest := []) ⟨hx, hb, hml, hown, hts⟩ (uo_parishOf l g hR (x := (nI i)) (v := (nI y))) (cwV 2 hts gu_RL_164 rfl rfl rfl ⟨rfl, uhX8_parishOf⟩ ⟨Nat.le_of_ble_eq_true rfl, Nat.le_of_ble_eq_true rfl⟩) (us_preO hR hZ hS hFc hPc hDc hK hN) rfl rfl hl.1 rfl (lv_room (Nat.le_of_ble_eq_true rfl)) dL_parishes_326 ⟨Nat.le_trans (Nat.le_of_eq (Nat.add_zero _)) (by show (((51 + i) + 1) + k0) ≤ 100; omega), Nat.le_trans (Nat.le_of_eq (Nat.add_zero _)) (by show (((216 + 5 * i) + 5) + 2 * cap) ≤ 2000; omega)⟩) hP hD hS hA hpm (fun r Wo13 H locs hpost hP hD hS => ?_)
              have hP : va_P g.1 vwCl ([(b, .inr (1, [.ref v, .int 0, .int 0, .int (nI (ut_dd f 24).length)])), (v, .inl (g.2.2.2.1, cap, .inl a)), (q1, .inl (g.2.1, 4, .inl ah)), (q6, .inl (g.2.1, 5, .inl s6))] ++ Wo13) H := ub_P_perm List.perm_append_comm hP
              have hD : va_D A ([(b, .inr (1, [.ref v, .int 0, .int 0, .int (nI (ut_dd f 24).length)])), (v, .inl (g.2.2.2.1, cap, .inl a)), (q1, .inl (g.2.1, 4, .inl ah)), (q6, .inl (g.2.1, 5, .inl s6))] ++ Wo13) := ub_D_perm List.perm_append_comm hD
              obtain ⟨hr, hR⟩ := hpost
              have er : r = ux_parishOf f (nI i) (nI y) := hr
              rw [er]
              refine lv_aload hx hb dL_parishes_329 (lv_at hl 1 rfl) ?_
              refine lv_iload hx hb dL_parishes_331 (lv_at hl 0 rfl) ?_
              refine va_iald hx hb hK hP 3 0 rfl rfl (i := nI y) (vp_in_nI (by omega) (by decide)) dL_parishes_333 ?_
              refine us_topi (x := ux_parishOf f (nI i) (nI y)) (by rw [nI_clamp (by omega)]; exact hall y (by omega)) ?_
              refine lv_icmp_eq (tgt := 339) hx hb dL_parishes_334 (by decide) (fun _ => ?_) (fun cc => absurd rfl cc)
              refine lv_iinc (v := nI y + 1) (lv' := [(7, .int (nI y + 1)), (6, .ref q6), (5, .int (nI i)), (4, .int la), (0, .ref h0), (1, .ref q1), (2, .int (uz_z f 24)), (3, .ref b)]) hx hb dL_parishes_339 hl (k := 0) rfl rfl (by decide) rfl (fun ls hl => ?_)
              refine lv_goto (tgt := 315) hx hb dL_parishes_342 (by decide) ?_
              rw [nI_1] at hl
              exact ih2 (y + 1) Wo13 _ _ ls (by omega) hR (lv_sub hl [0, 1, 2, 3, 4, 5, 6, 7] rfl) hP hD hS
          exact loopW 5 0 Wo7 _ _ ls (by omega) hR (lv_sub hl [0, 1, 2, 3, 4, 5, 6, 7] rfl) hP hD hS
        | succ q8 ih1 =>
          intro n s5 Wo H locs ls hiq8 s0 s1 s2 s4 s3 hR hl hP hD hS
          refine lv_iload hx hb dL_parishes_182 (lv_at hl 0 rfl) ?_
          refine lv_aload_n hx hb dL_parishes_184 rfl (lv_at hl 4 rfl) ?_
          refine lv_iconst (v := 0) hx hb dL_parishes_185 (by decide) ?_
          have hpm : List.Perm (([(b, .inr (1, [.ref v, .int 0, .int 0, .int (nI (ut_dd f 24).length)])), (v, .inl (g.2.2.2.1, cap, .inl a)), (q1, .inl (g.2.1, 4, .inl ah)), (q6, .inl (g.2.1, 5, .inl s5))] ++ Wo) : va_W) (Wo ++ [(b, .inr (1, [.ref v, .int 0, .int 0, .int (nI (ut_dd f 24).length)])), (v, .inl (g.2.2.2.1, cap, .inl a)), (q1, .inl (g.2.1, 4, .inl ah)), (q6, .inl (g.2.1, 5, .inl s5))]) := List.perm_append_comm
          have hFc := ub_freeP hD hS hA hpm
          obtain ⟨hPc, hDc⟩ := ub_subP hP hD hpm
          refine us_calli (va_runV (As := [.int 0]) (rest := [.int (nI n)]) ⟨hx, hb, hml, hown, hts⟩ (uo_account l g hR (x := 0)) (cwV 1 hts gu_RL_34 rfl rfl rfl ⟨rfl, uhX8_account⟩ ⟨Nat.le_of_ble_eq_true rfl, Nat.le_of_ble_eq_true rfl⟩) (us_preO hR hZ hS hFc hPc hDc hK hN) rfl rfl hl.1 rfl (lv_room (Nat.le_of_ble_eq_true rfl)) dL_parishes_186 ⟨Nat.le_trans (Nat.le_of_eq (Nat.add_zero _)) (by show (((51 + i) + 1) + k0) ≤ 100; omega), Nat.le_trans (Nat.le_of_eq (Nat.add_zero _)) (by show (((216 + 5 * i) + 5) + 2 * cap) ≤ 2000; omega)⟩) hP hD hS hA hpm (fun r Wo14 H locs hpost hP hD hS => ?_)
          have hP : va_P g.1 vwCl ([(b, .inr (1, [.ref v, .int 0, .int 0, .int (nI (ut_dd f 24).length)])), (v, .inl (g.2.2.2.1, cap, .inl a)), (q1, .inl (g.2.1, 4, .inl ah)), (q6, .inl (g.2.1, 5, .inl s5))] ++ Wo14) H := ub_P_perm List.perm_append_comm hP
          have hD : va_D A ([(b, .inr (1, [.ref v, .int 0, .int 0, .int (nI (ut_dd f 24).length)])), (v, .inl (g.2.2.2.1, cap, .inl a)), (q1, .inl (g.2.1, 4, .inl ah)), (q6, .inl (g.2.1, 5, .inl s5))] ++ Wo14) := ub_D_perm List.perm_append_comm hD
          obtain ⟨hr, hR⟩ := hpost
          have er : r = nI (f 0) := by rw [hr]; rfl
          rw [er]
          refine lv_icmp_ge (tgt := 304) hx hb dL_parishes_189 (by decide) (fun cc => absurd cc (nI_ge (by omega) (by omega))) (fun _ => ?_)
          refine lv_aload_n hx hb dL_parishes_192 rfl (lv_at hl 4 rfl) ?_
          refine lv_iload hx hb dL_parishes_193 (lv_at hl 0 rfl) ?_
          refine lv_iconst (v := 0) hx hb dL_parishes_195 (by decide) ?_
          have hpm : List.Perm (([(b, .inr (1, [.ref v, .int 0, .int 0, .int (nI (ut_dd f 24).length)])), (v, .inl (g.2.2.2.1, cap, .inl a)), (q1, .inl (g.2.1, 4, .inl ah)), (q6, .inl (g.2.1, 5, .inl s5))] ++ Wo14) : va_W) (Wo14 ++ [(b, .inr (1, [.ref v, .int 0, .int 0, .int (nI (ut_dd f 24).length)])), (v, .inl (g.2.2.2.1, cap, .inl a)), (q1, .inl (g.2.1, 4, .inl ah)), (q6, .inl (g.2.1, 5, .inl s5))]) := List.perm_append_comm
          have hFc := ub_freeP hD hS hA hpm
          obtain ⟨hPc, hDc⟩ := ub_subP hP hD hpm
          refine us_calli (va_runV (As := [.int (nI n), .int 0]) (rest := []) ⟨hx, hb, hml, hown, hts⟩ (uo_ropeOf l g hR (x := (nI n)) (v := 0)) (cwV 2 hts gu_RL_100 rfl rfl rfl ⟨rfl, uhX8_ropeOf⟩ ⟨Nat.le_of_ble_eq_true rfl, Nat.le_of_ble_eq_true rfl⟩) (us_preO hR hZ hS hFc hPc hDc hK hN) rfl rfl hl.1 rfl (lv_room (Nat.le_of_ble_eq_true rfl)) dL_parishes_196 ⟨Nat.le_trans (Nat.le_of_eq (Nat.add_zero _)) (by show (((51 + i) + 1) + k0) ≤ 100; omega), Nat.le_trans (Nat.le_of_eq (Nat.add_zero _)) (by show (((216 + 5 * i) + 5) + 2 * cap) ≤ 2000; omega)⟩) hP hD hS hA hpm (fun r Wo15 H locs hpost hP hD hS => ?_)
          have hP : va_P g.1 vwCl ([(b, .inr (1, [.ref v, .int 0, .int 0, .int (nI (ut_dd f 24).length)])), (v, .inl (g.2.2.2.1, cap, .inl a)), (q1, .inl (g.2.1, 4, .inl ah)), (q6, .inl (g.2.1, 5, .inl s5))] ++ Wo15) H := ub_P_perm List.perm_append_comm hP
          have hD : va_D A ([(b, .inr (1, [.ref v, .int 0, .int 0, .int (nI (ut_dd f 24).length)])), (v, .inl (g.2.2.2.1, cap, .inl a)), (q1, .inl (g.2.1, 4, .inl ah)), (q6, .inl (g.2.1, 5, .inl s5))] ++ Wo15) := ub_D_perm List.perm_append_comm hD
          obtain ⟨hr, hR⟩ := hpost
          have er : r = nI (um_pa f n) := hr.trans (uw_ropeOf (i := 0) hI (by omega) (by decide))
          rw [er]
          refine lv_iload hx hb dL_parishes_199 (lv_at hl 2 rfl) ?_
          have hp9 := hP4 n (by omega)
          by_cases ho : um_pa f n = i
          · refine lv_icmp_ne (tgt := 208) hx hb dL_parishes_201 (by decide) (fun cc => absurd (by rw [ho]) cc) (fun _ => ?_)
            refine lv_iconst (v := 1) hx hb dL_parishes_204 (by decide) ?_
            refine lv_goto (tgt := 209) hx hb dL_parishes_205 (by decide) ?_
            refine lv_istore (lv' := [(8, .int 1), (7, .int (nI n)), (6, .ref q6), (5, .int (nI i)), (4, .int la), (0, .ref h0), (1, .ref q1), (2, .int (uz_z f 24)), (3, .ref b)]) hx hb dL_parishes_209 hl (by decide) rfl (fun ls hl => ?_)
            refine lv_aload hx hb dL_parishes_211 (lv_at hl 2 rfl) ?_
            refine lv_iconst (v := 0) hx hb dL_parishes_213 (by decide) ?_
            refine lv_dup2_11 hx hb dL_parishes_214 rfl rfl ?_
            refine va_iald hx hb hK hP 3 0 rfl rfl (i := nI 0) (vp_in_nI (n := 0) (by decide) (by decide)) dL_parishes_215 ?_
            refine us_topi (x := nI (um_sum (fun r => um_b2n (decide (um_pa f r = i))) n)) s0 ?_
            refine lv_iload hx hb dL_parishes_216 (lv_at hl 0 rfl) ?_
            refine lv_if_eq (tgt := 225) hx hb dL_parishes_218 (by decide) (fun cc => absurd cc (show ¬ (1 : Int32) = 0 by decide)) (fun _ => ?_)
            refine lv_iconst (v := 1) hx hb dL_parishes_221 (by decide) ?_
            refine lv_goto (tgt := 226) hx hb dL_parishes_222 (by decide) ?_
            refine lv_iadd hx hb dL_parishes_226 ?_
            refine us_topi (x := nI (um_sum (fun r => um_b2n (decide (um_pa f r = i))) n + 1)) (nI_add (um_sum (fun r => um_b2n (decide (um_pa f r = i))) n) 1) ?_
            refine va_iast hx hb hK hP hD hS 3 0 rfl rfl (i := nI 0) (vp_in_nI (n := 0) (by decide) (by decide)) dL_parishes_227 (fun H locs hP hD hS => ?_)
            rw [nI_clamp (show 0 < 2 ^ 31 by omega)] at hP hD
            have hP : va_P g.1 vwCl ([(b, .inr (1, [.ref v, .int 0, .int 0, .int (nI (ut_dd f 24).length)])), (v, .inl (g.2.2.2.1, cap, .inl a)), (q1, .inl (g.2.1, 4, .inl ah)), (q6, .inl (g.2.1, 5, .inl (upd s5 0 (nI (um_sum (fun r => um_b2n (decide (um_pa f r = i))) n + 1)))))] ++ Wo15) H := hP
            have hD : va_D A ([(b, .inr (1, [.ref v, .int 0, .int 0, .int (nI (ut_dd f 24).length)])), (v, .inl (g.2.2.2.1, cap, .inl a)), (q1, .inl (g.2.1, 4, .inl ah)), (q6, .inl (g.2.1, 5, .inl (upd s5 0 (nI (um_sum (fun r => um_b2n (decide (um_pa f r = i))) n + 1)))))] ++ Wo15) := hD
            refine lv_aload hx hb dL_parishes_228 (lv_at hl 2 rfl) ?_
            refine lv_iconst (v := 1) hx hb dL_parishes_230 (by decide) ?_
            refine lv_dup2_11 hx hb dL_parishes_231 rfl rfl ?_
            refine va_iald hx hb hK hP 3 0 rfl rfl (i := nI 1) (vp_in_nI (n := 1) (by decide) (by decide)) dL_parishes_232 ?_
            refine us_topi (x := nI (um_sum (fun r => if f (11 + 6 * r) = i then f (11 + 6 * r + 3) else 0) n)) s1 ?_
            refine lv_iload hx hb dL_parishes_233 (lv_at hl 0 rfl) ?_
            refine lv_if_eq (tgt := 248) hx hb dL_parishes_235 (by decide) (fun cc => absurd cc (show ¬ (1 : Int32) = 0 by decide)) (fun _ => ?_)
            refine lv_aload_n hx hb dL_parishes_238 rfl (lv_at hl 5 rfl) ?_
            refine lv_iload hx hb dL_parishes_239 (lv_at hl 1 rfl) ?_
            refine lv_iconst (v := 3) hx hb dL_parishes_241 (by decide) ?_
            have hpm : List.Perm (([(b, .inr (1, [.ref v, .int 0, .int 0, .int (nI (ut_dd f 24).length)])), (v, .inl (g.2.2.2.1, cap, .inl a)), (q1, .inl (g.2.1, 4, .inl ah)), (q6, .inl (g.2.1, 5, .inl (upd s5 0 (nI (um_sum (fun r => um_b2n (decide (um_pa f r = i))) n + 1)))))] ++ Wo15) : va_W) (Wo15 ++ [(b, .inr (1, [.ref v, .int 0, .int 0, .int (nI (ut_dd f 24).length)])), (v, .inl (g.2.2.2.1, cap, .inl a)), (q1, .inl (g.2.1, 4, .inl ah)), (q6, .inl (g.2.1, 5, .inl (upd s5 0 (nI (um_sum (fun r => um_b2n (decide (um_pa f r = i))) n + 1)))))]) := List.perm_append_comm
            have hFc := ub_freeP hD hS hA hpm
            obtain ⟨hPc, hDc⟩ := ub_subP hP hD hpm
            refine us_calli (va_runV (As := [.int (nI n), .int 3]) (rest := [.int (nI (um_sum (fun r => if f (11 + 6 * r) = i then f (11 + 6 * r + 3) else 0) n)), .int 1, .ref q6]) ⟨hx, hb, hml, hown, hts⟩ (uo_ropeOf l g hR (x := (nI n)) (v := 3)) (cwV 2 hts gu_RL_100 rfl rfl rfl ⟨rfl, uhX8_ropeOf⟩ ⟨Nat.le_of_ble_eq_true rfl, Nat.le_of_ble_eq_true rfl⟩) (us_preO hR hZ hS hFc hPc hDc hK hN) rfl rfl hl.1 rfl (lv_room (Nat.le_of_ble_eq_true rfl)) dL_parishes_242 ⟨Nat.le_trans (Nat.le_of_eq (Nat.add_zero _)) (by show (((51 + i) + 1) + k0) ≤ 100; omega), Nat.le_trans (Nat.le_of_eq (Nat.add_zero _)) (by show (((216 + 5 * i) + 5) + 2 * cap) ≤ 2000; omega)⟩) hP hD hS hA hpm (fun r Wo16 H locs hpost hP hD hS => ?_)
            have hP : va_P g.1 vwCl ([(b, .inr (1, [.ref v, .int 0, .int 0, .int (nI (ut_dd f 24).length)])), (v, .inl (g.2.2.2.1, cap, .inl a)), (q1, .inl (g.2.1, 4, .inl ah)), (q6, .inl (g.2.1, 5, .inl (upd s5 0 (nI (um_sum (fun r => um_b2n (decide (um_pa f r = i))) n + 1)))))] ++ Wo16) H := ub_P_perm List.perm_append_comm hP
            have hD : va_D A ([(b, .inr (1, [.ref v, .int 0, .int 0, .int (nI (ut_dd f 24).length)])), (v, .inl (g.2.2.2.1, cap, .inl a)), (q1, .inl (g.2.1, 4, .inl ah)), (q6, .inl (g.2.1, 5, .inl (upd s5 0 (nI (um_sum (fun r => um_b2n (decide (um_pa f r = i))) n + 1)))))] ++ Wo16) := ub_D_perm List.perm_append_comm hD
            obtain ⟨hr, hR⟩ := hpost
            have er : r = nI (f (11 + 6 * n + 3)) := hr.trans (uw_ropeOf (i := 3) hI (by omega) (by decide))
            rw [er]
            refine lv_goto (tgt := 249) hx hb dL_parishes_245 (by decide) ?_
            refine lv_iadd hx hb dL_parishes_249 ?_
            refine us_topi (x := nI (um_sum (fun r => if f (11 + 6 * r) = i then f (11 + 6 * r + 3) else 0) n + f (11 + 6 * n + 3))) (nI_add (um_sum (fun r => if f (11 + 6 * r) = i then f (11 + 6 * r + 3) else 0) n) (f (11 + 6 * n + 3))) ?_
            refine va_iast hx hb hK hP hD hS 3 0 rfl rfl (i := nI 1) (vp_in_nI (n := 1) (by decide) (by decide)) dL_parishes_250 (fun H locs hP hD hS => ?_)
            rw [nI_clamp (show 1 < 2 ^ 31 by omega)] at hP hD
            have hP : va_P g.1 vwCl ([(b, .inr (1, [.ref v, .int 0, .int 0, .int (nI (ut_dd f 24).length)])), (v, .inl (g.2.2.2.1, cap, .inl a)), (q1, .inl (g.2.1, 4, .inl ah)), (q6, .inl (g.2.1, 5, .inl (upd (upd s5 0 (nI (um_sum (fun r => um_b2n (decide (um_pa f r = i))) n + 1))) 1 (nI (um_sum (fun r => if f (11 + 6 * r) = i then f (11 + 6 * r + 3) else 0) n + f (11 + 6 * n + 3))))))] ++ Wo16) H := hP
            have hD : va_D A ([(b, .inr (1, [.ref v, .int 0, .int 0, .int (nI (ut_dd f 24).length)])), (v, .inl (g.2.2.2.1, cap, .inl a)), (q1, .inl (g.2.1, 4, .inl ah)), (q6, .inl (g.2.1, 5, .inl (upd (upd s5 0 (nI (um_sum (fun r => um_b2n (decide (um_pa f r = i))) n + 1))) 1 (nI (um_sum (fun r => if f (11 + 6 * r) = i then f (11 + 6 * r + 3) else 0) n + f (11 + 6 * n + 3))))))] ++ Wo16) := hD
            refine lv_aload hx hb dL_parishes_251 (lv_at hl 2 rfl) ?_
            refine lv_iconst (v := 2) hx hb dL_parishes_253 (by decide) ?_
            refine lv_dup2_11 hx hb dL_parishes_254 rfl rfl ?_
            refine va_iald hx hb hK hP 3 0 rfl rfl (i := nI 2) (vp_in_nI (n := 2) (by decide) (by decide)) dL_parishes_255 ?_
            refine us_topi (x := nI (um_sum (fun r => if f (11 + 6 * r) = i then f (11 + 6 * r + 2) else 0) n)) s2 ?_
            refine lv_iload hx hb dL_parishes_256 (lv_at hl 0 rfl) ?_
            refine lv_if_eq (tgt := 271) hx hb dL_parishes_258 (by decide) (fun cc => absurd cc (show ¬ (1 : Int32) = 0 by decide)) (fun _ => ?_)
            refine lv_aload_n hx hb dL_parishes_261 rfl (lv_at hl 5 rfl) ?_
            refine lv_iload hx hb dL_parishes_262 (lv_at hl 1 rfl) ?_
            refine lv_iconst (v := 2) hx hb dL_parishes_264 (by decide) ?_
            have hpm : List.Perm (([(b, .inr (1, [.ref v, .int 0, .int 0, .int (nI (ut_dd f 24).length)])), (v, .inl (g.2.2.2.1, cap, .inl a)), (q1, .inl (g.2.1, 4, .inl ah)), (q6, .inl (g.2.1, 5, .inl (upd (upd s5 0 (nI (um_sum (fun r => um_b2n (decide (um_pa f r = i))) n + 1))) 1 (nI (um_sum (fun r => if f (11 + 6 * r) = i then f (11 + 6 * r + 3) else 0) n + f (11 + 6 * n + 3))))))] ++ Wo16) : va_W) (Wo16 ++ [(b, .inr (1, [.ref v, .int 0, .int 0, .int (nI (ut_dd f 24).length)])), (v, .inl (g.2.2.2.1, cap, .inl a)), (q1, .inl (g.2.1, 4, .inl ah)), (q6, .inl (g.2.1, 5, .inl (upd (upd s5 0 (nI (um_sum (fun r => um_b2n (decide (um_pa f r = i))) n + 1))) 1 (nI (um_sum (fun r => if f (11 + 6 * r) = i then f (11 + 6 * r + 3) else 0) n + f (11 + 6 * n + 3))))))]) := List.perm_append_comm
            have hFc := ub_freeP hD hS hA hpm
            obtain ⟨hPc, hDc⟩ := ub_subP hP hD hpm
            refine us_calli (va_runV (As := [.int (nI n), .int 2]) (rest := [.int (nI (um_sum (fun r => if f (11 + 6 * r) = i then f (11 + 6 * r + 2) else 0) n)), .int 2, .ref q6]) ⟨hx, hb, hml, hown, hts⟩ (uo_ropeOf l g hR (x := (nI n)) (v := 2)) (cwV 2 hts gu_RL_100 rfl rfl rfl ⟨rfl, uhX8_ropeOf⟩ ⟨Nat.le_of_ble_eq_true rfl, Nat.le_of_ble_eq_true rfl⟩) (us_preO hR hZ hS hFc hPc hDc hK hN) rfl rfl hl.1 rfl (lv_room (Nat.le_of_ble_eq_true rfl)) dL_parishes_265 ⟨Nat.le_trans (Nat.le_of_eq (Nat.add_zero _)) (by show (((51 + i) + 1) + k0) ≤ 100; omega), Nat.le_trans (Nat.le_of_eq (Nat.add_zero _)) (by show (((216 + 5 * i) + 5) + 2 * cap) ≤ 2000; omega)⟩) hP hD hS hA hpm (fun r Wo17 H locs hpost hP hD hS => ?_)
            have hP : va_P g.1 vwCl ([(b, .inr (1, [.ref v, .int 0, .int 0, .int (nI (ut_dd f 24).length)])), (v, .inl (g.2.2.2.1, cap, .inl a)), (q1, .inl (g.2.1, 4, .inl ah)), (q6, .inl (g.2.1, 5, .inl (upd (upd s5 0 (nI (um_sum (fun r => um_b2n (decide (um_pa f r = i))) n + 1))) 1 (nI (um_sum (fun r => if f (11 + 6 * r) = i then f (11 + 6 * r + 3) else 0) n + f (11 + 6 * n + 3))))))] ++ Wo17) H := ub_P_perm List.perm_append_comm hP
            have hD : va_D A ([(b, .inr (1, [.ref v, .int 0, .int 0, .int (nI (ut_dd f 24).length)])), (v, .inl (g.2.2.2.1, cap, .inl a)), (q1, .inl (g.2.1, 4, .inl ah)), (q6, .inl (g.2.1, 5, .inl (upd (upd s5 0 (nI (um_sum (fun r => um_b2n (decide (um_pa f r = i))) n + 1))) 1 (nI (um_sum (fun r => if f (11 + 6 * r) = i then f (11 + 6 * r + 3) else 0) n + f (11 + 6 * n + 3))))))] ++ Wo17) := ub_D_perm List.perm_append_comm hD
            obtain ⟨hr, hR⟩ := hpost
            have er : r = nI (f (11 + 6 * n + 2)) := hr.trans (uw_ropeOf (i := 2) hI (by omega) (by decide))
            rw [er]
            refine lv_goto (tgt := 272) hx hb dL_parishes_268 (by decide) ?_
            refine lv_iadd hx hb dL_parishes_272 ?_
            refine us_topi (x := nI (um_sum (fun r => if f (11 + 6 * r) = i then f (11 + 6 * r + 2) else 0) n + f (11 + 6 * n + 2))) (nI_add (um_sum (fun r => if f (11 + 6 * r) = i then f (11 + 6 * r + 2) else 0) n) (f (11 + 6 * n + 2))) ?_
            refine va_iast hx hb hK hP hD hS 3 0 rfl rfl (i := nI 2) (vp_in_nI (n := 2) (by decide) (by decide)) dL_parishes_273 (fun H locs hP hD hS => ?_)
            rw [nI_clamp (show 2 < 2 ^ 31 by omega)] at hP hD
            have hP : va_P g.1 vwCl ([(b, .inr (1, [.ref v, .int 0, .int 0, .int (nI (ut_dd f 24).length)])), (v, .inl (g.2.2.2.1, cap, .inl a)), (q1, .inl (g.2.1, 4, .inl ah)), (q6, .inl (g.2.1, 5, .inl (upd (upd (upd s5 0 (nI (um_sum (fun r => um_b2n (decide (um_pa f r = i))) n + 1))) 1 (nI (um_sum (fun r => if f (11 + 6 * r) = i then f (11 + 6 * r + 3) else 0) n + f (11 + 6 * n + 3)))) 2 (nI (um_sum (fun r => if f (11 + 6 * r) = i then f (11 + 6 * r + 2) else 0) n + f (11 + 6 * n + 2))))))] ++ Wo17) H := hP
            have hD : va_D A ([(b, .inr (1, [.ref v, .int 0, .int 0, .int (nI (ut_dd f 24).length)])), (v, .inl (g.2.2.2.1, cap, .inl a)), (q1, .inl (g.2.1, 4, .inl ah)), (q6, .inl (g.2.1, 5, .inl (upd (upd (upd s5 0 (nI (um_sum (fun r => um_b2n (decide (um_pa f r = i))) n + 1))) 1 (nI (um_sum (fun r => if f (11 + 6 * r) = i then f (11 + 6 * r + 3) else 0) n + f (11 + 6 * n + 3)))) 2 (nI (um_sum (fun r => if f (11 + 6 * r) = i then f (11 + 6 * r + 2) else 0) n + f (11 + 6 * n + 2))))))] ++ Wo17) := hD
            refine lv_aload hx hb dL_parishes_274 (lv_at hl 2 rfl) ?_
            refine lv_iconst (v := 4) hx hb dL_parishes_276 (by decide) ?_
            refine lv_dup2_11 hx hb dL_parishes_277 rfl rfl ?_
            refine va_iald hx hb hK hP 3 0 rfl rfl (i := nI 4) (vp_in_nI (n := 4) (by decide) (by decide)) dL_parishes_278 ?_
            refine us_topi (x := nI (um_sum (fun r => if f (11 + 6 * r) = i then um_cnt (fun k => decide (f (83 + 3 * k) = r)) (f 1) else 0) n)) s4 ?_
            refine lv_iload hx hb dL_parishes_279 (lv_at hl 0 rfl) ?_
            refine lv_if_eq (tgt := 295) hx hb dL_parishes_281 (by decide) (fun cc => absurd cc (show ¬ (1 : Int32) = 0 by decide)) (fun _ => ?_)
            refine lv_aload_n hx hb dL_parishes_284 rfl (lv_at hl 5 rfl) ?_
            refine lv_iload hx hb dL_parishes_285 (lv_at hl 1 rfl) ?_
            refine lv_bipush (v := 6) hx hb dL_parishes_287 (by decide) ?_
            have hpm : List.Perm (([(b, .inr (1, [.ref v, .int 0, .int 0, .int (nI (ut_dd f 24).length)])), (v, .inl (g.2.2.2.1, cap, .inl a)), (q1, .inl (g.2.1, 4, .inl ah)), (q6, .inl (g.2.1, 5, .inl (upd (upd (upd s5 0 (nI (um_sum (fun r => um_b2n (decide (um_pa f r = i))) n + 1))) 1 (nI (um_sum (fun r => if f (11 + 6 * r) = i then f (11 + 6 * r + 3) else 0) n + f (11 + 6 * n + 3)))) 2 (nI (um_sum (fun r => if f (11 + 6 * r) = i then f (11 + 6 * r + 2) else 0) n + f (11 + 6 * n + 2))))))] ++ Wo17) : va_W) (Wo17 ++ [(b, .inr (1, [.ref v, .int 0, .int 0, .int (nI (ut_dd f 24).length)])), (v, .inl (g.2.2.2.1, cap, .inl a)), (q1, .inl (g.2.1, 4, .inl ah)), (q6, .inl (g.2.1, 5, .inl (upd (upd (upd s5 0 (nI (um_sum (fun r => um_b2n (decide (um_pa f r = i))) n + 1))) 1 (nI (um_sum (fun r => if f (11 + 6 * r) = i then f (11 + 6 * r + 3) else 0) n + f (11 + 6 * n + 3)))) 2 (nI (um_sum (fun r => if f (11 + 6 * r) = i then f (11 + 6 * r + 2) else 0) n + f (11 + 6 * n + 2))))))]) := List.perm_append_comm
            have hFc := ub_freeP hD hS hA hpm
            obtain ⟨hPc, hDc⟩ := ub_subP hP hD hpm
            refine us_calli (va_runV (As := [.int (nI n), .int 6]) (rest := [.int (nI (um_sum (fun r => if f (11 + 6 * r) = i then um_cnt (fun k => decide (f (83 + 3 * k) = r)) (f 1) else 0) n)), .int 4, .ref q6]) ⟨hx, hb, hml, hown, hts⟩ (uo_ropeOf l g hR (x := (nI n)) (v := 6)) (cwV 2 hts gu_RL_100 rfl rfl rfl ⟨rfl, uhX8_ropeOf⟩ ⟨Nat.le_of_ble_eq_true rfl, Nat.le_of_ble_eq_true rfl⟩) (us_preO hR hZ hS hFc hPc hDc hK hN) rfl rfl hl.1 rfl (lv_room (Nat.le_of_ble_eq_true rfl)) dL_parishes_289 ⟨Nat.le_trans (Nat.le_of_eq (Nat.add_zero _)) (by show (((51 + i) + 1) + k0) ≤ 100; omega), Nat.le_trans (Nat.le_of_eq (Nat.add_zero _)) (by show (((216 + 5 * i) + 5) + 2 * cap) ≤ 2000; omega)⟩) hP hD hS hA hpm (fun r Wo18 H locs hpost hP hD hS => ?_)
            have hP : va_P g.1 vwCl ([(b, .inr (1, [.ref v, .int 0, .int 0, .int (nI (ut_dd f 24).length)])), (v, .inl (g.2.2.2.1, cap, .inl a)), (q1, .inl (g.2.1, 4, .inl ah)), (q6, .inl (g.2.1, 5, .inl (upd (upd (upd s5 0 (nI (um_sum (fun r => um_b2n (decide (um_pa f r = i))) n + 1))) 1 (nI (um_sum (fun r => if f (11 + 6 * r) = i then f (11 + 6 * r + 3) else 0) n + f (11 + 6 * n + 3)))) 2 (nI (um_sum (fun r => if f (11 + 6 * r) = i then f (11 + 6 * r + 2) else 0) n + f (11 + 6 * n + 2))))))] ++ Wo18) H := ub_P_perm List.perm_append_comm hP
            have hD : va_D A ([(b, .inr (1, [.ref v, .int 0, .int 0, .int (nI (ut_dd f 24).length)])), (v, .inl (g.2.2.2.1, cap, .inl a)), (q1, .inl (g.2.1, 4, .inl ah)), (q6, .inl (g.2.1, 5, .inl (upd (upd (upd s5 0 (nI (um_sum (fun r => um_b2n (decide (um_pa f r = i))) n + 1))) 1 (nI (um_sum (fun r => if f (11 + 6 * r) = i then f (11 + 6 * r + 3) else 0) n + f (11 + 6 * n + 3)))) 2 (nI (um_sum (fun r => if f (11 + 6 * r) = i then f (11 + 6 * r + 2) else 0) n + f (11 + 6 * n + 2))))))] ++ Wo18) := ub_D_perm List.perm_append_comm hD
            obtain ⟨hr, hR⟩ := hpost
            have er : r = nI (um_cnt (fun k => decide (f (83 + 3 * k) = n)) (f 1)) := hr.trans (uw_ropeOf6 hI (by omega))
            rw [er]
            refine lv_goto (tgt := 296) hx hb dL_parishes_292 (by decide) ?_
            refine lv_iadd hx hb dL_parishes_296 ?_
            refine us_topi (x := nI (um_sum (fun r => if f (11 + 6 * r) = i then um_cnt (fun k => decide (f (83 + 3 * k) = r)) (f 1) else 0) n + um_cnt (fun k => decide (f (83 + 3 * k) = n)) (f 1))) (nI_add (um_sum (fun r => if f (11 + 6 * r) = i then um_cnt (fun k => decide (f (83 + 3 * k) = r)) (f 1) else 0) n) (um_cnt (fun k => decide (f (83 + 3 * k) = n)) (f 1))) ?_
            refine va_iast hx hb hK hP hD hS 3 0 rfl rfl (i := nI 4) (vp_in_nI (n := 4) (by decide) (by decide)) dL_parishes_297 (fun H locs hP hD hS => ?_)
            rw [nI_clamp (show 4 < 2 ^ 31 by omega)] at hP hD
            have hP : va_P g.1 vwCl ([(b, .inr (1, [.ref v, .int 0, .int 0, .int (nI (ut_dd f 24).length)])), (v, .inl (g.2.2.2.1, cap, .inl a)), (q1, .inl (g.2.1, 4, .inl ah)), (q6, .inl (g.2.1, 5, .inl (upd (upd (upd (upd s5 0 (nI (um_sum (fun r => um_b2n (decide (um_pa f r = i))) n + 1))) 1 (nI (um_sum (fun r => if f (11 + 6 * r) = i then f (11 + 6 * r + 3) else 0) n + f (11 + 6 * n + 3)))) 2 (nI (um_sum (fun r => if f (11 + 6 * r) = i then f (11 + 6 * r + 2) else 0) n + f (11 + 6 * n + 2)))) 4 (nI (um_sum (fun r => if f (11 + 6 * r) = i then um_cnt (fun k => decide (f (83 + 3 * k) = r)) (f 1) else 0) n + um_cnt (fun k => decide (f (83 + 3 * k) = n)) (f 1))))))] ++ Wo18) H := hP
            have hD : va_D A ([(b, .inr (1, [.ref v, .int 0, .int 0, .int (nI (ut_dd f 24).length)])), (v, .inl (g.2.2.2.1, cap, .inl a)), (q1, .inl (g.2.1, 4, .inl ah)), (q6, .inl (g.2.1, 5, .inl (upd (upd (upd (upd s5 0 (nI (um_sum (fun r => um_b2n (decide (um_pa f r = i))) n + 1))) 1 (nI (um_sum (fun r => if f (11 + 6 * r) = i then f (11 + 6 * r + 3) else 0) n + f (11 + 6 * n + 3)))) 2 (nI (um_sum (fun r => if f (11 + 6 * r) = i then f (11 + 6 * r + 2) else 0) n + f (11 + 6 * n + 2)))) 4 (nI (um_sum (fun r => if f (11 + 6 * r) = i then um_cnt (fun k => decide (f (83 + 3 * k) = r)) (f 1) else 0) n + um_cnt (fun k => decide (f (83 + 3 * k) = n)) (f 1))))))] ++ Wo18) := hD
            refine lv_iinc (v := nI n + 1) (lv' := [(7, .int (nI n + 1)), (8, .int 1), (6, .ref q6), (5, .int (nI i)), (4, .int la), (0, .ref h0), (1, .ref q1), (2, .int (uz_z f 24)), (3, .ref b)]) hx hb dL_parishes_298 hl (k := 1) rfl rfl (by decide) rfl (fun ls hl => ?_)
            refine lv_goto (tgt := 182) hx hb dL_parishes_301 (by decide) ?_
            rw [nI_1] at hl
            exact ih1 (n + 1) (upd (upd (upd (upd s5 0 (nI (um_sum (fun r => um_b2n (decide (um_pa f r = i))) n + 1))) 1 (nI (um_sum (fun r => if f (11 + 6 * r) = i then f (11 + 6 * r + 3) else 0) n + f (11 + 6 * n + 3)))) 2 (nI (um_sum (fun r => if f (11 + 6 * r) = i then f (11 + 6 * r + 2) else 0) n + f (11 + 6 * n + 2)))) 4 (nI (um_sum (fun r => if f (11 + 6 * r) = i then um_cnt (fun k => decide (f (83 + 3 * k) = r)) (f 1) else 0) n + um_cnt (fun k => decide (f (83 + 3 * k) = n)) (f 1)))) Wo18 _ _ ls (by omega) (by show _ = nI (_ + um_b2n (decide (um_pa f n = i))); rw [decide_eq_true ho]; rfl) (by show _ = nI (_ + if f (11 + 6 * n) = i then _ else 0); rw [if_pos (show f (11 + 6 * n) = i from ho)]; rfl) (by show _ = nI (_ + if f (11 + 6 * n) = i then _ else 0); rw [if_pos (show f (11 + 6 * n) = i from ho)]; rfl) (by show _ = nI (_ + if f (11 + 6 * n) = i then _ else 0); rw [if_pos (show f (11 + 6 * n) = i from ho)]; rfl) s3 hR (lv_sub hl [0, 2, 3, 4, 5, 6, 7, 8] rfl) hP hD hS
          · refine lv_icmp_ne (tgt := 208) hx hb dL_parishes_201 (by decide) (fun _ => ?_) (fun cc => absurd cc (fun z => ho ((nI_eq (by omega) (by omega)).mp z)))
            refine lv_iconst (v := 0) hx hb dL_parishes_208 (by decide) ?_
            refine lv_istore (lv' := [(8, .int 0), (7, .int (nI n)), (6, .ref q6), (5, .int (nI i)), (4, .int la), (0, .ref h0), (1, .ref q1), (2, .int (uz_z f 24)), (3, .ref b)]) hx hb dL_parishes_209 hl (by decide) rfl (fun ls hl => ?_)
            refine lv_aload hx hb dL_parishes_211 (lv_at hl 2 rfl) ?_
            refine lv_iconst (v := 0) hx hb dL_parishes_213 (by decide) ?_
            refine lv_dup2_11 hx hb dL_parishes_214 rfl rfl ?_
            refine va_iald hx hb hK hP 3 0 rfl rfl (i := nI 0) (vp_in_nI (n := 0) (by decide) (by decide)) dL_parishes_215 ?_
            refine us_topi (x := nI (um_sum (fun r => um_b2n (decide (um_pa f r = i))) n)) s0 ?_
            refine lv_iload hx hb dL_parishes_216 (lv_at hl 0 rfl) ?_
            refine lv_if_eq (tgt := 225) hx hb dL_parishes_218 (by decide) (fun _ => ?_) (fun cc => absurd rfl cc)
            refine lv_iconst (v := 0) hx hb dL_parishes_225 (by decide) ?_
            refine lv_iadd hx hb dL_parishes_226 ?_
            refine us_topi (x := nI (um_sum (fun r => um_b2n (decide (um_pa f r = i))) n + 0)) (nI_add (um_sum (fun r => um_b2n (decide (um_pa f r = i))) n) 0) ?_
            refine va_iast hx hb hK hP hD hS 3 0 rfl rfl (i := nI 0) (vp_in_nI (n := 0) (by decide) (by decide)) dL_parishes_227 (fun H locs hP hD hS => ?_)
            rw [nI_clamp (show 0 < 2 ^ 31 by omega)] at hP hD
            have hP : va_P g.1 vwCl ([(b, .inr (1, [.ref v, .int 0, .int 0, .int (nI (ut_dd f 24).length)])), (v, .inl (g.2.2.2.1, cap, .inl a)), (q1, .inl (g.2.1, 4, .inl ah)), (q6, .inl (g.2.1, 5, .inl (upd s5 0 (nI (um_sum (fun r => um_b2n (decide (um_pa f r = i))) n + 0)))))] ++ Wo15) H := hP
            have hD : va_D A ([(b, .inr (1, [.ref v, .int 0, .int 0, .int (nI (ut_dd f 24).length)])), (v, .inl (g.2.2.2.1, cap, .inl a)), (q1, .inl (g.2.1, 4, .inl ah)), (q6, .inl (g.2.1, 5, .inl (upd s5 0 (nI (um_sum (fun r => um_b2n (decide (um_pa f r = i))) n + 0)))))] ++ Wo15) := hD
            refine lv_aload hx hb dL_parishes_228 (lv_at hl 2 rfl) ?_
            refine lv_iconst (v := 1) hx hb dL_parishes_230 (by decide) ?_
            refine lv_dup2_11 hx hb dL_parishes_231 rfl rfl ?_
            refine va_iald hx hb hK hP 3 0 rfl rfl (i := nI 1) (vp_in_nI (n := 1) (by decide) (by decide)) dL_parishes_232 ?_
            refine us_topi (x := nI (um_sum (fun r => if f (11 + 6 * r) = i then f (11 + 6 * r + 3) else 0) n)) s1 ?_
            refine lv_iload hx hb dL_parishes_233 (lv_at hl 0 rfl) ?_
            refine lv_if_eq (tgt := 248) hx hb dL_parishes_235 (by decide) (fun _ => ?_) (fun cc => absurd rfl cc)
            refine lv_iconst (v := 0) hx hb dL_parishes_248 (by decide) ?_
            refine lv_iadd hx hb dL_parishes_249 ?_
            refine us_topi (x := nI (um_sum (fun r => if f (11 + 6 * r) = i then f (11 + 6 * r + 3) else 0) n + 0)) (nI_add (um_sum (fun r => if f (11 + 6 * r) = i then f (11 + 6 * r + 3) else 0) n) 0) ?_
            refine va_iast hx hb hK hP hD hS 3 0 rfl rfl (i := nI 1) (vp_in_nI (n := 1) (by decide) (by decide)) dL_parishes_250 (fun H locs hP hD hS => ?_)
            rw [nI_clamp (show 1 < 2 ^ 31 by omega)] at hP hD
            have hP : va_P g.1 vwCl ([(b, .inr (1, [.ref v, .int 0, .int 0, .int (nI (ut_dd f 24).length)])), (v, .inl (g.2.2.2.1, cap, .inl a)), (q1, .inl (g.2.1, 4, .inl ah)), (q6, .inl (g.2.1, 5, .inl (upd (upd s5 0 (nI (um_sum (fun r => um_b2n (decide (um_pa f r = i))) n + 0))) 1 (nI (um_sum (fun r => if f (11 + 6 * r) = i then f (11 + 6 * r + 3) else 0) n + 0)))))] ++ Wo15) H := hP
            have hD : va_D A ([(b, .inr (1, [.ref v, .int 0, .int 0, .int (nI (ut_dd f 24).length)])), (v, .inl (g.2.2.2.1, cap, .inl a)), (q1, .inl (g.2.1, 4, .inl ah)), (q6, .inl (g.2.1, 5, .inl (upd (upd s5 0 (nI (um_sum (fun r => um_b2n (decide (um_pa f r = i))) n + 0))) 1 (nI (um_sum (fun r => if f (11 + 6 * r) = i then f (11 + 6 * r + 3) else 0) n + 0)))))] ++ Wo15) := hD
            refine lv_aload hx hb dL_parishes_251 (lv_at hl 2 rfl) ?_
            refine lv_iconst (v := 2) hx hb dL_parishes_253 (by decide) ?_
            refine lv_dup2_11 hx hb dL_parishes_254 rfl rfl ?_
            refine va_iald hx hb hK hP 3 0 rfl rfl (i := nI 2) (vp_in_nI (n := 2) (by decide) (by decide)) dL_parishes_255 ?_
            refine us_topi (x := nI (um_sum (fun r => if f (11 + 6 * r) = i then f (11 + 6 * r + 2) else 0) n)) s2 ?_
            refine lv_iload hx hb dL_parishes_256 (lv_at hl 0 rfl) ?_
            refine lv_if_eq (tgt := 271) hx hb dL_parishes_258 (by decide) (fun _ => ?_) (fun cc => absurd rfl cc)
            refine lv_iconst (v := 0) hx hb dL_parishes_271 (by decide) ?_
            refine lv_iadd hx hb dL_parishes_272 ?_
            refine us_topi (x := nI (um_sum (fun r => if f (11 + 6 * r) = i then f (11 + 6 * r + 2) else 0) n + 0)) (nI_add (um_sum (fun r => if f (11 + 6 * r) = i then f (11 + 6 * r + 2) else 0) n) 0) ?_
            refine va_iast hx hb hK hP hD hS 3 0 rfl rfl (i := nI 2) (vp_in_nI (n := 2) (by decide) (by decide)) dL_parishes_273 (fun H locs hP hD hS => ?_)
            rw [nI_clamp (show 2 < 2 ^ 31 by omega)] at hP hD
            have hP : va_P g.1 vwCl ([(b, .inr (1, [.ref v, .int 0, .int 0, .int (nI (ut_dd f 24).length)])), (v, .inl (g.2.2.2.1, cap, .inl a)), (q1, .inl (g.2.1, 4, .inl ah)), (q6, .inl (g.2.1, 5, .inl (upd (upd (upd s5 0 (nI (um_sum (fun r => um_b2n (decide (um_pa f r = i))) n + 0))) 1 (nI (um_sum (fun r => if f (11 + 6 * r) = i then f (11 + 6 * r + 3) else 0) n + 0))) 2 (nI (um_sum (fun r => if f (11 + 6 * r) = i then f (11 + 6 * r + 2) else 0) n + 0)))))] ++ Wo15) H := hP
            have hD : va_D A ([(b, .inr (1, [.ref v, .int 0, .int 0, .int (nI (ut_dd f 24).length)])), (v, .inl (g.2.2.2.1, cap, .inl a)), (q1, .inl (g.2.1, 4, .inl ah)), (q6, .inl (g.2.1, 5, .inl (upd (upd (upd s5 0 (nI (um_sum (fun r => um_b2n (decide (um_pa f r = i))) n + 0))) 1 (nI (um_sum (fun r => if f (11 + 6 * r) = i then f (11 + 6 * r + 3) else 0) n + 0))) 2 (nI (um_sum (fun r => if f (11 + 6 * r) = i then f (11 + 6 * r + 2) else 0) n + 0)))))] ++ Wo15) := hD
            refine lv_aload hx hb dL_parishes_274 (lv_at hl 2 rfl) ?_
            refine lv_iconst (v := 4) hx hb dL_parishes_276 (by decide) ?_
            refine lv_dup2_11 hx hb dL_parishes_277 rfl rfl ?_
            refine va_iald hx hb hK hP 3 0 rfl rfl (i := nI 4) (vp_in_nI (n := 4) (by decide) (by decide)) dL_parishes_278 ?_
            refine us_topi (x := nI (um_sum (fun r => if f (11 + 6 * r) = i then um_cnt (fun k => decide (f (83 + 3 * k) = r)) (f 1) else 0) n)) s4 ?_
            refine lv_iload hx hb dL_parishes_279 (lv_at hl 0 rfl) ?_
            refine lv_if_eq (tgt := 295) hx hb dL_parishes_281 (by decide) (fun _ => ?_) (fun cc => absurd rfl cc)
            refine lv_iconst (v := 0) hx hb dL_parishes_295 (by decide) ?_
            refine lv_iadd hx hb dL_parishes_296 ?_
            refine us_topi (x := nI (um_sum (fun r => if f (11 + 6 * r) = i then um_cnt (fun k => decide (f (83 + 3 * k) = r)) (f 1) else 0) n + 0)) (nI_add (um_sum (fun r => if f (11 + 6 * r) = i then um_cnt (fun k => decide (f (83 + 3 * k) = r)) (f 1) else 0) n) 0) ?_
            refine va_iast hx hb hK hP hD hS 3 0 rfl rfl (i := nI 4) (vp_in_nI (n := 4) (by decide) (by decide)) dL_parishes_297 (fun H locs hP hD hS => ?_)
            rw [nI_clamp (show 4 < 2 ^ 31 by omega)] at hP hD
            have hP : va_P g.1 vwCl ([(b, .inr (1, [.ref v, .int 0, .int 0, .int (nI (ut_dd f 24).length)])), (v, .inl (g.2.2.2.1, cap, .inl a)), (q1, .inl (g.2.1, 4, .inl ah)), (q6, .inl (g.2.1, 5, .inl (upd (upd (upd (upd s5 0 (nI (um_sum (fun r => um_b2n (decide (um_pa f r = i))) n + 0))) 1 (nI (um_sum (fun r => if f (11 + 6 * r) = i then f (11 + 6 * r + 3) else 0) n + 0))) 2 (nI (um_sum (fun r => if f (11 + 6 * r) = i then f (11 + 6 * r + 2) else 0) n + 0))) 4 (nI (um_sum (fun r => if f (11 + 6 * r) = i then um_cnt (fun k => decide (f (83 + 3 * k) = r)) (f 1) else 0) n + 0)))))] ++ Wo15) H := hP
            have hD : va_D A ([(b, .inr (1, [.ref v, .int 0, .int 0, .int (nI (ut_dd f 24).length)])), (v, .inl (g.2.2.2.1, cap, .inl a)), (q1, .inl (g.2.1, 4, .inl ah)), (q6, .inl (g.2.1, 5, .inl (upd (upd (upd (upd s5 0 (nI (um_sum (fun r => um_b2n (decide (um_pa f r = i))) n + 0))) 1 (nI (um_sum (fun r => if f (11 + 6 * r) = i then f (11 + 6 * r + 3) else 0) n + 0))) 2 (nI (um_sum (fun r => if f (11 + 6 * r) = i then f (11 + 6 * r + 2) else 0) n + 0))) 4 (nI (um_sum (fun r => if f (11 + 6 * r) = i then um_cnt (fun k => decide (f (83 + 3 * k) = r)) (f 1) else 0) n + 0)))))] ++ Wo15) := hD
            refine lv_iinc (v := nI n + 1) (lv' := [(7, .int (nI n + 1)), (8, .int 0), (6, .ref q6), (5, .int (nI i)), (4, .int la), (0, .ref h0), (1, .ref q1), (2, .int (uz_z f 24)), (3, .ref b)]) hx hb dL_parishes_298 hl (k := 1) rfl rfl (by decide) rfl (fun ls hl => ?_)
            refine lv_goto (tgt := 182) hx hb dL_parishes_301 (by decide) ?_
            rw [nI_1] at hl
            exact ih1 (n + 1) (upd (upd (upd (upd s5 0 (nI (um_sum (fun r => um_b2n (decide (um_pa f r = i))) n + 0))) 1 (nI (um_sum (fun r => if f (11 + 6 * r) = i then f (11 + 6 * r + 3) else 0) n + 0))) 2 (nI (um_sum (fun r => if f (11 + 6 * r) = i then f (11 + 6 * r + 2) else 0) n + 0))) 4 (nI (um_sum (fun r => if f (11 + 6 * r) = i then um_cnt (fun k => decide (f (83 + 3 * k) = r)) (f 1) else 0) n + 0))) Wo15 _ _ ls (by omega) (by show _ = nI (_ + um_b2n (decide (um_pa f n = i))); rw [decide_eq_false ho]; rfl) (by show _ = nI (_ + if f (11 + 6 * n) = i then _ else 0); rw [if_neg (show ¬ f (11 + 6 * n) = i from ho)]; rfl) (by show _ = nI (_ + if f (11 + 6 * n) = i then _ else 0); rw [if_neg (show ¬ f (11 + 6 * n) = i from ho)]; rfl) (by show _ = nI (_ + if f (11 + 6 * n) = i then _ else 0); rw [if_neg (show ¬ f (11 + 6 * n) = i from ho)]; rfl) s3 hR (lv_sub hl [0, 2, 3, 4, 5, 6, 7, 8] rfl) hP hD hS
      exact loopS (f 0) 0 (fun _ => 0) Wo _ _ ls (by omega) rfl rfl rfl rfl rfl hR (lv_sub hl [0, 1, 2, 3, 4, 5, 6, 7] rfl) hP hD hS
  have loopH : ∀ (q i : Nat) (v : Nat) (cap : Nat) (k0 : Nat) (a : Nat → Int32) (ah : Nat → Int32) (Wo : va_W) (H : Heap) (locs : List Loc) (ls : Array Slot), 24 = i + q → us_B (ut_dd f i) cap k0 a → (∀ p, p < 4 → ah p = nI (um_cnt (fun h => decide (um_guess (um_pa f) (f 0) (f (211 + h)) = nI p)) i)) → uo_W g h0 k f hist sv lr ld L Wo → lv_has ls 9 [(4, .int (nI i)), (0, .ref h0), (1, .ref q1), (2, .int (uz_z f i)), (3, .ref b)] → va_P g.1 vwCl ([(b, .inr (1, [.ref v, .int 0, .int 0, .int (nI (ut_dd f i).length)])), (v, .inl (g.2.2.2.1, cap, .inl a)), (q1, .inl (g.2.1, 4, .inl ah))] ++ Wo) H → va_D A ([(b, .inr (1, [.ref v, .int 0, .int 0, .int (nI (ut_dd f i).length)])), (v, .inl (g.2.2.2.1, cap, .inl a)), (q1, .inl (g.2.1, 4, .inl ah))] ++ Wo) → va_S A s.heap H locs → W p l e ({ frames := 7, cells := 100, slots := 2000, locals := 160 } : Room) s m args below meth c H locs ((3 + 2 * i) + k0) ((24 + 8 * i) + 2 * cap) Q (F0 m 19 ls []) := by
    intro q
    induction q with
    | zero =>
      intro i v cap k0 a ah Wo H locs ls hiq hB gh hR hl hP hD hS
      have ei : i = 24 := by omega
      refine lv_iload hx hb dL_parishes_19 (lv_at hl 0 rfl) ?_
      refine lv_bipush (v := 24) hx hb dL_parishes_21 (by decide) ?_
      refine lv_icmp_ge (tgt := 162) hx hb dL_parishes_23 (by decide) (fun _ => ?_) (fun cc => absurd (nI_le (a := 24) (by omega) (by omega)) cc)
      rw [ei] at hB gh hl hP hD
      refine lv_iconst (v := (-1)) hx hb dL_parishes_162 (by decide) ?_
      refine lv_istore (lv' := [(4, .int (-1)), (0, .ref h0), (1, .ref q1), (2, .int (uz_z f 24)), (3, .ref b)]) hx hb dL_parishes_163 hl (by decide) rfl (fun ls hl => ?_)
      refine lv_iconst (v := 0) hx hb dL_parishes_165 (by decide) ?_
      refine lv_istore (lv' := [(5, .int 0), (4, .int (-1)), (0, .ref h0), (1, .ref q1), (2, .int (uz_z f 24)), (3, .ref b)]) hx hb dL_parishes_166 hl (by decide) rfl (fun ls hl => ?_)
      refine W.widen (k := 51 + 0 + k0) (n := 216 + 5 * 0 + 2 * cap) (by omega) (by omega) ?_
      exact loopP 4 0 v cap k0 a ah (-1) Wo _ _ ls (by omega) hB gh (Or.inl ⟨rfl, rfl⟩) hR (lv_sub hl [0, 1, 2, 3, 4, 5] rfl) hP hD hS
    | succ q ih =>
      intro i v cap k0 a ah Wo H locs ls hiq hB gh hR hl hP hD hS
      have hi4 : i < 24 := by omega
      have fH := um_I_set hI hi4
      have h6 := hJ.2.2.2.2.2 i hi4
      have hln1 := ut_dd_len hg4 i (by omega)
      have hln2 := ut_dd_len hg4 (i + 1) (by omega)
      obtain ⟨hk3, -⟩ := us_B_k hB (Nat.le_trans (ut_dd_len hg4 i (by omega)) (by omega))
      have hq3 := hB.2.2.2.2
      have hl3 := (ut_dd_len hg4 i (by omega))
      refine lv_iload hx hb dL_parishes_19 (lv_at hl 0 rfl) ?_
      refine lv_bipush (v := 24) hx hb dL_parishes_21 (by decide) ?_
      refine lv_icmp_ge (tgt := 162) hx hb dL_parishes_23 (by decide) (fun cc => absurd cc (nI_ge (b := 24) (by omega) (by decide))) (fun _ => ?_)
      refine lv_aload_n hx hb dL_parishes_26 rfl (lv_at hl 1 rfl) ?_
      refine lv_iload hx hb dL_parishes_27 (lv_at hl 0 rfl) ?_
      have hpm : List.Perm (([(b, .inr (1, [.ref v, .int 0, .int 0, .int (nI (ut_dd f i).length)])), (v, .inl (g.2.2.2.1, cap, .inl a)), (q1, .inl (g.2.1, 4, .inl ah))] ++ Wo) : va_W) (Wo ++ [(b, .inr (1, [.ref v, .int 0, .int 0, .int (nI (ut_dd f i).length)])), (v, .inl (g.2.2.2.1, cap, .inl a)), (q1, .inl (g.2.1, 4, .inl ah))]) := List.perm_append_comm
      have hFc := ub_freeP hD hS hA hpm
      obtain ⟨hPc, hDc⟩ := ub_subP hP hD hpm
      refine us_calli (va_runS (As := [.ref h0, .int (nI i)]) (rest := []) ⟨hx, hb, hml, hown, hts⟩ (ul_guess l g hR hi4) (va_cwS 2 hts gu_RL_147 rfl rfl rfl us_hL_guess ⟨Nat.le_of_ble_eq_true rfl, Nat.le_of_ble_eq_true rfl⟩) (us_preS hZ hS hFc hPc hDc hK hN) rfl rfl hl.1 rfl (lv_room (Nat.le_of_ble_eq_true rfl)) dL_parishes_29 ⟨by show ((3 + 2 * i) + k0) + 2 ≤ 100; omega, by show ((24 + 8 * i) + 2 * cap) + 8 ≤ 2000; omega⟩) hP hD hS hA hpm (fun r Wo19 H locs hpost hP hD hS => ?_)
      obtain ⟨hr, hR⟩ := hpost
      have hP : va_P g.1 vwCl ([(b, .inr (1, [.ref v, .int 0, .int 0, .int (nI (ut_dd f i).length)])), (v, .inl (g.2.2.2.1, cap, .inl a)), (q1, .inl (g.2.1, 4, .inl ah))] ++ Wo19) H := ub_P_perm List.perm_append_comm hP
      have hD : va_D A ([(b, .inr (1, [.ref v, .int 0, .int 0, .int (nI (ut_dd f i).length)])), (v, .inl (g.2.2.2.1, cap, .inl a)), (q1, .inl (g.2.1, 4, .inl ah))] ++ Wo19) := ub_D_perm List.perm_append_comm hD
      refine W.widen (k := ((3 + 2 * i) + 2) + k0) (n := ((24 + 8 * i) + 8) + 2 * cap) (by omega) (by omega) ?_
      by_cases hz : f (211 + i) = 0
      · have eG : um_guess (um_pa f) (f 0) (f (211 + i)) = -1015 := by rw [hz]; exact um_gp_0
        have er := hr.trans eG
        rw [er]
        refine lv_istore (lv' := [(5, .int (-1015)), (4, .int (nI i)), (0, .ref h0), (1, .ref q1), (2, .int (uz_z f i)), (3, .ref b)]) hx hb dL_parishes_32 hl (by decide) rfl (fun ls hl => ?_)
        refine lv_iload hx hb dL_parishes_34 (lv_at hl 0 rfl) ?_
        refine lv_if_lt (tgt := 81) hx hb dL_parishes_36 (by decide) (fun _ => ?_) (fun cc => absurd (show (-1015 : Int32) < 0 by decide) cc)
        refine lv_iload hx hb dL_parishes_81 (lv_at hl 0 rfl) ?_
        refine lv_if_lt (tgt := 115) hx hb dL_parishes_83 (by decide) (fun _ => ?_) (fun cc => absurd (show (-1015 : Int32) < 0 by decide) cc)
        refine lv_iload_n hx hb dL_parishes_115 rfl (lv_at hl 4 rfl) ?_
        refine lv_istore_n (lv' := [(2, .int (uz_z f i)), (5, .int (-1015)), (4, .int (nI i)), (0, .ref h0), (1, .ref q1), (3, .ref b)]) hx hb dL_parishes_116 rfl hl (by decide) rfl (fun ls hl => ?_)
        have ez := uz_no hz
        rw [← ez] at hl
        have ed : ut_dd f i = ut_dd f (i + 1) := by rw [ut_dd]; unfold ut_dayS; rw [if_pos hz]
        have et4 : (ut_dd f i) = (ut_dd f (i + 1)) := ed
        rw [et4] at hB hP hD
        have hn4 : ((ut_dd f (i + 1)) : List Nat).length ≤ (5 * (i + 1)) := hln2
        refine lv_aload_n hx hb dL_parishes_117 rfl (lv_at hl 3 rfl) ?_
        refine lv_iload hx hb dL_parishes_118 (lv_at hl 2 rfl) ?_
        have hpm : List.Perm (([(b, .inr (1, [.ref v, .int 0, .int 0, .int (nI (ut_dd f (i + 1)).length)])), (v, .inl (g.2.2.2.1, cap, .inl a)), (q1, .inl (g.2.1, 4, .inl ah))] ++ Wo19) : va_W) (Wo19 ++ [(b, .inr (1, [.ref v, .int 0, .int 0, .int (nI (ut_dd f (i + 1)).length)])), (v, .inl (g.2.2.2.1, cap, .inl a)), (q1, .inl (g.2.1, 4, .inl ah))]) := List.perm_append_comm
        have hFc := ub_freeP hD hS hA hpm
        obtain ⟨hPc, hDc⟩ := ub_subP hP hD hpm
        refine us_calli (va_runV (As := [.int (nI i)]) (rest := []) ⟨hx, hb, hml, hown, hts⟩ (uo_guess l g hR (x := (nI i))) (cwV 1 hts gu_RL_159 rfl rfl rfl ⟨rfl, uhX8_guess⟩ ⟨Nat.le_of_ble_eq_true rfl, Nat.le_of_ble_eq_true rfl⟩) (us_preO hR hZ hS hFc hPc hDc hK hN) rfl rfl hl.1 rfl (lv_room (Nat.le_of_ble_eq_true rfl)) dL_parishes_120 ⟨Nat.le_trans (Nat.le_of_eq (Nat.add_zero _)) (by show (((3 + 2 * i) + 2) + k0) ≤ 100; omega), Nat.le_trans (Nat.le_of_eq (Nat.add_zero _)) (by show (((24 + 8 * i) + 8) + 2 * cap) ≤ 2000; omega)⟩) hP hD hS hA hpm (fun r Wo20 H locs hpost hP hD hS => ?_)
        have hP : va_P g.1 vwCl ([(b, .inr (1, [.ref v, .int 0, .int 0, .int (nI (ut_dd f (i + 1)).length)])), (v, .inl (g.2.2.2.1, cap, .inl a)), (q1, .inl (g.2.1, 4, .inl ah))] ++ Wo20) H := ub_P_perm List.perm_append_comm hP
        have hD : va_D A ([(b, .inr (1, [.ref v, .int 0, .int 0, .int (nI (ut_dd f (i + 1)).length)])), (v, .inl (g.2.2.2.1, cap, .inl a)), (q1, .inl (g.2.1, 4, .inl ah))] ++ Wo20) := ub_D_perm List.perm_append_comm hD
        obtain ⟨hr, hR⟩ := hpost
        have er : r = (-1015) := (hr.trans (uw_guess hI hi4)).trans eG
        rw [er]
        refine lv_iload hx hb dL_parishes_123 (lv_at hl 1 rfl) ?_
        refine lv_icmp_ne (tgt := 154) hx hb dL_parishes_125 (by decide) (fun cc => absurd rfl cc) (fun _ => ?_)
        refine lv_aload_n hx hb dL_parishes_128 rfl (lv_at hl 3 rfl) ?_
        refine lv_iload hx hb dL_parishes_129 (lv_at hl 2 rfl) ?_
        have hpm : List.Perm (([(b, .inr (1, [.ref v, .int 0, .int 0, .int (nI (ut_dd f (i + 1)).length)])), (v, .inl (g.2.2.2.1, cap, .inl a)), (q1, .inl (g.2.1, 4, .inl ah))] ++ Wo20) : va_W) (Wo20 ++ [(b, .inr (1, [.ref v, .int 0, .int 0, .int (nI (ut_dd f (i + 1)).length)])), (v, .inl (g.2.2.2.1, cap, .inl a)), (q1, .inl (g.2.1, 4, .inl ah))]) := List.perm_append_comm
        have hFc := ub_freeP hD hS hA hpm
        obtain ⟨hPc, hDc⟩ := ub_subP hP hD hpm
        refine us_calli (va_runV (As := [.int (nI i)]) (rest := []) ⟨hx, hb, hml, hown, hts⟩ (uo_guessAgain l g hR (x := (nI i))) (cwV 1 hts gu_RL_161 rfl rfl rfl ⟨rfl, uhX8_guessAgain⟩ ⟨Nat.le_of_ble_eq_true rfl, Nat.le_of_ble_eq_true rfl⟩) (us_preO hR hZ hS hFc hPc hDc hK hN) rfl rfl hl.1 rfl (lv_room (Nat.le_of_ble_eq_true rfl)) dL_parishes_131 ⟨Nat.le_trans (Nat.le_of_eq (Nat.add_zero _)) (by show (((3 + 2 * i) + 2) + k0) ≤ 100; omega), Nat.le_trans (Nat.le_of_eq (Nat.add_zero _)) (by show (((24 + 8 * i) + 8) + 2 * cap) ≤ 2000; omega)⟩) hP hD hS hA hpm (fun r Wo21 H locs hpost hP hD hS => ?_)
        have hP : va_P g.1 vwCl ([(b, .inr (1, [.ref v, .int 0, .int 0, .int (nI (ut_dd f (i + 1)).length)])), (v, .inl (g.2.2.2.1, cap, .inl a)), (q1, .inl (g.2.1, 4, .inl ah))] ++ Wo21) H := ub_P_perm List.perm_append_comm hP
        have hD : va_D A ([(b, .inr (1, [.ref v, .int 0, .int 0, .int (nI (ut_dd f (i + 1)).length)])), (v, .inl (g.2.2.2.1, cap, .inl a)), (q1, .inl (g.2.1, 4, .inl ah))] ++ Wo21) := ub_D_perm List.perm_append_comm hD
        obtain ⟨hr, hR⟩ := hpost
        have er : r = (-1015) := (hr.trans (uw_guess hI hi4)).trans eG
        rw [er]
        refine lv_iload hx hb dL_parishes_134 (lv_at hl 1 rfl) ?_
        refine lv_icmp_ne (tgt := 154) hx hb dL_parishes_136 (by decide) (fun cc => absurd rfl cc) (fun _ => ?_)
        refine lv_iload hx hb dL_parishes_139 (lv_at hl 2 rfl) ?_
        refine lv_aload_n hx hb dL_parishes_141 rfl (lv_at hl 3 rfl) ?_
        refine lv_iconst (v := 2) hx hb dL_parishes_142 (by decide) ?_
        have hpm : List.Perm (([(b, .inr (1, [.ref v, .int 0, .int 0, .int (nI (ut_dd f (i + 1)).length)])), (v, .inl (g.2.2.2.1, cap, .inl a)), (q1, .inl (g.2.1, 4, .inl ah))] ++ Wo21) : va_W) (Wo21 ++ [(b, .inr (1, [.ref v, .int 0, .int 0, .int (nI (ut_dd f (i + 1)).length)])), (v, .inl (g.2.2.2.1, cap, .inl a)), (q1, .inl (g.2.1, 4, .inl ah))]) := List.perm_append_comm
        have hFc := ub_freeP hD hS hA hpm
        obtain ⟨hPc, hDc⟩ := ub_subP hP hD hpm
        refine us_calli (va_runV (As := [.int 2]) (rest := [.int (nI i)]) ⟨hx, hb, hml, hown, hts⟩ (uo_account l g hR (x := 2)) (cwV 1 hts gu_RL_34 rfl rfl rfl ⟨rfl, uhX8_account⟩ ⟨Nat.le_of_ble_eq_true rfl, Nat.le_of_ble_eq_true rfl⟩) (us_preO hR hZ hS hFc hPc hDc hK hN) rfl rfl hl.1 rfl (lv_room (Nat.le_of_ble_eq_true rfl)) dL_parishes_143 ⟨Nat.le_trans (Nat.le_of_eq (Nat.add_zero _)) (by show (((3 + 2 * i) + 2) + k0) ≤ 100; omega), Nat.le_trans (Nat.le_of_eq (Nat.add_zero _)) (by show (((24 + 8 * i) + 8) + 2 * cap) ≤ 2000; omega)⟩) hP hD hS hA hpm (fun r Wo22 H locs hpost hP hD hS => ?_)
        have hP : va_P g.1 vwCl ([(b, .inr (1, [.ref v, .int 0, .int 0, .int (nI (ut_dd f (i + 1)).length)])), (v, .inl (g.2.2.2.1, cap, .inl a)), (q1, .inl (g.2.1, 4, .inl ah))] ++ Wo22) H := ub_P_perm List.perm_append_comm hP
        have hD : va_D A ([(b, .inr (1, [.ref v, .int 0, .int 0, .int (nI (ut_dd f (i + 1)).length)])), (v, .inl (g.2.2.2.1, cap, .inl a)), (q1, .inl (g.2.1, 4, .inl ah))] ++ Wo22) := ub_D_perm List.perm_append_comm hD
        obtain ⟨hr, hR⟩ := hpost
        have er : r = nI (f 2) := by rw [hr]; rfl
        rw [er]
        have f2 := hI.2.2.2.1
        by_cases hle : i ≤ f 2
        · refine lv_icmp_le (tgt := 156) hx hb dL_parishes_146 (by decide) (fun _ => ?_) (fun cc => absurd (nI_le hle (by omega)) cc)
          refine lv_iinc (v := nI i + 1) (lv' := [(4, .int (nI i + 1)), (2, .int (uz_z f (i + 1))), (5, .int (-1015)), (0, .ref h0), (1, .ref q1), (3, .ref b)]) hx hb dL_parishes_156 hl (k := 2) rfl rfl (by decide) rfl (fun ls hl => ?_)
          refine lv_goto (tgt := 19) hx hb dL_parishes_159 (by decide) ?_
          rw [nI_1] at hl
          refine W.widen (k := 3 + 2 * (i + 1) + k0) (n := 24 + 8 * (i + 1) + 2 * cap) (by omega) (by omega) ?_
          exact ih (i + 1) v cap k0 a ah Wo22 _ _ ls (by omega) hB (ug_same4 (b := fun p => fun h => decide (um_guess (um_pa f) (f 0) (f (211 + h)) = nI p)) gh (fun p hp => decide_eq_false (fun z => ug_m1015 p hp (eG.symm.trans z)))) hR (lv_sub hl [0, 3, 4, 1, 5] rfl) hP hD hS
        · refine lv_icmp_le (tgt := 156) hx hb dL_parishes_146 (by decide) (fun cc => absurd cc (nI_ge (by omega) (by omega))) (fun _ => ?_)
          refine lv_iload hx hb dL_parishes_149 (lv_at hl 1 rfl) ?_
          refine lv_if_lt (tgt := 156) hx hb dL_parishes_151 (by decide) (fun _ => ?_) (fun cc => absurd (show (-1015 : Int32) < 0 by decide) cc)
          refine lv_iinc (v := nI i + 1) (lv' := [(4, .int (nI i + 1)), (2, .int (uz_z f (i + 1))), (5, .int (-1015)), (0, .ref h0), (1, .ref q1), (3, .ref b)]) hx hb dL_parishes_156 hl (k := 2) rfl rfl (by decide) rfl (fun ls hl => ?_)
          refine lv_goto (tgt := 19) hx hb dL_parishes_159 (by decide) ?_
          rw [nI_1] at hl
          refine W.widen (k := 3 + 2 * (i + 1) + k0) (n := 24 + 8 * (i + 1) + 2 * cap) (by omega) (by omega) ?_
          exact ih (i + 1) v cap k0 a ah Wo22 _ _ ls (by omega) hB (ug_same4 (b := fun p => fun h => decide (um_guess (um_pa f) (f 0) (f (211 + h)) = nI p)) gh (fun p hp => decide_eq_false (fun z => ug_m1015 p hp (eG.symm.trans z)))) hR (lv_sub hl [0, 3, 4, 1, 5] rfl) hP hD hS
      · obtain ⟨eG, g4⟩ := hgD i hi4 hz
        have er := hr.trans eG
        rw [er]
        refine lv_istore (lv' := [(5, .int (nI (ut_gv f i))), (4, .int (nI i)), (0, .ref h0), (1, .ref q1), (2, .int (uz_z f i)), (3, .ref b)]) hx hb dL_parishes_32 hl (by decide) rfl (fun ls hl => ?_)
        refine lv_iload hx hb dL_parishes_34 (lv_at hl 0 rfl) ?_
        refine lv_if_lt (tgt := 81) hx hb dL_parishes_36 (by decide) (fun cc => absurd cc (nI_pos (by omega))) (fun _ => ?_)
        refine lv_aload_n hx hb dL_parishes_39 rfl (lv_at hl 3 rfl) ?_
        refine lv_iload hx hb dL_parishes_40 (lv_at hl 0 rfl) ?_
        refine lv_dup2_11 hx hb dL_parishes_42 rfl rfl ?_
        refine va_iald hx hb hK hP 2 0 rfl rfl (i := nI (ut_gv f i)) (vp_in_nI g4 (by decide)) dL_parishes_43 ?_
        refine us_topi (x := nI (um_cnt (fun h => decide (um_guess (um_pa f) (f 0) (f (211 + h)) = nI (ut_gv f i))) i)) (by rw [nI_clamp (by omega)]; exact gh _ g4) ?_
        refine lv_iconst (v := 1) hx hb dL_parishes_44 (by decide) ?_
        refine lv_iadd hx hb dL_parishes_45 ?_
        refine us_topi (x := nI (um_cnt (fun h => decide (um_guess (um_pa f) (f 0) (f (211 + h)) = nI (ut_gv f i))) i + 1)) (nI_1 _) ?_
        refine va_iast hx hb hK hP hD hS 2 0 rfl rfl (i := nI (ut_gv f i)) (vp_in_nI g4 (by decide)) dL_parishes_46 (fun H locs hP hD hS => ?_)
        rw [nI_clamp (show ut_gv f i < 2 ^ 31 by omega)] at hP hD
        have hP : va_P g.1 vwCl ([(b, .inr (1, [.ref v, .int 0, .int 0, .int (nI (ut_dd f i).length)])), (v, .inl (g.2.2.2.1, cap, .inl a)), (q1, .inl (g.2.1, 4, .inl (upd ah (ut_gv f i) (nI (um_cnt (fun h => decide (um_guess (um_pa f) (f 0) (f (211 + h)) = nI (ut_gv f i))) i + 1)))))] ++ Wo19) H := hP
        have hD : va_D A ([(b, .inr (1, [.ref v, .int 0, .int 0, .int (nI (ut_dd f i).length)])), (v, .inl (g.2.2.2.1, cap, .inl a)), (q1, .inl (g.2.1, 4, .inl (upd ah (ut_gv f i) (nI (um_cnt (fun h => decide (um_guess (um_pa f) (f 0) (f (211 + h)) = nI (ut_gv f i))) i + 1)))))] ++ Wo19) := hD
        refine lv_aload_n hx hb dL_parishes_47 rfl (lv_at hl 5 rfl) ?_
        refine lv_aload_n hx hb dL_parishes_48 rfl (lv_at hl 5 rfl) ?_
        have hpm : List.Perm (([(b, .inr (1, [.ref v, .int 0, .int 0, .int (nI (ut_dd f i).length)])), (v, .inl (g.2.2.2.1, cap, .inl a)), (q1, .inl (g.2.1, 4, .inl (upd ah (ut_gv f i) (nI (um_cnt (fun h => decide (um_guess (um_pa f) (f 0) (f (211 + h)) = nI (ut_gv f i))) i + 1)))))] ++ Wo19) : va_W) ([(b, .inr (1, [.ref v, .int 0, .int 0, .int (nI (ut_dd f i).length)]))] ++ ([(v, .inl (g.2.2.2.1, cap, .inl a)), (q1, .inl (g.2.1, 4, .inl (upd ah (ut_gv f i) (nI (um_cnt (fun h => decide (um_guess (um_pa f) (f 0) (f (211 + h)) = nI (ut_gv f i))) i + 1)))))] ++ Wo19)) := List.Perm.refl _
        have hFc := ub_freeP hD hS hA hpm
        obtain ⟨hPc, hDc⟩ := ub_subP hP hD hpm
        refine us_calli (va_runV (As := []) (rest := [.ref b]) ⟨hx, hb, hml, hown, hts⟩ (uj_lengthB l g) (cwV 0 hts gu_RL_151 rfl rfl rfl ⟨rfl, us_hJ4_length_8abf5⟩ ⟨Nat.le_of_ble_eq_true rfl, Nat.le_of_ble_eq_true rfl⟩) (us_preV hZ hS hFc hPc hDc hK hN 0 (ci := 1) rfl rfl rfl) rfl rfl hl.1 rfl (lv_room (Nat.le_of_ble_eq_true rfl)) dL_parishes_49 ⟨Nat.le_trans (Nat.le_of_eq (Nat.add_zero _)) (by show (((3 + 2 * i) + 2) + k0) ≤ 100; omega), Nat.le_trans (Nat.le_of_eq (Nat.add_zero _)) (by show (((24 + 8 * i) + 8) + 2 * cap) ≤ 2000; omega)⟩) hP hD hS hA hpm (fun r u H locs hpost hP hD hS => ?_)
        obtain ⟨rfl, rfl⟩ := hpost
        have hP : va_P g.1 vwCl ([(b, .inr (1, [.ref v, .int 0, .int 0, .int (nI (ut_dd f i).length)])), (v, .inl (g.2.2.2.1, cap, .inl a)), (q1, .inl (g.2.1, 4, .inl (upd ah (ut_gv f i) (nI (um_cnt (fun h => decide (um_guess (um_pa f) (f 0) (f (211 + h)) = nI (ut_gv f i))) i + 1)))))] ++ Wo19) H := hP
        have hD : va_D A ([(b, .inr (1, [.ref v, .int 0, .int 0, .int (nI (ut_dd f i).length)])), (v, .inl (g.2.2.2.1, cap, .inl a)), (q1, .inl (g.2.1, 4, .inl (upd ah (ut_gv f i) (nI (um_cnt (fun h => decide (um_guess (um_pa f) (f 0) (f (211 + h)) = nI (ut_gv f i))) i + 1)))))] ++ Wo19) := hD
        by_cases h0l : (ut_dd f i).length = 0
        · refine lv_if_ne (tgt := 60) hx hb dL_parishes_52 (by decide) (fun cc => absurd (by rw [h0l]; rfl) cc) (fun _ => ?_)
          refine va_ldcS (q := g.2.2.2.2.1 9) hx hb hown (hZ.2.2.2.2.1 0 (by decide)) dL_parishes_55 ?_
          refine lv_goto (tgt := 62) hx hb dL_parishes_57 (by decide) ?_
          have hm5 : ([] : List Nat).length ≤ 0 := Nat.le_refl _
          have ht5 := (ut_dd_len hg4 i (by omega))
          have hn5 : ((ut_dd f i) ++ []).length ≤ (5 * i) + 0 := by rw [List.length_append]; omega
          refine us_sbK (base := ((3 + 2 * i) + 2)) (bs := ((24 + 8 * i) + 8)) K0 hl.1 hP hD hS (List.Perm.refl _) hB (by omega) (i0 := 9) (by decide) (t0 := []) rfl (fun y hy => absurd hy (Nat.not_lt_zero y)) (Nat.le_of_ble_eq_true rfl) (Nat.le_of_ble_eq_true rfl) (by show ((3 + 2 * i) + 2) + 10 ≤ 100; omega) (by show ((24 + 8 * i) + 8) + 4 * (_ + _) + 32 ≤ 2000; have hz5 : us_len.getD 9 0 = 0 := rfl; omega) (Nat.le_of_ble_eq_true rfl) dL_parishes_62 (fun v5 cap5 k5 a5 H locs hB5 hP hD hS => ?_)
          have hP : va_P g.1 vwCl ([(b, .inr (1, [.ref v5, .int 0, .int 0, .int (nI ((ut_dd f i) ++ []).length)])), (v5, .inl (g.2.2.2.1, cap5, .inl a5)), (q1, .inl (g.2.1, 4, .inl (upd ah (ut_gv f i) (nI (um_cnt (fun h => decide (um_guess (um_pa f) (f 0) (f (211 + h)) = nI (ut_gv f i))) i + 1)))))] ++ Wo19) H := hP
          have hD : va_D A ([(b, .inr (1, [.ref v5, .int 0, .int 0, .int (nI ((ut_dd f i) ++ []).length)])), (v5, .inl (g.2.2.2.1, cap5, .inl a5)), (q1, .inl (g.2.1, 4, .inl (upd ah (ut_gv f i) (nI (um_cnt (fun h => decide (um_guess (um_pa f) (f 0) (f (211 + h)) = nI (ut_gv f i))) i + 1)))))] ++ Wo19) := hD
          refine lv_iload hx hb dL_parishes_65 (lv_at hl 1 rfl) ?_
          have hm6 : (us_il_list (nI i) : List Nat).length ≤ 2 := by rw [us_il_num i (by omega)]; exact (ut_num_len i).2.1
          have ht6 := hn5
          have hn6 : (((ut_dd f i) ++ []) ++ us_il_list (nI i)).length ≤ ((5 * i) + 0) + 2 := by rw [List.length_append]; omega
          refine us_sbI (base := ((3 + 2 * i) + 2)) (bs := ((24 + 8 * i) + 8)) K0 hl.1 hP hD hS (List.Perm.refl _) hB5 (by omega) (x := nI i) (us_nI_ok (by omega)) (Nat.le_of_ble_eq_true rfl) (Nat.le_of_ble_eq_true rfl) (by show ((3 + 2 * i) + 2) + 10 ≤ 100; omega) (by show ((24 + 8 * i) + 8) + 4 * (_ + _) + 32 ≤ 2000; rw [us_il_len] at hm6; omega) (Nat.le_of_ble_eq_true rfl) dL_parishes_67 (fun v6 cap6 k6 a6 H locs hB6 hP hD hS => ?_)
          have hP : va_P g.1 vwCl ([(b, .inr (1, [.ref v6, .int 0, .int 0, .int (nI (((ut_dd f i) ++ []) ++ us_il_list (nI i)).length)])), (v6, .inl (g.2.2.2.1, cap6, .inl a6)), (q1, .inl (g.2.1, 4, .inl (upd ah (ut_gv f i) (nI (um_cnt (fun h => decide (um_guess (um_pa f) (f 0) (f (211 + h)) = nI (ut_gv f i))) i + 1)))))] ++ Wo19) H := hP
          have hD : va_D A ([(b, .inr (1, [.ref v6, .int 0, .int 0, .int (nI (((ut_dd f i) ++ []) ++ us_il_list (nI i)).length)])), (v6, .inl (g.2.2.2.1, cap6, .inl a6)), (q1, .inl (g.2.1, 4, .inl (upd ah (ut_gv f i) (nI (um_cnt (fun h => decide (um_guess (um_pa f) (f 0) (f (211 + h)) = nI (ut_gv f i))) i + 1)))))] ++ Wo19) := hD
          refine lv_bipush (v := 61) hx hb dL_parishes_70 (by decide) ?_
          have hm7 : ([61] : List Nat).length ≤ 1 := Nat.le_refl 1
          have ht7 := hn6
          have hn7 : ((((ut_dd f i) ++ []) ++ us_il_list (nI i)) ++ [61]).length ≤ (((5 * i) + 0) + 2) + 1 := by rw [List.length_append]; omega
          refine us_sbC (base := ((3 + 2 * i) + 2)) (bs := ((24 + 8 * i) + 8)) K0 hl.1 hP hD hS (List.Perm.refl _) hB6 (by omega) (c0 := 61) (by decide) (Nat.le_of_ble_eq_true rfl) (Nat.le_of_ble_eq_true rfl) (by show ((3 + 2 * i) + 2) + 10 ≤ 100; omega) (by show ((24 + 8 * i) + 8) + 4 * (_ + _) + 32 ≤ 2000; omega) (Nat.le_of_ble_eq_true rfl) dL_parishes_72 (fun v7 cap7 k7 a7 H locs hB7 hP hD hS => ?_)
          have hP : va_P g.1 vwCl ([(b, .inr (1, [.ref v7, .int 0, .int 0, .int (nI ((((ut_dd f i) ++ []) ++ us_il_list (nI i)) ++ [61]).length)])), (v7, .inl (g.2.2.2.1, cap7, .inl a7)), (q1, .inl (g.2.1, 4, .inl (upd ah (ut_gv f i) (nI (um_cnt (fun h => decide (um_guess (um_pa f) (f 0) (f (211 + h)) = nI (ut_gv f i))) i + 1)))))] ++ Wo19) H := hP
          have hD : va_D A ([(b, .inr (1, [.ref v7, .int 0, .int 0, .int (nI ((((ut_dd f i) ++ []) ++ us_il_list (nI i)) ++ [61]).length)])), (v7, .inl (g.2.2.2.1, cap7, .inl a7)), (q1, .inl (g.2.1, 4, .inl (upd ah (ut_gv f i) (nI (um_cnt (fun h => decide (um_guess (um_pa f) (f 0) (f (211 + h)) = nI (ut_gv f i))) i + 1)))))] ++ Wo19) := hD
          refine lv_iload hx hb dL_parishes_75 (lv_at hl 0 rfl) ?_
          have hm8 : (us_il_list (nI (ut_gv f i)) : List Nat).length ≤ 2 := by rw [us_il_num _ (by omega)]; exact (ut_num_len _).2.1
          have ht8 := hn7
          have hn8 : (((((ut_dd f i) ++ []) ++ us_il_list (nI i)) ++ [61]) ++ us_il_list (nI (ut_gv f i))).length ≤ ((((5 * i) + 0) + 2) + 1) + 2 := by rw [List.length_append]; omega
          refine us_sbI (base := ((3 + 2 * i) + 2)) (bs := ((24 + 8 * i) + 8)) K0 hl.1 hP hD hS (List.Perm.refl _) hB7 (by omega) (x := nI (ut_gv f i)) (us_nI_ok (by omega)) (Nat.le_of_ble_eq_true rfl) (Nat.le_of_ble_eq_true rfl) (by show ((3 + 2 * i) + 2) + 10 ≤ 100; omega) (by show ((24 + 8 * i) + 8) + 4 * (_ + _) + 32 ≤ 2000; rw [us_il_len] at hm8; omega) (Nat.le_of_ble_eq_true rfl) dL_parishes_77 (fun v8 cap8 k8 a8 H locs hB8 hP hD hS => ?_)
          have hP : va_P g.1 vwCl ([(b, .inr (1, [.ref v8, .int 0, .int 0, .int (nI (((((ut_dd f i) ++ []) ++ us_il_list (nI i)) ++ [61]) ++ us_il_list (nI (ut_gv f i))).length)])), (v8, .inl (g.2.2.2.1, cap8, .inl a8)), (q1, .inl (g.2.1, 4, .inl (upd ah (ut_gv f i) (nI (um_cnt (fun h => decide (um_guess (um_pa f) (f 0) (f (211 + h)) = nI (ut_gv f i))) i + 1)))))] ++ Wo19) H := hP
          have hD : va_D A ([(b, .inr (1, [.ref v8, .int 0, .int 0, .int (nI (((((ut_dd f i) ++ []) ++ us_il_list (nI i)) ++ [61]) ++ us_il_list (nI (ut_gv f i))).length)])), (v8, .inl (g.2.2.2.1, cap8, .inl a8)), (q1, .inl (g.2.1, 4, .inl (upd ah (ut_gv f i) (nI (um_cnt (fun h => decide (um_guess (um_pa f) (f 0) (f (211 + h)) = nI (ut_gv f i))) i + 1)))))] ++ Wo19) := hD
          have ed : (((((ut_dd f i) ++ []) ++ us_il_list (nI i)) ++ [61]) ++ us_il_list (nI (ut_gv f i))) = ut_dd f (i + 1) := by rw [ut_dd]; unfold ut_dayS; rw [if_neg hz, us_il_num i (by omega), us_il_num _ (by omega), if_pos h0l]; simp only [List.append_assoc, List.singleton_append, List.nil_append, List.cons_append]
          have et9 : (((((ut_dd f i) ++ []) ++ us_il_list (nI i)) ++ [61]) ++ us_il_list (nI (ut_gv f i))) = (ut_dd f (i + 1)) := ed
          rw [et9] at hB8 hP hD
          have hn9 : ((ut_dd f (i + 1)) : List Nat).length ≤ (5 * (i + 1)) := hln2
          obtain ⟨hk10, -⟩ := us_B_k hB8 (Nat.le_trans hn9 (by omega))
          have hq10 := hB8.2.2.2.2
          have hl10 := hn9
          refine lv_pop hx hb dL_parishes_80 rfl ?_
          refine lv_iload hx hb dL_parishes_81 (lv_at hl 0 rfl) ?_
          refine lv_if_lt (tgt := 115) hx hb dL_parishes_83 (by decide) (fun cc => absurd cc (nI_pos (by omega))) (fun _ => ?_)
          have J117 : ∀ (Wo : va_W) (H : Heap) (locs : List Loc) (ls : Array Slot), uo_W g h0 k f hist sv lr ld L Wo → lv_has ls 9 [(4, .int (nI i)), (0, .ref h0), (1, .ref q1), (2, .int (uz_z f (i + 1))), (3, .ref b), (5, .int (nI (ut_gv f i)))] → va_P g.1 vwCl ([(b, .inr (1, [.ref v8, .int 0, .int 0, .int (nI (ut_dd f (i + 1)).length)])), (v8, .inl (g.2.2.2.1, cap8, .inl a8)), (q1, .inl (g.2.1, 4, .inl (upd ah (ut_gv f i) (nI (um_cnt (fun h => decide (um_guess (um_pa f) (f 0) (f (211 + h)) = nI (ut_gv f i))) i + 1)))))] ++ Wo) H → va_D A ([(b, .inr (1, [.ref v8, .int 0, .int 0, .int (nI (ut_dd f (i + 1)).length)])), (v8, .inl (g.2.2.2.1, cap8, .inl a8)), (q1, .inl (g.2.1, 4, .inl (upd ah (ut_gv f i) (nI (um_cnt (fun h => decide (um_guess (um_pa f) (f 0) (f (211 + h)) = nI (ut_gv f i))) i + 1)))))] ++ Wo) → va_S A s.heap H locs → W p l e ({ frames := 7, cells := 100, slots := 2000, locals := 160 } : Room) s m args below meth c H locs (((3 + 2 * i) + 2) + k8) (((24 + 8 * i) + 8) + 2 * cap8) Q (F0 m 117 ls []) := by
            intro Wo H locs ls hR hl hP hD hS
            refine lv_aload_n hx hb dL_parishes_117 rfl (lv_at hl 1 rfl) ?_
            refine lv_iload hx hb dL_parishes_118 (lv_at hl 0 rfl) ?_
            have hpm : List.Perm (([(b, .inr (1, [.ref v8, .int 0, .int 0, .int (nI (ut_dd f (i + 1)).length)])), (v8, .inl (g.2.2.2.1, cap8, .inl a8)), (q1, .inl (g.2.1, 4, .inl (upd ah (ut_gv f i) (nI (um_cnt (fun h => decide (um_guess (um_pa f) (f 0) (f (211 + h)) = nI (ut_gv f i))) i + 1)))))] ++ Wo) : va_W) (Wo ++ [(b, .inr (1, [.ref v8, .int 0, .int 0, .int (nI (ut_dd f (i + 1)).length)])), (v8, .inl (g.2.2.2.1, cap8, .inl a8)), (q1, .inl (g.2.1, 4, .inl (upd ah (ut_gv f i) (nI (um_cnt (fun h => decide (um_guess (um_pa f) (f 0) (f (211 + h)) = nI (ut_gv f i))) i + 1)))))]) := List.perm_append_comm
            have hFc := ub_freeP hD hS hA hpm
            obtain ⟨hPc, hDc⟩ := ub_subP hP hD hpm
            refine us_calli (va_runV (As := [.int (nI i)]) (rest := []) ⟨hx, hb, hml, hown, hts⟩ (uo_guess l g hR (x := (nI i))) (cwV 1 hts gu_RL_159 rfl rfl rfl ⟨rfl, uhX8_guess⟩ ⟨Nat.le_of_ble_eq_true rfl, Nat.le_of_ble_eq_true rfl⟩) (us_preO hR hZ hS hFc hPc hDc hK hN) rfl rfl hl.1 rfl (lv_room (Nat.le_of_ble_eq_true rfl)) dL_parishes_120 ⟨Nat.le_trans (Nat.le_of_eq (Nat.add_zero _)) (by show (((3 + 2 * i) + 2) + k8) ≤ 100; omega), Nat.le_trans (Nat.le_of_eq (Nat.add_zero _)) (by show (((24 + 8 * i) + 8) + 2 * cap8) ≤ 2000; omega)⟩) hP hD hS hA hpm (fun r Wo23 H locs hpost hP hD hS => ?_)
            have hP : va_P g.1 vwCl ([(b, .inr (1, [.ref v8, .int 0, .int 0, .int (nI (ut_dd f (i + 1)).length)])), (v8, .inl (g.2.2.2.1, cap8, .inl a8)), (q1, .inl (g.2.1, 4, .inl (upd ah (ut_gv f i) (nI (um_cnt (fun h => decide (um_guess (um_pa f) (f 0) (f (211 + h)) = nI (ut_gv f i))) i + 1)))))] ++ Wo23) H := ub_P_perm List.perm_append_comm hP
            have hD : va_D A ([(b, .inr (1, [.ref v8, .int 0, .int 0, .int (nI (ut_dd f (i + 1)).length)])), (v8, .inl (g.2.2.2.1, cap8, .inl a8)), (q1, .inl (g.2.1, 4, .inl (upd ah (ut_gv f i) (nI (um_cnt (fun h => decide (um_guess (um_pa f) (f 0) (f (211 + h)) = nI (ut_gv f i))) i + 1)))))] ++ Wo23) := ub_D_perm List.perm_append_comm hD
            obtain ⟨hr, hR⟩ := hpost
            have er : r = nI (ut_gv f i) := (hr.trans (uw_guess hI hi4)).trans eG
            rw [er]
            refine lv_iload hx hb dL_parishes_123 (lv_at hl 5 rfl) ?_
            refine lv_icmp_ne (tgt := 154) hx hb dL_parishes_125 (by decide) (fun cc => absurd rfl cc) (fun _ => ?_)
            refine lv_aload_n hx hb dL_parishes_128 rfl (lv_at hl 1 rfl) ?_
            refine lv_iload hx hb dL_parishes_129 (lv_at hl 0 rfl) ?_
            have hpm : List.Perm (([(b, .inr (1, [.ref v8, .int 0, .int 0, .int (nI (ut_dd f (i + 1)).length)])), (v8, .inl (g.2.2.2.1, cap8, .inl a8)), (q1, .inl (g.2.1, 4, .inl (upd ah (ut_gv f i) (nI (um_cnt (fun h => decide (um_guess (um_pa f) (f 0) (f (211 + h)) = nI (ut_gv f i))) i + 1)))))] ++ Wo23) : va_W) (Wo23 ++ [(b, .inr (1, [.ref v8, .int 0, .int 0, .int (nI (ut_dd f (i + 1)).length)])), (v8, .inl (g.2.2.2.1, cap8, .inl a8)), (q1, .inl (g.2.1, 4, .inl (upd ah (ut_gv f i) (nI (um_cnt (fun h => decide (um_guess (um_pa f) (f 0) (f (211 + h)) = nI (ut_gv f i))) i + 1)))))]) := List.perm_append_comm
            have hFc := ub_freeP hD hS hA hpm
            obtain ⟨hPc, hDc⟩ := ub_subP hP hD hpm
            refine us_calli (va_runV (As := [.int (nI i)]) (rest := []) ⟨hx, hb, hml, hown, hts⟩ (uo_guessAgain l g hR (x := (nI i))) (cwV 1 hts gu_RL_161 rfl rfl rfl ⟨rfl, uhX8_guessAgain⟩ ⟨Nat.le_of_ble_eq_true rfl, Nat.le_of_ble_eq_true rfl⟩) (us_preO hR hZ hS hFc hPc hDc hK hN) rfl rfl hl.1 rfl (lv_room (Nat.le_of_ble_eq_true rfl)) dL_parishes_131 ⟨Nat.le_trans (Nat.le_of_eq (Nat.add_zero _)) (by show (((3 + 2 * i) + 2) + k8) ≤ 100; omega), Nat.le_trans (Nat.le_of_eq (Nat.add_zero _)) (by show (((24 + 8 * i) + 8) + 2 * cap8) ≤ 2000; omega)⟩) hP hD hS hA hpm (fun r Wo24 H locs hpost hP hD hS => ?_)
            have hP : va_P g.1 vwCl ([(b, .inr (1, [.ref v8, .int 0, .int 0, .int (nI (ut_dd f (i + 1)).length)])), (v8, .inl (g.2.2.2.1, cap8, .inl a8)), (q1, .inl (g.2.1, 4, .inl (upd ah (ut_gv f i) (nI (um_cnt (fun h => decide (um_guess (um_pa f) (f 0) (f (211 + h)) = nI (ut_gv f i))) i + 1)))))] ++ Wo24) H := ub_P_perm List.perm_append_comm hP
            have hD : va_D A ([(b, .inr (1, [.ref v8, .int 0, .int 0, .int (nI (ut_dd f (i + 1)).length)])), (v8, .inl (g.2.2.2.1, cap8, .inl a8)), (q1, .inl (g.2.1, 4, .inl (upd ah (ut_gv f i) (nI (um_cnt (fun h => decide (um_guess (um_pa f) (f 0) (f (211 + h)) = nI (ut_gv f i))) i + 1)))))] ++ Wo24) := ub_D_perm List.perm_append_comm hD
            obtain ⟨hr, hR⟩ := hpost
            have er : r = nI (ut_gv f i) := (hr.trans (uw_guess hI hi4)).trans eG
            rw [er]
            refine lv_iload hx hb dL_parishes_134 (lv_at hl 5 rfl) ?_
            refine lv_icmp_ne (tgt := 154) hx hb dL_parishes_136 (by decide) (fun cc => absurd rfl cc) (fun _ => ?_)
            refine lv_iload hx hb dL_parishes_139 (lv_at hl 0 rfl) ?_
            refine lv_aload_n hx hb dL_parishes_141 rfl (lv_at hl 1 rfl) ?_
            refine lv_iconst (v := 2) hx hb dL_parishes_142 (by decide) ?_
            have hpm : List.Perm (([(b, .inr (1, [.ref v8, .int 0, .int 0, .int (nI (ut_dd f (i + 1)).length)])), (v8, .inl (g.2.2.2.1, cap8, .inl a8)), (q1, .inl (g.2.1, 4, .inl (upd ah (ut_gv f i) (nI (um_cnt (fun h => decide (um_guess (um_pa f) (f 0) (f (211 + h)) = nI (ut_gv f i))) i + 1)))))] ++ Wo24) : va_W) (Wo24 ++ [(b, .inr (1, [.ref v8, .int 0, .int 0, .int (nI (ut_dd f (i + 1)).length)])), (v8, .inl (g.2.2.2.1, cap8, .inl a8)), (q1, .inl (g.2.1, 4, .inl (upd ah (ut_gv f i) (nI (um_cnt (fun h => decide (um_guess (um_pa f) (f 0) (f (211 + h)) = nI (ut_gv f i))) i + 1)))))]) := List.perm_append_comm
            have hFc := ub_freeP hD hS hA hpm
            obtain ⟨hPc, hDc⟩ := ub_subP hP hD hpm
            refine us_calli (va_runV (As := [.int 2]) (rest := [.int (nI i)]) ⟨hx, hb, hml, hown, hts⟩ (uo_account l g hR (x := 2)) (cwV 1 hts gu_RL_34 rfl rfl rfl ⟨rfl, uhX8_account⟩ ⟨Nat.le_of_ble_eq_true rfl, Nat.le_of_ble_eq_true rfl⟩) (us_preO hR hZ hS hFc hPc hDc hK hN) rfl rfl hl.1 rfl (lv_room (Nat.le_of_ble_eq_true rfl)) dL_parishes_143 ⟨Nat.le_trans (Nat.le_of_eq (Nat.add_zero _)) (by show (((3 + 2 * i) + 2) + k8) ≤ 100; omega), Nat.le_trans (Nat.le_of_eq (Nat.add_zero _)) (by show (((24 + 8 * i) + 8) + 2 * cap8) ≤ 2000; omega)⟩) hP hD hS hA hpm (fun r Wo25 H locs hpost hP hD hS => ?_)
            have hP : va_P g.1 vwCl ([(b, .inr (1, [.ref v8, .int 0, .int 0, .int (nI (ut_dd f (i + 1)).length)])), (v8, .inl (g.2.2.2.1, cap8, .inl a8)), (q1, .inl (g.2.1, 4, .inl (upd ah (ut_gv f i) (nI (um_cnt (fun h => decide (um_guess (um_pa f) (f 0) (f (211 + h)) = nI (ut_gv f i))) i + 1)))))] ++ Wo25) H := ub_P_perm List.perm_append_comm hP
            have hD : va_D A ([(b, .inr (1, [.ref v8, .int 0, .int 0, .int (nI (ut_dd f (i + 1)).length)])), (v8, .inl (g.2.2.2.1, cap8, .inl a8)), (q1, .inl (g.2.1, 4, .inl (upd ah (ut_gv f i) (nI (um_cnt (fun h => decide (um_guess (um_pa f) (f 0) (f (211 + h)) = nI (ut_gv f i))) i + 1)))))] ++ Wo25) := ub_D_perm List.perm_append_comm hD
            obtain ⟨hr, hR⟩ := hpost
            have er : r = nI (f 2) := by rw [hr]; rfl
            rw [er]
            have hle : i ≤ f 2 := Nat.le_of_not_lt (fun z => hz (h6 z))
            have f2 := hI.2.2.2.1
            refine lv_icmp_le (tgt := 156) hx hb dL_parishes_146 (by decide) (fun _ => ?_) (fun cc => absurd (nI_le hle (by omega)) cc)
            refine lv_iinc (v := nI i + 1) (lv' := [(4, .int (nI i + 1)), (0, .ref h0), (1, .ref q1), (2, .int (uz_z f (i + 1))), (3, .ref b), (5, .int (nI (ut_gv f i)))]) hx hb dL_parishes_156 hl (k := 0) rfl rfl (by decide) rfl (fun ls hl => ?_)
            refine lv_goto (tgt := 19) hx hb dL_parishes_159 (by decide) ?_
            rw [nI_1] at hl
            refine W.widen (k := 3 + 2 * (i + 1) + k8) (n := 24 + 8 * (i + 1) + 2 * cap8) (by omega) (by omega) ?_
            exact ih (i + 1) v8 cap8 k8 a8 (upd ah (ut_gv f i) (nI (um_cnt (fun h => decide (um_guess (um_pa f) (f 0) (f (211 + h)) = nI (ut_gv f i))) i + 1))) Wo25 _ _ ls (by omega) hB8 (ug_up4 (b := fun p => fun h => decide (um_guess (um_pa f) (f 0) (f (211 + h)) = nI p)) gh (by rw [eG, decide_eq_true rfl]; rfl) (fun p hp hne => decide_eq_false (fun z => hne ((nI_eq (by omega) (by omega)).mp (eG.symm.trans z)).symm))) hR (lv_sub hl [0, 1, 2, 3, 4] rfl) hP hD hS
          refine lv_iload_n hx hb dL_parishes_86 rfl (lv_at hl 4 rfl) ?_
          have hzc := uz_cases hI i (by omega)
          rcases hzc with hzc | hzc
          · obtain ⟨z1, z2⟩ := hzc
            refine lv_if_lt (tgt := 110) hx hb dL_parishes_87 (by decide) (fun _ => ?_) (fun cc => absurd (by rw [z1]; decide) cc)
            refine lv_iload hx hb dL_parishes_110 (lv_at hl 1 rfl) ?_
            refine lv_goto (tgt := 116) hx hb dL_parishes_112 (by decide) ?_
            refine lv_istore_n (lv' := [(2, .int (nI i)), (5, .int (nI (ut_gv f i))), (4, .int (nI i)), (0, .ref h0), (1, .ref q1), (3, .ref b)]) hx hb dL_parishes_116 rfl hl (by decide) rfl (fun ls hl => ?_)
            have e2 := z2 hi4 hz
            exact J117 Wo19 _ _ ls hR (lv_sub (l' := [(4, .int (nI i)), (0, .ref h0), (1, .ref q1), (2, .int (uz_z f (i + 1))), (3, .ref b), (5, .int (nI (ut_gv f i)))]) hl [2, 3, 4, 0, 5, 1] (by rw [e2]; rfl)) hP hD hS
          · obtain ⟨mm, m1, z1, z2⟩ := hzc
            have z2 := z2 hi4 hz
            have fM := um_I_set hI m1
            refine lv_if_lt (tgt := 110) hx hb dL_parishes_87 (by decide) (fun cc => absurd cc (by rw [z1]; exact nI_pos (by omega))) (fun _ => ?_)
            refine lv_aload_n hx hb dL_parishes_90 rfl (lv_at hl 2 rfl) ?_
            refine lv_iload hx hb dL_parishes_91 (lv_at hl 1 rfl) ?_
            have hpm : List.Perm (([(b, .inr (1, [.ref v8, .int 0, .int 0, .int (nI (ut_dd f (i + 1)).length)])), (v8, .inl (g.2.2.2.1, cap8, .inl a8)), (q1, .inl (g.2.1, 4, .inl (upd ah (ut_gv f i) (nI (um_cnt (fun h => decide (um_guess (um_pa f) (f 0) (f (211 + h)) = nI (ut_gv f i))) i + 1)))))] ++ Wo19) : va_W) (Wo19 ++ [(b, .inr (1, [.ref v8, .int 0, .int 0, .int (nI (ut_dd f (i + 1)).length)])), (v8, .inl (g.2.2.2.1, cap8, .inl a8)), (q1, .inl (g.2.1, 4, .inl (upd ah (ut_gv f i) (nI (um_cnt (fun h => decide (um_guess (um_pa f) (f 0) (f (211 + h)) = nI (ut_gv f i))) i + 1)))))]) := List.perm_append_comm
            have hFc := ub_freeP hD hS hA hpm
            obtain ⟨hPc, hDc⟩ := ub_subP hP hD hpm
            refine us_calli (va_runV (As := [.int (nI i)]) (rest := []) ⟨hx, hb, hml, hown, hts⟩ (uo_answered l g hR (x := (nI i))) (cwV 1 hts gu_RL_103 rfl rfl rfl ⟨rfl, uhX8_answered⟩ ⟨Nat.le_of_ble_eq_true rfl, Nat.le_of_ble_eq_true rfl⟩) (us_preO hR hZ hS hFc hPc hDc hK hN) rfl rfl hl.1 rfl (lv_room (Nat.le_of_ble_eq_true rfl)) dL_parishes_93 ⟨Nat.le_trans (Nat.le_of_eq (Nat.add_zero _)) (by show (((3 + 2 * i) + 2) + k8) ≤ 100; omega), Nat.le_trans (Nat.le_of_eq (Nat.add_zero _)) (by show (((24 + 8 * i) + 8) + 2 * cap8) ≤ 2000; omega)⟩) hP hD hS hA hpm (fun r Wo26 H locs hpost hP hD hS => ?_)
            have hP : va_P g.1 vwCl ([(b, .inr (1, [.ref v8, .int 0, .int 0, .int (nI (ut_dd f (i + 1)).length)])), (v8, .inl (g.2.2.2.1, cap8, .inl a8)), (q1, .inl (g.2.1, 4, .inl (upd ah (ut_gv f i) (nI (um_cnt (fun h => decide (um_guess (um_pa f) (f 0) (f (211 + h)) = nI (ut_gv f i))) i + 1)))))] ++ Wo26) H := ub_P_perm List.perm_append_comm hP
            have hD : va_D A ([(b, .inr (1, [.ref v8, .int 0, .int 0, .int (nI (ut_dd f (i + 1)).length)])), (v8, .inl (g.2.2.2.1, cap8, .inl a8)), (q1, .inl (g.2.1, 4, .inl (upd ah (ut_gv f i) (nI (um_cnt (fun h => decide (um_guess (um_pa f) (f 0) (f (211 + h)) = nI (ut_gv f i))) i + 1)))))] ++ Wo26) := ub_D_perm List.perm_append_comm hD
            obtain ⟨hr, hR⟩ := hpost
            have er : r = nI (f (211 + i)) := hr.trans (uw_answered hi4)
            rw [er]
            have hpm : List.Perm (([(b, .inr (1, [.ref v8, .int 0, .int 0, .int (nI (ut_dd f (i + 1)).length)])), (v8, .inl (g.2.2.2.1, cap8, .inl a8)), (q1, .inl (g.2.1, 4, .inl (upd ah (ut_gv f i) (nI (um_cnt (fun h => decide (um_guess (um_pa f) (f 0) (f (211 + h)) = nI (ut_gv f i))) i + 1)))))] ++ Wo26) : va_W) (([] : va_W) ++ ([(b, .inr (1, [.ref v8, .int 0, .int 0, .int (nI (ut_dd f (i + 1)).length)])), (v8, .inl (g.2.2.2.1, cap8, .inl a8)), (q1, .inl (g.2.1, 4, .inl (upd ah (ut_gv f i) (nI (um_cnt (fun h => decide (um_guess (um_pa f) (f 0) (f (211 + h)) = nI (ut_gv f i))) i + 1)))))] ++ Wo26)) := List.Perm.refl _
            have hFc := ub_freeP hD hS hA hpm
            obtain ⟨hPc, hDc⟩ := ub_subP hP hD hpm
            refine us_calli (va_runS (As := [.int (nI (f (211 + i)))]) (rest := []) ⟨hx, hb, hml, hown, hts⟩ (ul_bitCount l g (x := (f (211 + i))) fH) (va_cwS 1 hts gu_RL_154 rfl rfl rfl us_hJ6_bitCount_0f7a4 ⟨Nat.le_of_ble_eq_true rfl, Nat.le_of_ble_eq_true rfl⟩) (us_preS hZ hS hFc hPc hDc hK hN) rfl rfl hl.1 rfl (lv_room (Nat.le_of_ble_eq_true rfl)) dL_parishes_96 ⟨Nat.le_trans (Nat.le_of_eq (Nat.add_zero _)) (by show (((3 + 2 * i) + 2) + k8) ≤ 100; omega), Nat.le_trans (Nat.le_of_eq (Nat.add_zero _)) (by show (((24 + 8 * i) + 8) + 2 * cap8) ≤ 2000; omega)⟩) hP hD hS hA hpm (fun r u H locs hpost hP hD hS => ?_)
            obtain ⟨er, rfl⟩ := hpost
            rw [er]
            have hP : va_P g.1 vwCl ([(b, .inr (1, [.ref v8, .int 0, .int 0, .int (nI (ut_dd f (i + 1)).length)])), (v8, .inl (g.2.2.2.1, cap8, .inl a8)), (q1, .inl (g.2.1, 4, .inl (upd ah (ut_gv f i) (nI (um_cnt (fun h => decide (um_guess (um_pa f) (f 0) (f (211 + h)) = nI (ut_gv f i))) i + 1)))))] ++ Wo26) H := hP
            have hD : va_D A ([(b, .inr (1, [.ref v8, .int 0, .int 0, .int (nI (ut_dd f (i + 1)).length)])), (v8, .inl (g.2.2.2.1, cap8, .inl a8)), (q1, .inl (g.2.1, 4, .inl (upd ah (ut_gv f i) (nI (um_cnt (fun h => decide (um_guess (um_pa f) (f 0) (f (211 + h)) = nI (ut_gv f i))) i + 1)))))] ++ Wo26) := hD
            refine lv_aload_n hx hb dL_parishes_99 rfl (lv_at hl 2 rfl) ?_
            refine lv_iload_n hx hb dL_parishes_100 rfl (lv_at hl 4 rfl) ?_
            have hpm : List.Perm (([(b, .inr (1, [.ref v8, .int 0, .int 0, .int (nI (ut_dd f (i + 1)).length)])), (v8, .inl (g.2.2.2.1, cap8, .inl a8)), (q1, .inl (g.2.1, 4, .inl (upd ah (ut_gv f i) (nI (um_cnt (fun h => decide (um_guess (um_pa f) (f 0) (f (211 + h)) = nI (ut_gv f i))) i + 1)))))] ++ Wo26) : va_W) (Wo26 ++ [(b, .inr (1, [.ref v8, .int 0, .int 0, .int (nI (ut_dd f (i + 1)).length)])), (v8, .inl (g.2.2.2.1, cap8, .inl a8)), (q1, .inl (g.2.1, 4, .inl (upd ah (ut_gv f i) (nI (um_cnt (fun h => decide (um_guess (um_pa f) (f 0) (f (211 + h)) = nI (ut_gv f i))) i + 1)))))]) := List.perm_append_comm
            have hFc := ub_freeP hD hS hA hpm
            obtain ⟨hPc, hDc⟩ := ub_subP hP hD hpm
            refine us_calli (va_runV (As := [.int (uz_z f i)]) (rest := [.int (nI (um_pop 12 (f (211 + i))))]) ⟨hx, hb, hml, hown, hts⟩ (uo_answered l g hR (x := (uz_z f i))) (cwV 1 hts gu_RL_103 rfl rfl rfl ⟨rfl, uhX8_answered⟩ ⟨Nat.le_of_ble_eq_true rfl, Nat.le_of_ble_eq_true rfl⟩) (us_preO hR hZ hS hFc hPc hDc hK hN) rfl rfl hl.1 rfl (lv_room (Nat.le_of_ble_eq_true rfl)) dL_parishes_101 ⟨Nat.le_trans (Nat.le_of_eq (Nat.add_zero _)) (by show (((3 + 2 * i) + 2) + k8) ≤ 100; omega), Nat.le_trans (Nat.le_of_eq (Nat.add_zero _)) (by show (((24 + 8 * i) + 8) + 2 * cap8) ≤ 2000; omega)⟩) hP hD hS hA hpm (fun r Wo27 H locs hpost hP hD hS => ?_)
            have hP : va_P g.1 vwCl ([(b, .inr (1, [.ref v8, .int 0, .int 0, .int (nI (ut_dd f (i + 1)).length)])), (v8, .inl (g.2.2.2.1, cap8, .inl a8)), (q1, .inl (g.2.1, 4, .inl (upd ah (ut_gv f i) (nI (um_cnt (fun h => decide (um_guess (um_pa f) (f 0) (f (211 + h)) = nI (ut_gv f i))) i + 1)))))] ++ Wo27) H := ub_P_perm List.perm_append_comm hP
            have hD : va_D A ([(b, .inr (1, [.ref v8, .int 0, .int 0, .int (nI (ut_dd f (i + 1)).length)])), (v8, .inl (g.2.2.2.1, cap8, .inl a8)), (q1, .inl (g.2.1, 4, .inl (upd ah (ut_gv f i) (nI (um_cnt (fun h => decide (um_guess (um_pa f) (f 0) (f (211 + h)) = nI (ut_gv f i))) i + 1)))))] ++ Wo27) := ub_D_perm List.perm_append_comm hD
            obtain ⟨hr, hR⟩ := hpost
            have er : r = nI (f (211 + mm)) := by rw [hr, z1]; exact uw_answered m1
            rw [er]
            have hpm : List.Perm (([(b, .inr (1, [.ref v8, .int 0, .int 0, .int (nI (ut_dd f (i + 1)).length)])), (v8, .inl (g.2.2.2.1, cap8, .inl a8)), (q1, .inl (g.2.1, 4, .inl (upd ah (ut_gv f i) (nI (um_cnt (fun h => decide (um_guess (um_pa f) (f 0) (f (211 + h)) = nI (ut_gv f i))) i + 1)))))] ++ Wo27) : va_W) (([] : va_W) ++ ([(b, .inr (1, [.ref v8, .int 0, .int 0, .int (nI (ut_dd f (i + 1)).length)])), (v8, .inl (g.2.2.2.1, cap8, .inl a8)), (q1, .inl (g.2.1, 4, .inl (upd ah (ut_gv f i) (nI (um_cnt (fun h => decide (um_guess (um_pa f) (f 0) (f (211 + h)) = nI (ut_gv f i))) i + 1)))))] ++ Wo27)) := List.Perm.refl _
            have hFc := ub_freeP hD hS hA hpm
            obtain ⟨hPc, hDc⟩ := ub_subP hP hD hpm
            refine us_calli (va_runS (As := [.int (nI (f (211 + mm)))]) (rest := [.int (nI (um_pop 12 (f (211 + i))))]) ⟨hx, hb, hml, hown, hts⟩ (ul_bitCount l g (x := (f (211 + mm))) fM) (va_cwS 1 hts gu_RL_154 rfl rfl rfl us_hJ6_bitCount_0f7a4 ⟨Nat.le_of_ble_eq_true rfl, Nat.le_of_ble_eq_true rfl⟩) (us_preS hZ hS hFc hPc hDc hK hN) rfl rfl hl.1 rfl (lv_room (Nat.le_of_ble_eq_true rfl)) dL_parishes_104 ⟨Nat.le_trans (Nat.le_of_eq (Nat.add_zero _)) (by show (((3 + 2 * i) + 2) + k8) ≤ 100; omega), Nat.le_trans (Nat.le_of_eq (Nat.add_zero _)) (by show (((24 + 8 * i) + 8) + 2 * cap8) ≤ 2000; omega)⟩) hP hD hS hA hpm (fun r u H locs hpost hP hD hS => ?_)
            obtain ⟨er, rfl⟩ := hpost
            rw [er]
            have hP : va_P g.1 vwCl ([(b, .inr (1, [.ref v8, .int 0, .int 0, .int (nI (ut_dd f (i + 1)).length)])), (v8, .inl (g.2.2.2.1, cap8, .inl a8)), (q1, .inl (g.2.1, 4, .inl (upd ah (ut_gv f i) (nI (um_cnt (fun h => decide (um_guess (um_pa f) (f 0) (f (211 + h)) = nI (ut_gv f i))) i + 1)))))] ++ Wo27) H := hP
            have hD : va_D A ([(b, .inr (1, [.ref v8, .int 0, .int 0, .int (nI (ut_dd f (i + 1)).length)])), (v8, .inl (g.2.2.2.1, cap8, .inl a8)), (q1, .inl (g.2.1, 4, .inl (upd ah (ut_gv f i) (nI (um_cnt (fun h => decide (um_guess (um_pa f) (f 0) (f (211 + h)) = nI (ut_gv f i))) i + 1)))))] ++ Wo27) := hD
            have pl : ∀ x, um_pop 12 x < 2 ^ 30 := um_pop_lt
            by_cases hpp : um_pop 12 (f (211 + mm)) < um_pop 12 (f (211 + i))
            · refine lv_icmp_le (tgt := 115) hx hb dL_parishes_107 (by decide) (fun cc => absurd cc (nI_ge hpp (Nat.lt_trans (pl _) (by decide)))) (fun _ => ?_)
              refine lv_iload hx hb dL_parishes_110 (lv_at hl 1 rfl) ?_
              refine lv_goto (tgt := 116) hx hb dL_parishes_112 (by decide) ?_
              refine lv_istore_n (lv' := [(2, .int (nI i)), (5, .int (nI (ut_gv f i))), (4, .int (nI i)), (0, .ref h0), (1, .ref q1), (3, .ref b)]) hx hb dL_parishes_116 rfl hl (by decide) rfl (fun ls hl => ?_)
              have e2 := z2.trans (if_pos hpp)
              exact J117 Wo27 _ _ ls hR (lv_sub (l' := [(4, .int (nI i)), (0, .ref h0), (1, .ref q1), (2, .int (uz_z f (i + 1))), (3, .ref b), (5, .int (nI (ut_gv f i)))]) hl [2, 3, 4, 0, 5, 1] (by rw [e2]; rfl)) hP hD hS
            · refine lv_icmp_le (tgt := 115) hx hb dL_parishes_107 (by decide) (fun _ => ?_) (fun cc => absurd (nI_le (Nat.le_of_not_lt hpp) (Nat.lt_trans (pl _) (by decide))) cc)
              refine lv_iload_n hx hb dL_parishes_115 rfl (lv_at hl 4 rfl) ?_
              refine lv_istore_n (lv' := [(2, .int (uz_z f i)), (5, .int (nI (ut_gv f i))), (4, .int (nI i)), (0, .ref h0), (1, .ref q1), (3, .ref b)]) hx hb dL_parishes_116 rfl hl (by decide) rfl (fun ls hl => ?_)
              have e2 := (z2.trans (if_neg hpp)).trans z1.symm
              exact J117 Wo27 _ _ ls hR (lv_sub (l' := [(4, .int (nI i)), (0, .ref h0), (1, .ref q1), (2, .int (uz_z f (i + 1))), (3, .ref b), (5, .int (nI (ut_gv f i)))]) hl [2, 3, 4, 0, 5, 1] (by rw [e2]; rfl)) hP hD hS
        · refine lv_if_ne (tgt := 60) hx hb dL_parishes_52 (by decide) (fun _ => ?_) (fun cc => absurd cc (nI_ne0 (by omega) (by omega)))
          refine va_ldcS (q := g.2.2.2.2.1 13) hx hb hown (hZ.2.2.2.2.1 4 (by decide)) dL_parishes_60 ?_
          have hm11 : ([32] : List Nat).length ≤ 1 := Nat.le_refl _
          have ht11 := (ut_dd_len hg4 i (by omega))
          have hn11 : ((ut_dd f i) ++ [32]).length ≤ (5 * i) + 1 := by rw [List.length_append]; omega
          refine us_sbK (base := ((3 + 2 * i) + 2)) (bs := ((24 + 8 * i) + 8)) K0 hl.1 hP hD hS (List.Perm.refl _) hB (by omega) (i0 := 13) (by decide) (t0 := [32]) rfl (fun y hy => by rcases (show y = 0 by have : y < 1 := hy; omega) with rfl; rfl) (Nat.le_of_ble_eq_true rfl) (Nat.le_of_ble_eq_true rfl) (by show ((3 + 2 * i) + 2) + 10 ≤ 100; omega) (by show ((24 + 8 * i) + 8) + 4 * (_ + _) + 32 ≤ 2000; have hz11 : us_len.getD 13 0 = 1 := rfl; omega) (Nat.le_of_ble_eq_true rfl) dL_parishes_62 (fun v11 cap11 k11 a11 H locs hB11 hP hD hS => ?_)
          have hP : va_P g.1 vwCl ([(b, .inr (1, [.ref v11, .int 0, .int 0, .int (nI ((ut_dd f i) ++ [32]).length)])), (v11, .inl (g.2.2.2.1, cap11, .inl a11)), (q1, .inl (g.2.1, 4, .inl (upd ah (ut_gv f i) (nI (um_cnt (fun h => decide (um_guess (um_pa f) (f 0) (f (211 + h)) = nI (ut_gv f i))) i + 1)))))] ++ Wo19) H := hP
          have hD : va_D A ([(b, .inr (1, [.ref v11, .int 0, .int 0, .int (nI ((ut_dd f i) ++ [32]).length)])), (v11, .inl (g.2.2.2.1, cap11, .inl a11)), (q1, .inl (g.2.1, 4, .inl (upd ah (ut_gv f i) (nI (um_cnt (fun h => decide (um_guess (um_pa f) (f 0) (f (211 + h)) = nI (ut_gv f i))) i + 1)))))] ++ Wo19) := hD
          refine lv_iload hx hb dL_parishes_65 (lv_at hl 1 rfl) ?_
          have hm12 : (us_il_list (nI i) : List Nat).length ≤ 2 := by rw [us_il_num i (by omega)]; exact (ut_num_len i).2.1
          have ht12 := hn11
          have hn12 : (((ut_dd f i) ++ [32]) ++ us_il_list (nI i)).length ≤ ((5 * i) + 1) + 2 := by rw [List.length_append]; omega
          refine us_sbI (base := ((3 + 2 * i) + 2)) (bs := ((24 + 8 * i) + 8)) K0 hl.1 hP hD hS (List.Perm.refl _) hB11 (by omega) (x := nI i) (us_nI_ok (by omega)) (Nat.le_of_ble_eq_true rfl) (Nat.le_of_ble_eq_true rfl) (by show ((3 + 2 * i) + 2) + 10 ≤ 100; omega) (by show ((24 + 8 * i) + 8) + 4 * (_ + _) + 32 ≤ 2000; rw [us_il_len] at hm12; omega) (Nat.le_of_ble_eq_true rfl) dL_parishes_67 (fun v12 cap12 k12 a12 H locs hB12 hP hD hS => ?_)
          have hP : va_P g.1 vwCl ([(b, .inr (1, [.ref v12, .int 0, .int 0, .int (nI (((ut_dd f i) ++ [32]) ++ us_il_list (nI i)).length)])), (v12, .inl (g.2.2.2.1, cap12, .inl a12)), (q1, .inl (g.2.1, 4, .inl (upd ah (ut_gv f i) (nI (um_cnt (fun h => decide (um_guess (um_pa f) (f 0) (f (211 + h)) = nI (ut_gv f i))) i + 1)))))] ++ Wo19) H := hP
          have hD : va_D A ([(b, .inr (1, [.ref v12, .int 0, .int 0, .int (nI (((ut_dd f i) ++ [32]) ++ us_il_list (nI i)).length)])), (v12, .inl (g.2.2.2.1, cap12, .inl a12)), (q1, .inl (g.2.1, 4, .inl (upd ah (ut_gv f i) (nI (um_cnt (fun h => decide (um_guess (um_pa f) (f 0) (f (211 + h)) = nI (ut_gv f i))) i + 1)))))] ++ Wo19) := hD
          refine lv_bipush (v := 61) hx hb dL_parishes_70 (by decide) ?_
          have hm13 : ([61] : List Nat).length ≤ 1 := Nat.le_refl 1
          have ht13 := hn12
          have hn13 : ((((ut_dd f i) ++ [32]) ++ us_il_list (nI i)) ++ [61]).length ≤ (((5 * i) + 1) + 2) + 1 := by rw [List.length_append]; omega
          refine us_sbC (base := ((3 + 2 * i) + 2)) (bs := ((24 + 8 * i) + 8)) K0 hl.1 hP hD hS (List.Perm.refl _) hB12 (by omega) (c0 := 61) (by decide) (Nat.le_of_ble_eq_true rfl) (Nat.le_of_ble_eq_true rfl) (by show ((3 + 2 * i) + 2) + 10 ≤ 100; omega) (by show ((24 + 8 * i) + 8) + 4 * (_ + _) + 32 ≤ 2000; omega) (Nat.le_of_ble_eq_true rfl) dL_parishes_72 (fun v13 cap13 k13 a13 H locs hB13 hP hD hS => ?_)
          have hP : va_P g.1 vwCl ([(b, .inr (1, [.ref v13, .int 0, .int 0, .int (nI ((((ut_dd f i) ++ [32]) ++ us_il_list (nI i)) ++ [61]).length)])), (v13, .inl (g.2.2.2.1, cap13, .inl a13)), (q1, .inl (g.2.1, 4, .inl (upd ah (ut_gv f i) (nI (um_cnt (fun h => decide (um_guess (um_pa f) (f 0) (f (211 + h)) = nI (ut_gv f i))) i + 1)))))] ++ Wo19) H := hP
          have hD : va_D A ([(b, .inr (1, [.ref v13, .int 0, .int 0, .int (nI ((((ut_dd f i) ++ [32]) ++ us_il_list (nI i)) ++ [61]).length)])), (v13, .inl (g.2.2.2.1, cap13, .inl a13)), (q1, .inl (g.2.1, 4, .inl (upd ah (ut_gv f i) (nI (um_cnt (fun h => decide (um_guess (um_pa f) (f 0) (f (211 + h)) = nI (ut_gv f i))) i + 1)))))] ++ Wo19) := hD
          refine lv_iload hx hb dL_parishes_75 (lv_at hl 0 rfl) ?_
          have hm14 : (us_il_list (nI (ut_gv f i)) : List Nat).length ≤ 2 := by rw [us_il_num _ (by omega)]; exact (ut_num_len _).2.1
          have ht14 := hn13
          have hn14 : (((((ut_dd f i) ++ [32]) ++ us_il_list (nI i)) ++ [61]) ++ us_il_list (nI (ut_gv f i))).length ≤ ((((5 * i) + 1) + 2) + 1) + 2 := by rw [List.length_append]; omega
          refine us_sbI (base := ((3 + 2 * i) + 2)) (bs := ((24 + 8 * i) + 8)) K0 hl.1 hP hD hS (List.Perm.refl _) hB13 (by omega) (x := nI (ut_gv f i)) (us_nI_ok (by omega)) (Nat.le_of_ble_eq_true rfl) (Nat.le_of_ble_eq_true rfl) (by show ((3 + 2 * i) + 2) + 10 ≤ 100; omega) (by show ((24 + 8 * i) + 8) + 4 * (_ + _) + 32 ≤ 2000; rw [us_il_len] at hm14; omega) (Nat.le_of_ble_eq_true rfl) dL_parishes_77 (fun v14 cap14 k14 a14 H locs hB14 hP hD hS => ?_)
          have hP : va_P g.1 vwCl ([(b, .inr (1, [.ref v14, .int 0, .int 0, .int (nI (((((ut_dd f i) ++ [32]) ++ us_il_list (nI i)) ++ [61]) ++ us_il_list (nI (ut_gv f i))).length)])), (v14, .inl (g.2.2.2.1, cap14, .inl a14)), (q1, .inl (g.2.1, 4, .inl (upd ah (ut_gv f i) (nI (um_cnt (fun h => decide (um_guess (um_pa f) (f 0) (f (211 + h)) = nI (ut_gv f i))) i + 1)))))] ++ Wo19) H := hP
          have hD : va_D A ([(b, .inr (1, [.ref v14, .int 0, .int 0, .int (nI (((((ut_dd f i) ++ [32]) ++ us_il_list (nI i)) ++ [61]) ++ us_il_list (nI (ut_gv f i))).length)])), (v14, .inl (g.2.2.2.1, cap14, .inl a14)), (q1, .inl (g.2.1, 4, .inl (upd ah (ut_gv f i) (nI (um_cnt (fun h => decide (um_guess (um_pa f) (f 0) (f (211 + h)) = nI (ut_gv f i))) i + 1)))))] ++ Wo19) := hD
          have ed : (((((ut_dd f i) ++ [32]) ++ us_il_list (nI i)) ++ [61]) ++ us_il_list (nI (ut_gv f i))) = ut_dd f (i + 1) := by rw [ut_dd]; unfold ut_dayS; rw [if_neg hz, us_il_num i (by omega), us_il_num _ (by omega), if_neg h0l]; simp only [List.append_assoc, List.singleton_append, List.nil_append, List.cons_append]
          have et15 : (((((ut_dd f i) ++ [32]) ++ us_il_list (nI i)) ++ [61]) ++ us_il_list (nI (ut_gv f i))) = (ut_dd f (i + 1)) := ed
          rw [et15] at hB14 hP hD
          have hn15 : ((ut_dd f (i + 1)) : List Nat).length ≤ (5 * (i + 1)) := hln2
          obtain ⟨hk16, -⟩ := us_B_k hB14 (Nat.le_trans hn15 (by omega))
          have hq16 := hB14.2.2.2.2
          have hl16 := hn15
          refine lv_pop hx hb dL_parishes_80 rfl ?_
          refine lv_iload hx hb dL_parishes_81 (lv_at hl 0 rfl) ?_
          refine lv_if_lt (tgt := 115) hx hb dL_parishes_83 (by decide) (fun cc => absurd cc (nI_pos (by omega))) (fun _ => ?_)
          have J117 : ∀ (Wo : va_W) (H : Heap) (locs : List Loc) (ls : Array Slot), uo_W g h0 k f hist sv lr ld L Wo → lv_has ls 9 [(4, .int (nI i)), (0, .ref h0), (1, .ref q1), (2, .int (uz_z f (i + 1))), (3, .ref b), (5, .int (nI (ut_gv f i)))] → va_P g.1 vwCl ([(b, .inr (1, [.ref v14, .int 0, .int 0, .int (nI (ut_dd f (i + 1)).length)])), (v14, .inl (g.2.2.2.1, cap14, .inl a14)), (q1, .inl (g.2.1, 4, .inl (upd ah (ut_gv f i) (nI (um_cnt (fun h => decide (um_guess (um_pa f) (f 0) (f (211 + h)) = nI (ut_gv f i))) i + 1)))))] ++ Wo) H → va_D A ([(b, .inr (1, [.ref v14, .int 0, .int 0, .int (nI (ut_dd f (i + 1)).length)])), (v14, .inl (g.2.2.2.1, cap14, .inl a14)), (q1, .inl (g.2.1, 4, .inl (upd ah (ut_gv f i) (nI (um_cnt (fun h => decide (um_guess (um_pa f) (f 0) (f (211 + h)) = nI (ut_gv f i))) i + 1)))))] ++ Wo) → va_S A s.heap H locs → W p l e ({ frames := 7, cells := 100, slots := 2000, locals := 160 } : Room) s m args below meth c H locs (((3 + 2 * i) + 2) + k14) (((24 + 8 * i) + 8) + 2 * cap14) Q (F0 m 117 ls []) := by
            intro Wo H locs ls hR hl hP hD hS
            refine lv_aload_n hx hb dL_parishes_117 rfl (lv_at hl 1 rfl) ?_
            refine lv_iload hx hb dL_parishes_118 (lv_at hl 0 rfl) ?_
            have hpm : List.Perm (([(b, .inr (1, [.ref v14, .int 0, .int 0, .int (nI (ut_dd f (i + 1)).length)])), (v14, .inl (g.2.2.2.1, cap14, .inl a14)), (q1, .inl (g.2.1, 4, .inl (upd ah (ut_gv f i) (nI (um_cnt (fun h => decide (um_guess (um_pa f) (f 0) (f (211 + h)) = nI (ut_gv f i))) i + 1)))))] ++ Wo) : va_W) (Wo ++ [(b, .inr (1, [.ref v14, .int 0, .int 0, .int (nI (ut_dd f (i + 1)).length)])), (v14, .inl (g.2.2.2.1, cap14, .inl a14)), (q1, .inl (g.2.1, 4, .inl (upd ah (ut_gv f i) (nI (um_cnt (fun h => decide (um_guess (um_pa f) (f 0) (f (211 + h)) = nI (ut_gv f i))) i + 1)))))]) := List.perm_append_comm
            have hFc := ub_freeP hD hS hA hpm
            obtain ⟨hPc, hDc⟩ := ub_subP hP hD hpm
            refine us_calli (va_runV (As := [.int (nI i)]) (rest := []) ⟨hx, hb, hml, hown, hts⟩ (uo_guess l g hR (x := (nI i))) (cwV 1 hts gu_RL_159 rfl rfl rfl ⟨rfl, uhX8_guess⟩ ⟨Nat.le_of_ble_eq_true rfl, Nat.le_of_ble_eq_true rfl⟩) (us_preO hR hZ hS hFc hPc hDc hK hN) rfl rfl hl.1 rfl (lv_room (Nat.le_of_ble_eq_true rfl)) dL_parishes_120 ⟨Nat.le_trans (Nat.le_of_eq (Nat.add_zero _)) (by show (((3 + 2 * i) + 2) + k14) ≤ 100; omega), Nat.le_trans (Nat.le_of_eq (Nat.add_zero _)) (by show (((24 + 8 * i) + 8) + 2 * cap14) ≤ 2000; omega)⟩) hP hD hS hA hpm (fun r Wo28 H locs hpost hP hD hS => ?_)
            have hP : va_P g.1 vwCl ([(b, .inr (1, [.ref v14, .int 0, .int 0, .int (nI (ut_dd f (i + 1)).length)])), (v14, .inl (g.2.2.2.1, cap14, .inl a14)), (q1, .inl (g.2.1, 4, .inl (upd ah (ut_gv f i) (nI (um_cnt (fun h => decide (um_guess (um_pa f) (f 0) (f (211 + h)) = nI (ut_gv f i))) i + 1)))))] ++ Wo28) H := ub_P_perm List.perm_append_comm hP
            have hD : va_D A ([(b, .inr (1, [.ref v14, .int 0, .int 0, .int (nI (ut_dd f (i + 1)).length)])), (v14, .inl (g.2.2.2.1, cap14, .inl a14)), (q1, .inl (g.2.1, 4, .inl (upd ah (ut_gv f i) (nI (um_cnt (fun h => decide (um_guess (um_pa f) (f 0) (f (211 + h)) = nI (ut_gv f i))) i + 1)))))] ++ Wo28) := ub_D_perm List.perm_append_comm hD
            obtain ⟨hr, hR⟩ := hpost
            have er : r = nI (ut_gv f i) := (hr.trans (uw_guess hI hi4)).trans eG
            rw [er]
            refine lv_iload hx hb dL_parishes_123 (lv_at hl 5 rfl) ?_
            refine lv_icmp_ne (tgt := 154) hx hb dL_parishes_125 (by decide) (fun cc => absurd rfl cc) (fun _ => ?_)
            refine lv_aload_n hx hb dL_parishes_128 rfl (lv_at hl 1 rfl) ?_
            refine lv_iload hx hb dL_parishes_129 (lv_at hl 0 rfl) ?_
            have hpm : List.Perm (([(b, .inr (1, [.ref v14, .int 0, .int 0, .int (nI (ut_dd f (i + 1)).length)])), (v14, .inl (g.2.2.2.1, cap14, .inl a14)), (q1, .inl (g.2.1, 4, .inl (upd ah (ut_gv f i) (nI (um_cnt (fun h => decide (um_guess (um_pa f) (f 0) (f (211 + h)) = nI (ut_gv f i))) i + 1)))))] ++ Wo28) : va_W) (Wo28 ++ [(b, .inr (1, [.ref v14, .int 0, .int 0, .int (nI (ut_dd f (i + 1)).length)])), (v14, .inl (g.2.2.2.1, cap14, .inl a14)), (q1, .inl (g.2.1, 4, .inl (upd ah (ut_gv f i) (nI (um_cnt (fun h => decide (um_guess (um_pa f) (f 0) (f (211 + h)) = nI (ut_gv f i))) i + 1)))))]) := List.perm_append_comm
            have hFc := ub_freeP hD hS hA hpm
            obtain ⟨hPc, hDc⟩ := ub_subP hP hD hpm
            refine us_calli (va_runV (As := [.int (nI i)]) (rest := []) ⟨hx, hb, hml, hown, hts⟩ (uo_guessAgain l g hR (x := (nI i))) (cwV 1 hts gu_RL_161 rfl rfl rfl ⟨rfl, uhX8_guessAgain⟩ ⟨Nat.le_of_ble_eq_true rfl, Nat.le_of_ble_eq_true rfl⟩) (us_preO hR hZ hS hFc hPc hDc hK hN) rfl rfl hl.1 rfl (lv_room (Nat.le_of_ble_eq_true rfl)) dL_parishes_131 ⟨Nat.le_trans (Nat.le_of_eq (Nat.add_zero _)) (by show (((3 + 2 * i) + 2) + k14) ≤ 100; omega), Nat.le_trans (Nat.le_of_eq (Nat.add_zero _)) (by show (((24 + 8 * i) + 8) + 2 * cap14) ≤ 2000; omega)⟩) hP hD hS hA hpm (fun r Wo29 H locs hpost hP hD hS => ?_)
            have hP : va_P g.1 vwCl ([(b, .inr (1, [.ref v14, .int 0, .int 0, .int (nI (ut_dd f (i + 1)).length)])), (v14, .inl (g.2.2.2.1, cap14, .inl a14)), (q1, .inl (g.2.1, 4, .inl (upd ah (ut_gv f i) (nI (um_cnt (fun h => decide (um_guess (um_pa f) (f 0) (f (211 + h)) = nI (ut_gv f i))) i + 1)))))] ++ Wo29) H := ub_P_perm List.perm_append_comm hP
            have hD : va_D A ([(b, .inr (1, [.ref v14, .int 0, .int 0, .int (nI (ut_dd f (i + 1)).length)])), (v14, .inl (g.2.2.2.1, cap14, .inl a14)), (q1, .inl (g.2.1, 4, .inl (upd ah (ut_gv f i) (nI (um_cnt (fun h => decide (um_guess (um_pa f) (f 0) (f (211 + h)) = nI (ut_gv f i))) i + 1)))))] ++ Wo29) := ub_D_perm List.perm_append_comm hD
            obtain ⟨hr, hR⟩ := hpost
            have er : r = nI (ut_gv f i) := (hr.trans (uw_guess hI hi4)).trans eG
            rw [er]
            refine lv_iload hx hb dL_parishes_134 (lv_at hl 5 rfl) ?_
            refine lv_icmp_ne (tgt := 154) hx hb dL_parishes_136 (by decide) (fun cc => absurd rfl cc) (fun _ => ?_)
            refine lv_iload hx hb dL_parishes_139 (lv_at hl 0 rfl) ?_
            refine lv_aload_n hx hb dL_parishes_141 rfl (lv_at hl 1 rfl) ?_
            refine lv_iconst (v := 2) hx hb dL_parishes_142 (by decide) ?_
            have hpm : List.Perm (([(b, .inr (1, [.ref v14, .int 0, .int 0, .int (nI (ut_dd f (i + 1)).length)])), (v14, .inl (g.2.2.2.1, cap14, .inl a14)), (q1, .inl (g.2.1, 4, .inl (upd ah (ut_gv f i) (nI (um_cnt (fun h => decide (um_guess (um_pa f) (f 0) (f (211 + h)) = nI (ut_gv f i))) i + 1)))))] ++ Wo29) : va_W) (Wo29 ++ [(b, .inr (1, [.ref v14, .int 0, .int 0, .int (nI (ut_dd f (i + 1)).length)])), (v14, .inl (g.2.2.2.1, cap14, .inl a14)), (q1, .inl (g.2.1, 4, .inl (upd ah (ut_gv f i) (nI (um_cnt (fun h => decide (um_guess (um_pa f) (f 0) (f (211 + h)) = nI (ut_gv f i))) i + 1)))))]) := List.perm_append_comm
            have hFc := ub_freeP hD hS hA hpm
            obtain ⟨hPc, hDc⟩ := ub_subP hP hD hpm
            refine us_calli (va_runV (As := [.int 2]) (rest := [.int (nI i)]) ⟨hx, hb, hml, hown, hts⟩ (uo_account l g hR (x := 2)) (cwV 1 hts gu_RL_34 rfl rfl rfl ⟨rfl, uhX8_account⟩ ⟨Nat.le_of_ble_eq_true rfl, Nat.le_of_ble_eq_true rfl⟩) (us_preO hR hZ hS hFc hPc hDc hK hN) rfl rfl hl.1 rfl (lv_room (Nat.le_of_ble_eq_true rfl)) dL_parishes_143 ⟨Nat.le_trans (Nat.le_of_eq (Nat.add_zero _)) (by show (((3 + 2 * i) + 2) + k14) ≤ 100; omega), Nat.le_trans (Nat.le_of_eq (Nat.add_zero _)) (by show (((24 + 8 * i) + 8) + 2 * cap14) ≤ 2000; omega)⟩) hP hD hS hA hpm (fun r Wo30 H locs hpost hP hD hS => ?_)
            have hP : va_P g.1 vwCl ([(b, .inr (1, [.ref v14, .int 0, .int 0, .int (nI (ut_dd f (i + 1)).length)])), (v14, .inl (g.2.2.2.1, cap14, .inl a14)), (q1, .inl (g.2.1, 4, .inl (upd ah (ut_gv f i) (nI (um_cnt (fun h => decide (um_guess (um_pa f) (f 0) (f (211 + h)) = nI (ut_gv f i))) i + 1)))))] ++ Wo30) H := ub_P_perm List.perm_append_comm hP
            have hD : va_D A ([(b, .inr (1, [.ref v14, .int 0, .int 0, .int (nI (ut_dd f (i + 1)).length)])), (v14, .inl (g.2.2.2.1, cap14, .inl a14)), (q1, .inl (g.2.1, 4, .inl (upd ah (ut_gv f i) (nI (um_cnt (fun h => decide (um_guess (um_pa f) (f 0) (f (211 + h)) = nI (ut_gv f i))) i + 1)))))] ++ Wo30) := ub_D_perm List.perm_append_comm hD
            obtain ⟨hr, hR⟩ := hpost
            have er : r = nI (f 2) := by rw [hr]; rfl
            rw [er]
            have hle : i ≤ f 2 := Nat.le_of_not_lt (fun z => hz (h6 z))
            have f2 := hI.2.2.2.1
            refine lv_icmp_le (tgt := 156) hx hb dL_parishes_146 (by decide) (fun _ => ?_) (fun cc => absurd (nI_le hle (by omega)) cc)
            refine lv_iinc (v := nI i + 1) (lv' := [(4, .int (nI i + 1)), (0, .ref h0), (1, .ref q1), (2, .int (uz_z f (i + 1))), (3, .ref b), (5, .int (nI (ut_gv f i)))]) hx hb dL_parishes_156 hl (k := 0) rfl rfl (by decide) rfl (fun ls hl => ?_)
            refine lv_goto (tgt := 19) hx hb dL_parishes_159 (by decide) ?_
            rw [nI_1] at hl
            refine W.widen (k := 3 + 2 * (i + 1) + k14) (n := 24 + 8 * (i + 1) + 2 * cap14) (by omega) (by omega) ?_
            exact ih (i + 1) v14 cap14 k14 a14 (upd ah (ut_gv f i) (nI (um_cnt (fun h => decide (um_guess (um_pa f) (f 0) (f (211 + h)) = nI (ut_gv f i))) i + 1))) Wo30 _ _ ls (by omega) hB14 (ug_up4 (b := fun p => fun h => decide (um_guess (um_pa f) (f 0) (f (211 + h)) = nI p)) gh (by rw [eG, decide_eq_true rfl]; rfl) (fun p hp hne => decide_eq_false (fun z => hne ((nI_eq (by omega) (by omega)).mp (eG.symm.trans z)).symm))) hR (lv_sub hl [0, 1, 2, 3, 4] rfl) hP hD hS
          refine lv_iload_n hx hb dL_parishes_86 rfl (lv_at hl 4 rfl) ?_
          have hzc := uz_cases hI i (by omega)
          rcases hzc with hzc | hzc
          · obtain ⟨z1, z2⟩ := hzc
            refine lv_if_lt (tgt := 110) hx hb dL_parishes_87 (by decide) (fun _ => ?_) (fun cc => absurd (by rw [z1]; decide) cc)
            refine lv_iload hx hb dL_parishes_110 (lv_at hl 1 rfl) ?_
            refine lv_goto (tgt := 116) hx hb dL_parishes_112 (by decide) ?_
            refine lv_istore_n (lv' := [(2, .int (nI i)), (5, .int (nI (ut_gv f i))), (4, .int (nI i)), (0, .ref h0), (1, .ref q1), (3, .ref b)]) hx hb dL_parishes_116 rfl hl (by decide) rfl (fun ls hl => ?_)
            have e2 := z2 hi4 hz
            exact J117 Wo19 _ _ ls hR (lv_sub (l' := [(4, .int (nI i)), (0, .ref h0), (1, .ref q1), (2, .int (uz_z f (i + 1))), (3, .ref b), (5, .int (nI (ut_gv f i)))]) hl [2, 3, 4, 0, 5, 1] (by rw [e2]; rfl)) hP hD hS
          · obtain ⟨mm, m1, z1, z2⟩ := hzc
            have z2 := z2 hi4 hz
            have fM := um_I_set hI m1
            refine lv_if_lt (tgt := 110) hx hb dL_parishes_87 (by decide) (fun cc => absurd cc (by rw [z1]; exact nI_pos (by omega))) (fun _ => ?_)
            refine lv_aload_n hx hb dL_parishes_90 rfl (lv_at hl 2 rfl) ?_
            refine lv_iload hx hb dL_parishes_91 (lv_at hl 1 rfl) ?_
            have hpm : List.Perm (([(b, .inr (1, [.ref v14, .int 0, .int 0, .int (nI (ut_dd f (i + 1)).length)])), (v14, .inl (g.2.2.2.1, cap14, .inl a14)), (q1, .inl (g.2.1, 4, .inl (upd ah (ut_gv f i) (nI (um_cnt (fun h => decide (um_guess (um_pa f) (f 0) (f (211 + h)) = nI (ut_gv f i))) i + 1)))))] ++ Wo19) : va_W) (Wo19 ++ [(b, .inr (1, [.ref v14, .int 0, .int 0, .int (nI (ut_dd f (i + 1)).length)])), (v14, .inl (g.2.2.2.1, cap14, .inl a14)), (q1, .inl (g.2.1, 4, .inl (upd ah (ut_gv f i) (nI (um_cnt (fun h => decide (um_guess (um_pa f) (f 0) (f (211 + h)) = nI (ut_gv f i))) i + 1)))))]) := List.perm_append_comm
            have hFc := ub_freeP hD hS hA hpm
            obtain ⟨hPc, hDc⟩ := ub_subP hP hD hpm
            refine us_calli (va_runV (As := [.int (nI i)]) (rest := []) ⟨hx, hb, hml, hown, hts⟩ (uo_answered l g hR (x := (nI i))) (cwV 1 hts gu_RL_103 rfl rfl rfl ⟨rfl, uhX8_answered⟩ ⟨Nat.le_of_ble_eq_true rfl, Nat.le_of_ble_eq_true rfl⟩) (us_preO hR hZ hS hFc hPc hDc hK hN) rfl rfl hl.1 rfl (lv_room (Nat.le_of_ble_eq_true rfl)) dL_parishes_93 ⟨Nat.le_trans (Nat.le_of_eq (Nat.add_zero _)) (by show (((3 + 2 * i) + 2) + k14) ≤ 100; omega), Nat.le_trans (Nat.le_of_eq (Nat.add_zero _)) (by show (((24 + 8 * i) + 8) + 2 * cap14) ≤ 2000; omega)⟩) hP hD hS hA hpm (fun r Wo31 H locs hpost hP hD hS => ?_)
            have hP : va_P g.1 vwCl ([(b, .inr (1, [.ref v14, .int 0, .int 0, .int (nI (ut_dd f (i + 1)).length)])), (v14, .inl (g.2.2.2.1, cap14, .inl a14)), (q1, .inl (g.2.1, 4, .inl (upd ah (ut_gv f i) (nI (um_cnt (fun h => decide (um_guess (um_pa f) (f 0) (f (211 + h)) = nI (ut_gv f i))) i + 1)))))] ++ Wo31) H := ub_P_perm List.perm_append_comm hP
            have hD : va_D A ([(b, .inr (1, [.ref v14, .int 0, .int 0, .int (nI (ut_dd f (i + 1)).length)])), (v14, .inl (g.2.2.2.1, cap14, .inl a14)), (q1, .inl (g.2.1, 4, .inl (upd ah (ut_gv f i) (nI (um_cnt (fun h => decide (um_guess (um_pa f) (f 0) (f (211 + h)) = nI (ut_gv f i))) i + 1)))))] ++ Wo31) := ub_D_perm List.perm_append_comm hD
            obtain ⟨hr, hR⟩ := hpost
            have er : r = nI (f (211 + i)) := hr.trans (uw_answered hi4)
            rw [er]
            have hpm : List.Perm (([(b, .inr (1, [.ref v14, .int 0, .int 0, .int (nI (ut_dd f (i + 1)).length)])), (v14, .inl (g.2.2.2.1, cap14, .inl a14)), (q1, .inl (g.2.1, 4, .inl (upd ah (ut_gv f i) (nI (um_cnt (fun h => decide (um_guess (um_pa f) (f 0) (f (211 + h)) = nI (ut_gv f i))) i + 1)))))] ++ Wo31) : va_W) (([] : va_W) ++ ([(b, .inr (1, [.ref v14, .int 0, .int 0, .int (nI (ut_dd f (i + 1)).length)])), (v14, .inl (g.2.2.2.1, cap14, .inl a14)), (q1, .inl (g.2.1, 4, .inl (upd ah (ut_gv f i) (nI (um_cnt (fun h => decide (um_guess (um_pa f) (f 0) (f (211 + h)) = nI (ut_gv f i))) i + 1)))))] ++ Wo31)) := List.Perm.refl _
            have hFc := ub_freeP hD hS hA hpm
            obtain ⟨hPc, hDc⟩ := ub_subP hP hD hpm
            refine us_calli (va_runS (As := [.int (nI (f (211 + i)))]) (rest := []) ⟨hx, hb, hml, hown, hts⟩ (ul_bitCount l g (x := (f (211 + i))) fH) (va_cwS 1 hts gu_RL_154 rfl rfl rfl us_hJ6_bitCount_0f7a4 ⟨Nat.le_of_ble_eq_true rfl, Nat.le_of_ble_eq_true rfl⟩) (us_preS hZ hS hFc hPc hDc hK hN) rfl rfl hl.1 rfl (lv_room (Nat.le_of_ble_eq_true rfl)) dL_parishes_96 ⟨Nat.le_trans (Nat.le_of_eq (Nat.add_zero _)) (by show (((3 + 2 * i) + 2) + k14) ≤ 100; omega), Nat.le_trans (Nat.le_of_eq (Nat.add_zero _)) (by show (((24 + 8 * i) + 8) + 2 * cap14) ≤ 2000; omega)⟩) hP hD hS hA hpm (fun r u H locs hpost hP hD hS => ?_)
            obtain ⟨er, rfl⟩ := hpost
            rw [er]
            have hP : va_P g.1 vwCl ([(b, .inr (1, [.ref v14, .int 0, .int 0, .int (nI (ut_dd f (i + 1)).length)])), (v14, .inl (g.2.2.2.1, cap14, .inl a14)), (q1, .inl (g.2.1, 4, .inl (upd ah (ut_gv f i) (nI (um_cnt (fun h => decide (um_guess (um_pa f) (f 0) (f (211 + h)) = nI (ut_gv f i))) i + 1)))))] ++ Wo31) H := hP
            have hD : va_D A ([(b, .inr (1, [.ref v14, .int 0, .int 0, .int (nI (ut_dd f (i + 1)).length)])), (v14, .inl (g.2.2.2.1, cap14, .inl a14)), (q1, .inl (g.2.1, 4, .inl (upd ah (ut_gv f i) (nI (um_cnt (fun h => decide (um_guess (um_pa f) (f 0) (f (211 + h)) = nI (ut_gv f i))) i + 1)))))] ++ Wo31) := hD
            refine lv_aload_n hx hb dL_parishes_99 rfl (lv_at hl 2 rfl) ?_
            refine lv_iload_n hx hb dL_parishes_100 rfl (lv_at hl 4 rfl) ?_
            have hpm : List.Perm (([(b, .inr (1, [.ref v14, .int 0, .int 0, .int (nI (ut_dd f (i + 1)).length)])), (v14, .inl (g.2.2.2.1, cap14, .inl a14)), (q1, .inl (g.2.1, 4, .inl (upd ah (ut_gv f i) (nI (um_cnt (fun h => decide (um_guess (um_pa f) (f 0) (f (211 + h)) = nI (ut_gv f i))) i + 1)))))] ++ Wo31) : va_W) (Wo31 ++ [(b, .inr (1, [.ref v14, .int 0, .int 0, .int (nI (ut_dd f (i + 1)).length)])), (v14, .inl (g.2.2.2.1, cap14, .inl a14)), (q1, .inl (g.2.1, 4, .inl (upd ah (ut_gv f i) (nI (um_cnt (fun h => decide (um_guess (um_pa f) (f 0) (f (211 + h)) = nI (ut_gv f i))) i + 1)))))]) := List.perm_append_comm
            have hFc := ub_freeP hD hS hA hpm
            obtain ⟨hPc, hDc⟩ := ub_subP hP hD hpm
            refine us_calli (va_runV (As := [.int (uz_z f i)]) (rest := [.int (nI (um_pop 12 (f (211 + i))))]) ⟨hx, hb, hml, hown, hts⟩ (uo_answered l g hR (x := (uz_z f i))) (cwV 1 hts gu_RL_103 rfl rfl rfl ⟨rfl, uhX8_answered⟩ ⟨Nat.le_of_ble_eq_true rfl, Nat.le_of_ble_eq_true rfl⟩) (us_preO hR hZ hS hFc hPc hDc hK hN) rfl rfl hl.1 rfl (lv_room (Nat.le_of_ble_eq_true rfl)) dL_parishes_101 ⟨Nat.le_trans (Nat.le_of_eq (Nat.add_zero _)) (by show (((3 + 2 * i) + 2) + k14) ≤ 100; omega), Nat.le_trans (Nat.le_of_eq (Nat.add_zero _)) (by show (((24 + 8 * i) + 8) + 2 * cap14) ≤ 2000; omega)⟩) hP hD hS hA hpm (fun r Wo32 H locs hpost hP hD hS => ?_)
            have hP : va_P g.1 vwCl ([(b, .inr (1, [.ref v14, .int 0, .int 0, .int (nI (ut_dd f (i + 1)).length)])), (v14, .inl (g.2.2.2.1, cap14, .inl a14)), (q1, .inl (g.2.1, 4, .inl (upd ah (ut_gv f i) (nI (um_cnt (fun h => decide (um_guess (um_pa f) (f 0) (f (211 + h)) = nI (ut_gv f i))) i + 1)))))] ++ Wo32) H := ub_P_perm List.perm_append_comm hP
            have hD : va_D A ([(b, .inr (1, [.ref v14, .int 0, .int 0, .int (nI (ut_dd f (i + 1)).length)])), (v14, .inl (g.2.2.2.1, cap14, .inl a14)), (q1, .inl (g.2.1, 4, .inl (upd ah (ut_gv f i) (nI (um_cnt (fun h => decide (um_guess (um_pa f) (f 0) (f (211 + h)) = nI (ut_gv f i))) i + 1)))))] ++ Wo32) := ub_D_perm List.perm_append_comm hD
            obtain ⟨hr, hR⟩ := hpost
            have er : r = nI (f (211 + mm)) := by rw [hr, z1]; exact uw_answered m1
            rw [er]
            have hpm : List.Perm (([(b, .inr (1, [.ref v14, .int 0, .int 0, .int (nI (ut_dd f (i + 1)).length)])), (v14, .inl (g.2.2.2.1, cap14, .inl a14)), (q1, .inl (g.2.1, 4, .inl (upd ah (ut_gv f i) (nI (um_cnt (fun h => decide (um_guess (um_pa f) (f 0) (f (211 + h)) = nI (ut_gv f i))) i + 1)))))] ++ Wo32) : va_W) (([] : va_W) ++ ([(b, .inr (1, [.ref v14, .int 0, .int 0, .int (nI (ut_dd f (i + 1)).length)])), (v14, .inl (g.2.2.2.1, cap14, .inl a14)), (q1, .inl (g.2.1, 4, .inl (upd ah (ut_gv f i) (nI (um_cnt (fun h => decide (um_guess (um_pa f) (f 0) (f (211 + h)) = nI (ut_gv f i))) i + 1)))))] ++ Wo32)) := List.Perm.refl _
            have hFc := ub_freeP hD hS hA hpm
            obtain ⟨hPc, hDc⟩ := ub_subP hP hD hpm
            refine us_calli (va_runS (As := [.int (nI (f (211 + mm)))]) (rest := [.int (nI (um_pop 12 (f (211 + i))))]) ⟨hx, hb, hml, hown, hts⟩ (ul_bitCount l g (x := (f (211 + mm))) fM) (va_cwS 1 hts gu_RL_154 rfl rfl rfl us_hJ6_bitCount_0f7a4 ⟨Nat.le_of_ble_eq_true rfl, Nat.le_of_ble_eq_true rfl⟩) (us_preS hZ hS hFc hPc hDc hK hN) rfl rfl hl.1 rfl (lv_room (Nat.le_of_ble_eq_true rfl)) dL_parishes_104 ⟨Nat.le_trans (Nat.le_of_eq (Nat.add_zero _)) (by show (((3 + 2 * i) + 2) + k14) ≤ 100; omega), Nat.le_trans (Nat.le_of_eq (Nat.add_zero _)) (by show (((24 + 8 * i) + 8) + 2 * cap14) ≤ 2000; omega)⟩) hP hD hS hA hpm (fun r u H locs hpost hP hD hS => ?_)
            obtain ⟨er, rfl⟩ := hpost
            rw [er]
            have hP : va_P g.1 vwCl ([(b, .inr (1, [.ref v14, .int 0, .int 0, .int (nI (ut_dd f (i + 1)).length)])), (v14, .inl (g.2.2.2.1, cap14, .inl a14)), (q1, .inl (g.2.1, 4, .inl (upd ah (ut_gv f i) (nI (um_cnt (fun h => decide (um_guess (um_pa f) (f 0) (f (211 + h)) = nI (ut_gv f i))) i + 1)))))] ++ Wo32) H := hP
            have hD : va_D A ([(b, .inr (1, [.ref v14, .int 0, .int 0, .int (nI (ut_dd f (i + 1)).length)])), (v14, .inl (g.2.2.2.1, cap14, .inl a14)), (q1, .inl (g.2.1, 4, .inl (upd ah (ut_gv f i) (nI (um_cnt (fun h => decide (um_guess (um_pa f) (f 0) (f (211 + h)) = nI (ut_gv f i))) i + 1)))))] ++ Wo32) := hD
            have pl : ∀ x, um_pop 12 x < 2 ^ 30 := um_pop_lt
            by_cases hpp : um_pop 12 (f (211 + mm)) < um_pop 12 (f (211 + i))
            · refine lv_icmp_le (tgt := 115) hx hb dL_parishes_107 (by decide) (fun cc => absurd cc (nI_ge hpp (Nat.lt_trans (pl _) (by decide)))) (fun _ => ?_)
              refine lv_iload hx hb dL_parishes_110 (lv_at hl 1 rfl) ?_
              refine lv_goto (tgt := 116) hx hb dL_parishes_112 (by decide) ?_
              refine lv_istore_n (lv' := [(2, .int (nI i)), (5, .int (nI (ut_gv f i))), (4, .int (nI i)), (0, .ref h0), (1, .ref q1), (3, .ref b)]) hx hb dL_parishes_116 rfl hl (by decide) rfl (fun ls hl => ?_)
              have e2 := z2.trans (if_pos hpp)
              exact J117 Wo32 _ _ ls hR (lv_sub (l' := [(4, .int (nI i)), (0, .ref h0), (1, .ref q1), (2, .int (uz_z f (i + 1))), (3, .ref b), (5, .int (nI (ut_gv f i)))]) hl [2, 3, 4, 0, 5, 1] (by rw [e2]; rfl)) hP hD hS
            · refine lv_icmp_le (tgt := 115) hx hb dL_parishes_107 (by decide) (fun _ => ?_) (fun cc => absurd (nI_le (Nat.le_of_not_lt hpp) (Nat.lt_trans (pl _) (by decide))) cc)
              refine lv_iload_n hx hb dL_parishes_115 rfl (lv_at hl 4 rfl) ?_
              refine lv_istore_n (lv' := [(2, .int (uz_z f i)), (5, .int (nI (ut_gv f i))), (4, .int (nI i)), (0, .ref h0), (1, .ref q1), (3, .ref b)]) hx hb dL_parishes_116 rfl hl (by decide) rfl (fun ls hl => ?_)
              have e2 := (z2.trans (if_neg hpp)).trans z1.symm
              exact J117 Wo32 _ _ ls hR (lv_sub (l' := [(4, .int (nI i)), (0, .ref h0), (1, .ref q1), (2, .int (uz_z f (i + 1))), (3, .ref b), (5, .int (nI (ut_gv f i)))]) hl [2, 3, 4, 0, 5, 1] (by rw [e2]; rfl)) hP hD hS
  refine W.widen (k := 3 + 2 * 0 + 0) (n := 24 + 8 * 0 + 2 * 16) (by omega) (by omega) ?_
  exact loopH 24 0 v 16 0 (fun _ => 0) (fun _ => 0) Wo _ _ ls (by omega) us_B0 (fun p hp => rfl) hR (lv_sub hl [0, 4, 3, 2, 1] rfl) hP hD hS

