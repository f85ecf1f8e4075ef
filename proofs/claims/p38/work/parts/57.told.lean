/-! ===== told: what a machine tells of itself ===== -/
theorem us_nI_ok {x : Nat} (h : x < 2 ^ 31) : ¬ nI x = -2147483648 := fun e => by
  have h1 : (nI x).toInt = ((-2147483648 : Int32)).toInt := by rw [e]
  rw [nI_toInt h] at h1
  have h2 : ((-2147483648 : Int32)).toInt = -2147483648 := by decide
  omega
def ut_tA (f : Nat → Nat) (n : Nat) : Nat → List Nat
  | 0 => []
  | i + 1 => (ut_tA f n i ++ us_il_list (ut_acc f n (nI i))) ++ [44]
def ut_tB (f : Nat → Nat) (n : Nat) : Nat → List Nat
  | 0 => ut_tA f n 11
  | i + 1 => (((((((ut_tB f n i ++ ut_tell f i) ++ [47]) ++ us_il_list (nI (f (14 + 6 * i)))) ++ [44]) ++ us_il_list (nI (f (15 + 6 * i)))) ++ [44]) ++ us_il_list (nI (f (16 + 6 * i)))) ++ [59]
def ut_tC (f : Nat → Nat) (n : Nat) : Nat → List Nat
  | 0 => ut_tB f n (f 0)
  | i + 1 => (ut_tC f n i ++ us_il_list (nI (f (211 + i)))) ++ [44]
def ut_tD (f : Nat → Nat) (n : Nat) : Nat → List Nat
  | 0 => ut_tC f n 24
  | i + 1 => (ut_tD f n i ++ us_il_list (ux_answerOf f (nI (i / 4)) (nI (i % 4)))) ++ [44]
def us_told (f : Nat → Nat) (n : Nat) : List Nat := ut_tD f n 80
theorem ut_il_le (x : Int32) : (us_il_list x).length ≤ 11 := by
  rw [us_il_len]
  exact (us_il_in x).2
theorem ut_tA_len {f : Nat → Nat} {n : Nat} : ∀ i, (ut_tA f n i).length ≤ 12 * i
  | 0 => Nat.le_refl _
  | i + 1 => by
    have h1 := ut_tA_len (f := f) (n := n) i
    have h2 := ut_il_le (ut_acc f n (nI i))
    rw [ut_tA, List.length_append, List.length_append, List.length_singleton]
    omega
theorem ut_tB_len {f : Nat → Nat} {n : Nat} : ∀ i, (∀ r, r < i → (ut_tell f r).length ≤ 128) → (ut_tB f n i).length ≤ 132 + 165 * i
  | 0, _ => ut_tA_len 11
  | i + 1, h => by
    have h1 := ut_tB_len (f := f) (n := n) i (fun r hr => h r (by omega))
    have h0 := h i (Nat.lt_succ_self i)
    have h2 := ut_il_le (nI (f (14 + 6 * i)))
    have h3 := ut_il_le (nI (f (15 + 6 * i)))
    have h4 := ut_il_le (nI (f (16 + 6 * i)))
    rw [ut_tB]
    simp only [List.length_append, List.length_singleton]
    omega
theorem ut_tC_len {f : Nat → Nat} {n : Nat} (h0 : f 0 ≤ 12) (h : ∀ r, r < f 0 → (ut_tell f r).length ≤ 128) : ∀ i, (ut_tC f n i).length ≤ 2112 + 12 * i
  | 0 => by
    have := ut_tB_len (f := f) (n := n) (f 0) h
    rw [ut_tC]
    omega
  | i + 1 => by
    have h1 := ut_tC_len (n := n) h0 h i
    have h2 := ut_il_le (nI (f (211 + i)))
    rw [ut_tC, List.length_append, List.length_append, List.length_singleton]
    omega
theorem ut_tD_len {f : Nat → Nat} {n : Nat} (h0 : f 0 ≤ 12) (h : ∀ r, r < f 0 → (ut_tell f r).length ≤ 128) : ∀ i, (ut_tD f n i).length ≤ 2400 + 12 * i
  | 0 => ut_tC_len h0 h 24
  | i + 1 => by
    have h1 := ut_tD_len (n := n) h0 h i
    have h2 := ut_il_le (ux_answerOf f (nI (i / 4)) (nI (i % 4)))
    rw [ut_tD, List.length_append, List.length_append, List.length_singleton]
    omega
theorem ut_acc_ok {f : Nat → Nat} {c n : Nat} (hI : um_I f c) {i : Nat} (hi : i < 11) : ¬ ut_acc f n (nI i) = -2147483648 := by
  obtain ⟨q0, q1, q2, q3, q4, q5, q6, q7, q8, q9, q10, q11, q12, q13, q14, q15⟩ := hI
  unfold ut_acc
  by_cases h9 : i < 9
  · rw [if_pos (uw_in h9 (by decide)), nI_clamp (by omega)]
    rcases (show i = 0 ∨ i = 1 ∨ i = 2 ∨ i = 3 ∨ i = 4 ∨ i = 5 ∨ i = 6 ∨ i = 7 ∨ i = 8 by omega) with rfl | rfl | rfl | rfl | rfl | rfl | rfl | rfl | rfl <;> exact us_nI_ok (by omega)
  · rw [uw_no h9 (by omega) (by decide), if_neg (show ¬ (false = true) by decide)]
    rcases (show i = 9 ∨ i = 10 by omega) with rfl | rfl
    · rw [if_pos (show nI 9 = (9 : Int32) from rfl)]
      have hle : um_sum (fun r => f (13 + 6 * r)) (f 0) ≤ f 0 * 9 := um_sum_le (fun r hr => (q9 r (by omega)).2.2)
      exact us_nI_ok (by omega)
    · rw [if_neg (show ¬ nI 10 = (9 : Int32) by decide), if_pos (show nI 10 = (10 : Int32) from rfl)]
      exact us_nI_ok (by omega)
theorem ut_num_lt {x : Nat} (hx : x < 100) : ∀ y ∈ ut_num x, y < 128 := by
  intro y hy
  unfold ut_num at hy
  split at hy
  · rw [List.mem_singleton] at hy
    omega
  · rw [List.mem_cons, List.mem_singleton] at hy
    omega
theorem ut_pulls_lt {f : Nat → Nat} {r : Nat} : ∀ k i, (∀ j, i ≤ j → j < i + k → f (84 + 3 * j) < 100 ∧ f (85 + 3 * j) < 100) → ∀ y ∈ ut_pulls f r k i, y < 128
  | 0, _, _, y, hy => absurd hy List.not_mem_nil
  | k + 1, i, h, y, hy => by
    obtain ⟨h1, h2⟩ := h i (Nat.le_refl _) (by omega)
    rw [ut_pulls, List.mem_append] at hy
    rcases hy with hy | hy
    · split at hy
      · rw [List.mem_cons, List.mem_append, List.mem_cons] at hy
        rcases hy with rfl | hy | rfl | hy
        · decide
        · exact ut_num_lt h1 y hy
        · decide
        · exact ut_num_lt h2 y hy
      · exact absurd hy List.not_mem_nil
    · exact ut_pulls_lt k (i + 1) (fun j a b => h j (by omega) (by omega)) y hy
theorem ut_tell_lt {f : Nat → Nat} {c r : Nat} (hI : um_I f c) (hr : r < f 0) : ∀ y ∈ ut_tell f r, y < 128 := by
  obtain ⟨q0, q1, q2, q3, q4, q5, q6, q7, q8, q9, q10, q11, q12, q13, q14, q15⟩ := hI
  have h9 := q9 r (by omega)
  intro y hy
  unfold ut_tell at hy
  rw [List.mem_append, List.mem_cons, List.mem_append, List.mem_append, List.mem_append] at hy
  rcases hy with hy | rfl | hy | hy | hy | hy
  · exact ut_num_lt (by omega) y hy
  · decide
  · exact ut_num_lt (by omega) y hy
  · split at hy
    · rw [List.mem_singleton] at hy
      omega
    · exact absurd hy List.not_mem_nil
  · have := List.eq_of_mem_replicate hy
    omega
  · exact ut_pulls_lt (f 1) 0 (fun j _ hj => by have := q14 j (by omega); omega) y hy
theorem uo_W_len {g : us_G} {h0 k : Nat} {f : Nat → Nat} {hist : List (Nat → Nat)} {sv : Option (Nat → Nat)} {lr ld : Int32} {L : List Nat} {W : va_W} (h : uo_W g h0 k f hist sv lr ld L W) : L.length ≤ 128 ∧ um_I f k := by
  obtain ⟨ad, X, z, hf, T, tr, on0, ps0, ok0, om0, tc, lc, G, h1, h2, h3, h4, h5, h6, h7⟩ := h
  exact ⟨h5.2.1, h2⟩
theorem us_pl {X Y W : va_W} : ((X ++ W) ++ Y).Perm ((Y ++ X) ++ W) := by
  rw [List.append_assoc Y X W]
  exact List.perm_append_comm
theorem us_div4 : ∀ k, k < 80 → nI k / 4 = nI (k / 4) ∧ nI k - nI k / 4 * 4 = nI (k % 4) := by decide +kernel
theorem us_hL_told : yL_told.cls ≠ "java/lang/invoke/MethodHandle" ∧ yL_told.cls ≠ "java/lang/invoke/VarHandle" ∧ (parseMethodDescriptor yL_told.desc).map (fun d => d.parameters.length) = some 1 := by decide +kernel
set_option maxHeartbeats 4000000 in
set_option maxRecDepth 100000 in
theorem ul_told (l : Launch) (g : us_G) {sz : Nat} {h0 k : Nat} {f : Nat → Nat} {hist : List (Nat → Nat)} {sv : Option (Nat → Nat)} {lr ld : Int32} {L : List Nat} {Wo : va_W} (hR : uo_W g h0 k f hist sv lr ld L Wo) (hAo : ∀ q, q < 80 → ¬ ux_answerOf f (nI (q / 4)) (nI (q % 4)) = -2147483648) (hTl : ∀ r, r < f 0 → (ut_tell f r).length ≤ 128) : Met l yL_told wsL_told ({ frames := 7, cells := 182, slots := 26000, locals := 160 } : Room) (va_Pc [.ref h0] (us_pc g Wo sz)) (va_Qr (fun (_ : va_W) => True) (fun u r t => (fun (r : Nat) (u : va_W) => ∃ (W2 : va_W) (v2 : Nat) (a2 : Nat → Int32) (L2 : List Nat), u = us_st g r v2 0 0 (us_told f hist.length) a2 ++ W2 ∧ uo_W g h0 k f hist sv lr ld L2 W2 ∧ us_T (us_told f hist.length) a2) r u ∧ ub_pq g.1 u (va_A Wo sz) t) (va_A Wo sz)) 182 26000 (va_A Wo sz) := by
  refine us_met_r (post := (fun (r : Nat) (u : va_W) => ∃ (W2 : va_W) (v2 : Nat) (a2 : Nat → Int32) (L2 : List Nat), u = us_st g r v2 0 0 (us_told f hist.length) a2 ++ W2 ∧ uo_W g h0 k f hist sv lr ld L2 W2 ∧ us_T (us_told f hist.length) a2)) (Or.inl ⟨_, rfl⟩) (by decide +kernel) (Nat.le_of_ble_eq_true rfl) fun p e s m args below meth c Q A K hret ls hl hP hD hS => ?_
  obtain ⟨hx, hb, hml, hown, hts, hK, hN, hA, hZ⟩ := K
  have hl : lv_has ls 3 [(0, .ref h0)] := hl
  have hI0 := (uo_W_len hR).2
  have q1 : f 0 ≤ 12 := hI0.2.1
  have K0 : us_kx p s m args meth c cL_told 3 RL g A := ⟨hx, hb, hml, hown, hts, hK, hN, hA, hZ⟩
  refine us_sbN K0 hl.1 hP hD hS (Nat.le_of_ble_eq_true rfl) (Nat.le_of_ble_eq_true rfl) (by decide) (by decide) (Nat.le_of_ble_eq_true rfl) dL_told_0 dL_told_3 dL_told_4 (fun b v H locs hP hD hS => ?_)
  refine lv_astore_n (lv' := [(1, .ref b), (0, .ref h0)]) hx hb dL_told_7 rfl hl (by decide) rfl (fun ls hl => ?_)
  refine lv_iconst (v := 0) hx hb dL_told_8 (by decide) ?_
  refine lv_istore_n (lv' := [(2, .int 0), (1, .ref b), (0, .ref h0)]) hx hb dL_told_9 rfl hl (by decide) rfl (fun ls hl => ?_)
  have loopD : ∀ (q i v cap k0 : Nat) (a : Nat → Int32) (L : List Nat) (Wo : va_W) (H : Heap) (locs : List Loc) (ls : Array Slot), 80 = i + q → uo_W g h0 k f hist sv lr ld L Wo → us_B (ut_tD f hist.length i) cap k0 a → lv_has ls 3 [(2, .int (nI i)), (1, .ref b), (0, .ref h0)] → va_P g.1 vwCl (us_sb g b v 0 (ut_tD f hist.length i) cap a ++ Wo) H → va_D A (us_sb g b v 0 (ut_tD f hist.length i) cap a ++ Wo) → va_S A s.heap H locs → W p l e ({ frames := 7, cells := 182, slots := 26000, locals := 160 } : Room) s m args below meth c H locs (170 + k0) (8372 + 2 * cap) Q (F0 m 146 ls []) := by
    intro q
    induction q with
    | zero =>
      intro i v cap k0 a L Wo H locs ls hiq hR hB hl hP hD hS
      refine lv_iload_n hx hb dL_told_146 rfl (lv_at hl 0 rfl) ?_
      refine lv_bipush (v := 80) hx hb dL_told_147 (by decide) ?_
      refine lv_icmp_ge (tgt := 178) hx hb dL_told_149 (by decide) (fun _ => ?_) (fun cc => absurd (nI_le (a := 80) (by omega) (by omega)) cc)
      refine lv_aload_n hx hb dL_told_178 rfl (lv_at hl 1 rfl) ?_
      obtain rfl : i = 80 := by omega
      have hlen := ut_tD_len (n := hist.length) q1 hTl 80
      refine us_sbT (base := 170) (bs := 8372) K0 hl.1 hP hD hS (List.Perm.refl _) hB (by omega) (Nat.le_of_ble_eq_true rfl) (Nat.le_of_ble_eq_true rfl) (by decide) (by show 8372 + 5 * (ut_tD f hist.length 80).length + 36 ≤ 26000; omega) (Nat.le_of_ble_eq_true rfl) dL_told_179 (fun r v2 a2 H locs hT hP hD hS => ?_)
      refine W.widen (k := 182) (n := 26000) (by decide) (by omega) ?_
      exact hret r _ H locs _ ls ⟨Wo, v2, a2, L, rfl, hR, hT⟩ dL_told_182 hP hD hS
    | succ q ih =>
      intro i v cap k0 a L Wo H locs ls hiq hR hB hl hP hD hS
      have hlen := ut_tD_len (n := hist.length) q1 hTl i
      obtain ⟨hk9, hc9⟩ := us_B_k hB (by omega)
      have hcap := hB.2.2.2.2
      have hc1 : 170 + k0 ≤ 182 := by omega
      have hc2 : 8372 + 2 * cap ≤ 26000 := by omega
      refine lv_iload_n hx hb dL_told_146 rfl (lv_at hl 0 rfl) ?_
      refine lv_bipush (v := 80) hx hb dL_told_147 (by decide) ?_
      refine lv_icmp_ge (tgt := 178) hx hb dL_told_149 (by decide) (fun cc => absurd cc (nI_ge (b := 80) (by omega) (by decide))) (fun _ => ?_)
      refine lv_aload_n hx hb dL_told_152 rfl (lv_at hl 1 rfl) ?_
      refine lv_aload_n hx hb dL_told_153 rfl (lv_at hl 2 rfl) ?_
      refine lv_iload_n hx hb dL_told_154 rfl (lv_at hl 0 rfl) ?_
      refine lv_iconst (v := 4) hx hb dL_told_155 (by decide) ?_
      refine lv_idiv hx hb dL_told_156 (by decide) ?_
      refine us_topi (x := nI (i / 4)) (us_div4 i (by omega)).1 ?_
      refine lv_iload_n hx hb dL_told_157 rfl (lv_at hl 0 rfl) ?_
      refine lv_iconst (v := 4) hx hb dL_told_158 (by decide) ?_
      refine lv_irem hx hb dL_told_159 (by decide) ?_
      refine us_topi (x := nI (i % 4)) (us_div4 i (by omega)).2 ?_
      have hpm : List.Perm (([(b, .inr (1, [.ref v, .int 0, .int 0, .int (nI (ut_tD f hist.length i).length)])), (v, .inl (g.2.2.2.1, cap, .inl a))] ++ Wo) : va_W) (Wo ++ [(b, .inr (1, [.ref v, .int 0, .int 0, .int (nI (ut_tD f hist.length i).length)])), (v, .inl (g.2.2.2.1, cap, .inl a))]) := List.perm_append_comm
      have hFc := ub_freeP hD hS hA hpm
      obtain ⟨hPc, hDc⟩ := ub_subP hP hD hpm
      refine us_calli (va_runV (As := [.int (nI (i / 4)), .int (nI (i % 4))]) (rest := [.ref b]) ⟨hx, hb, hml, hown, hts⟩ (uo_answerOf l g hR (x := (nI (i / 4))) (v := (nI (i % 4)))) (cwV 2 hts gu_RL_106 rfl rfl rfl ⟨rfl, uhX8_answerOf⟩ ⟨Nat.le_of_ble_eq_true rfl, Nat.le_of_ble_eq_true rfl⟩) (us_preO hR hZ hS hFc hPc hDc hK hN) rfl rfl hl.1 rfl (lv_room (Nat.le_of_ble_eq_true rfl)) dL_told_160 ⟨Nat.le_trans (Nat.le_of_eq (Nat.add_zero _)) hc1, Nat.le_trans (Nat.le_of_eq (Nat.add_zero _)) hc2⟩) hP hD hS hA hpm (fun r Wo1 H locs hpost hP hD hS => ?_)
      have hP : va_P g.1 vwCl ([(b, .inr (1, [.ref v, .int 0, .int 0, .int (nI (ut_tD f hist.length i).length)])), (v, .inl (g.2.2.2.1, cap, .inl a))] ++ Wo1) H := ub_P_perm List.perm_append_comm hP
      have hD : va_D A ([(b, .inr (1, [.ref v, .int 0, .int 0, .int (nI (ut_tD f hist.length i).length)])), (v, .inl (g.2.2.2.1, cap, .inl a))] ++ Wo1) := ub_D_perm List.perm_append_comm hD
      obtain ⟨rfl, hR⟩ := hpost
      have hl1 := ut_il_le (ux_answerOf f (nI (i / 4)) (nI (i % 4)))
      refine us_sbI (base := 170) (bs := 8372) K0 hl.1 hP hD hS (List.Perm.refl _) hB (by (try simp only [List.length_append, List.length_singleton]); omega) (x := ux_answerOf f (nI (i / 4)) (nI (i % 4))) (hAo i (by omega)) (Nat.le_of_ble_eq_true rfl) (Nat.le_of_ble_eq_true rfl) (by show 170 + 10 ≤ 182; omega) (by show 8372 + 4 * ((ut_tD f hist.length i).length + us_il (ux_answerOf f (nI (i / 4)) (nI (i % 4)))) + 32 ≤ 26000; rw [us_il_len] at hl1; (try simp only [List.length_append, List.length_singleton]); omega) (Nat.le_of_ble_eq_true rfl) dL_told_163 (fun v1 cap1 k1 a1 H locs hB1 hP hD hS => ?_)
      refine lv_bipush (v := 44) hx hb dL_told_166 (by decide) ?_
      have hl2 := (List.length_append : (ut_tD f hist.length i ++ us_il_list (ux_answerOf f (nI (i / 4)) (nI (i % 4)))).length = _)
      refine us_sbC (base := 170) (bs := 8372) K0 hl.1 hP hD hS (List.Perm.refl _) hB1 (by (try simp only [List.length_append, List.length_singleton]); omega) (c0 := 44) (by decide) (Nat.le_of_ble_eq_true rfl) (Nat.le_of_ble_eq_true rfl) (by show 170 + 10 ≤ 182; omega) (by show 8372 + 4 * ((ut_tD f hist.length i ++ us_il_list (ux_answerOf f (nI (i / 4)) (nI (i % 4)))).length + 1) + 32 ≤ 26000; (try simp only [List.length_append, List.length_singleton]); omega) (Nat.le_of_ble_eq_true rfl) dL_told_168 (fun v2 cap2 k2 a2 H locs hB2 hP hD hS => ?_)
      refine lv_pop hx hb dL_told_171 rfl ?_
      refine lv_iinc (v := nI i + 1) (lv' := [(2, .int (nI i + 1)), (1, .ref b), (0, .ref h0)]) hx hb dL_told_172 hl (k := 0) rfl rfl (by decide) rfl (fun ls hl => ?_)
      refine lv_goto (tgt := 146) hx hb dL_told_175 (by decide) ?_
      rw [nI_1] at hl
      exact ih (i + 1) v2 cap2 k2 a2 L Wo1 H locs ls (by omega) hR hB2 (lv_sub hl [0, 1, 2] rfl) hP hD hS
  have loopC : ∀ (q i v cap k0 : Nat) (a : Nat → Int32) (L : List Nat) (Wo : va_W) (H : Heap) (locs : List Loc) (ls : Array Slot), 24 = i + q → uo_W g h0 k f hist sv lr ld L Wo → us_B (ut_tC f hist.length i) cap k0 a → lv_has ls 3 [(2, .int (nI i)), (1, .ref b), (0, .ref h0)] → va_P g.1 vwCl (us_sb g b v 0 (ut_tC f hist.length i) cap a ++ Wo) H → va_D A (us_sb g b v 0 (ut_tC f hist.length i) cap a ++ Wo) → va_S A s.heap H locs → W p l e ({ frames := 7, cells := 182, slots := 26000, locals := 160 } : Room) s m args below meth c H locs (170 + k0) (8372 + 2 * cap) Q (F0 m 117 ls []) := by
    intro q
    induction q with
    | zero =>
      intro i v cap k0 a L Wo H locs ls hiq hR hB hl hP hD hS
      refine lv_iload_n hx hb dL_told_117 rfl (lv_at hl 0 rfl) ?_
      refine lv_bipush (v := 24) hx hb dL_told_118 (by decide) ?_
      refine lv_icmp_ge (tgt := 144) hx hb dL_told_120 (by decide) (fun _ => ?_) (fun cc => absurd (nI_le (a := 24) (by omega) (by omega)) cc)
      refine lv_iconst (v := 0) hx hb dL_told_144 (by decide) ?_
      refine lv_istore_n (lv' := [(2, .int 0), (1, .ref b), (0, .ref h0)]) hx hb dL_told_145 rfl hl (by decide) rfl (fun ls hl => ?_)
      have ei : i = 24 := by omega
      rw [ei] at hB hP hD
      exact loopD 80 0 v cap k0 a L Wo H locs ls (by omega) hR hB (lv_sub hl [0, 1, 2] rfl) hP hD hS
    | succ q ih =>
      intro i v cap k0 a L Wo H locs ls hiq hR hB hl hP hD hS
      have hlen := ut_tC_len (n := hist.length) q1 hTl i
      obtain ⟨hk9, hc9⟩ := us_B_k hB (by omega)
      have hcap := hB.2.2.2.2
      have hc1 : 170 + k0 ≤ 182 := by omega
      have hc2 : 8372 + 2 * cap ≤ 26000 := by omega
      refine lv_iload_n hx hb dL_told_117 rfl (lv_at hl 0 rfl) ?_
      refine lv_bipush (v := 24) hx hb dL_told_118 (by decide) ?_
      refine lv_icmp_ge (tgt := 144) hx hb dL_told_120 (by decide) (fun cc => absurd cc (nI_ge (b := 24) (by omega) (by decide))) (fun _ => ?_)
      refine lv_aload_n hx hb dL_told_123 rfl (lv_at hl 1 rfl) ?_
      refine lv_aload_n hx hb dL_told_124 rfl (lv_at hl 2 rfl) ?_
      refine lv_iload_n hx hb dL_told_125 rfl (lv_at hl 0 rfl) ?_
      have hpm : List.Perm (([(b, .inr (1, [.ref v, .int 0, .int 0, .int (nI (ut_tC f hist.length i).length)])), (v, .inl (g.2.2.2.1, cap, .inl a))] ++ Wo) : va_W) (Wo ++ [(b, .inr (1, [.ref v, .int 0, .int 0, .int (nI (ut_tC f hist.length i).length)])), (v, .inl (g.2.2.2.1, cap, .inl a))]) := List.perm_append_comm
      have hFc := ub_freeP hD hS hA hpm
      obtain ⟨hPc, hDc⟩ := ub_subP hP hD hpm
      refine us_calli (va_runV (As := [.int (nI i)]) (rest := [.ref b]) ⟨hx, hb, hml, hown, hts⟩ (uo_answered l g hR (x := (nI i))) (cwV 1 hts gu_RL_103 rfl rfl rfl ⟨rfl, uhX8_answered⟩ ⟨Nat.le_of_ble_eq_true rfl, Nat.le_of_ble_eq_true rfl⟩) (us_preO hR hZ hS hFc hPc hDc hK hN) rfl rfl hl.1 rfl (lv_room (Nat.le_of_ble_eq_true rfl)) dL_told_126 ⟨Nat.le_trans (Nat.le_of_eq (Nat.add_zero _)) hc1, Nat.le_trans (Nat.le_of_eq (Nat.add_zero _)) hc2⟩) hP hD hS hA hpm (fun r Wo1 H locs hpost hP hD hS => ?_)
      have hP : va_P g.1 vwCl ([(b, .inr (1, [.ref v, .int 0, .int 0, .int (nI (ut_tC f hist.length i).length)])), (v, .inl (g.2.2.2.1, cap, .inl a))] ++ Wo1) H := ub_P_perm List.perm_append_comm hP
      have hD : va_D A ([(b, .inr (1, [.ref v, .int 0, .int 0, .int (nI (ut_tC f hist.length i).length)])), (v, .inl (g.2.2.2.1, cap, .inl a))] ++ Wo1) := ub_D_perm List.perm_append_comm hD
      obtain ⟨hr, hR⟩ := hpost
      rw [uw_answered (by omega)] at hr
      subst hr
      have hl1 := ut_il_le (nI (f (211 + i)))
      refine us_sbI (base := 170) (bs := 8372) K0 hl.1 hP hD hS (List.Perm.refl _) hB (by (try simp only [List.length_append, List.length_singleton]); omega) (x := nI (f (211 + i))) (us_nI_ok (by have := um_I_set hI0 (show i < 24 by omega); omega)) (Nat.le_of_ble_eq_true rfl) (Nat.le_of_ble_eq_true rfl) (by show 170 + 10 ≤ 182; omega) (by show 8372 + 4 * ((ut_tC f hist.length i).length + us_il (nI (f (211 + i)))) + 32 ≤ 26000; rw [us_il_len] at hl1; (try simp only [List.length_append, List.length_singleton]); omega) (Nat.le_of_ble_eq_true rfl) dL_told_129 (fun v1 cap1 k1 a1 H locs hB1 hP hD hS => ?_)
      refine lv_bipush (v := 44) hx hb dL_told_132 (by decide) ?_
      have hl2 := (List.length_append : (ut_tC f hist.length i ++ us_il_list (nI (f (211 + i)))).length = _)
      refine us_sbC (base := 170) (bs := 8372) K0 hl.1 hP hD hS (List.Perm.refl _) hB1 (by (try simp only [List.length_append, List.length_singleton]); omega) (c0 := 44) (by decide) (Nat.le_of_ble_eq_true rfl) (Nat.le_of_ble_eq_true rfl) (by show 170 + 10 ≤ 182; omega) (by show 8372 + 4 * ((ut_tC f hist.length i ++ us_il_list (nI (f (211 + i)))).length + 1) + 32 ≤ 26000; (try simp only [List.length_append, List.length_singleton]); omega) (Nat.le_of_ble_eq_true rfl) dL_told_134 (fun v2 cap2 k2 a2 H locs hB2 hP hD hS => ?_)
      refine lv_pop hx hb dL_told_137 rfl ?_
      refine lv_iinc (v := nI i + 1) (lv' := [(2, .int (nI i + 1)), (1, .ref b), (0, .ref h0)]) hx hb dL_told_138 hl (k := 0) rfl rfl (by decide) rfl (fun ls hl => ?_)
      refine lv_goto (tgt := 117) hx hb dL_told_141 (by decide) ?_
      rw [nI_1] at hl
      exact ih (i + 1) v2 cap2 k2 a2 L Wo1 H locs ls (by omega) hR hB2 (lv_sub hl [0, 1, 2] rfl) hP hD hS
  have loopB : ∀ (q i v cap k0 : Nat) (a : Nat → Int32) (L : List Nat) (Wo : va_W) (H : Heap) (locs : List Loc) (ls : Array Slot), f 0 = i + q → uo_W g h0 k f hist sv lr ld L Wo → us_B (ut_tB f hist.length i) cap k0 a → lv_has ls 3 [(2, .int (nI i)), (1, .ref b), (0, .ref h0)] → va_P g.1 vwCl (us_sb g b v 0 (ut_tB f hist.length i) cap a ++ Wo) H → va_D A (us_sb g b v 0 (ut_tB f hist.length i) cap a ++ Wo) → va_S A s.heap H locs → W p l e ({ frames := 7, cells := 182, slots := 26000, locals := 160 } : Room) s m args below meth c H locs ((2 + 14 * i) + k0) ((20 + 696 * i) + 2 * cap) Q (F0 m 39 ls []) := by
    intro q
    induction q with
    | zero =>
      intro i v cap k0 a L Wo H locs ls hiq hR hB hl hP hD hS
      have hlen := ut_tB_len (f := f) (n := hist.length) i (fun r hr => hTl r (by omega))
      obtain ⟨hk9, hc9⟩ := us_B_k hB (by omega)
      have hcap := hB.2.2.2.2
      have hc1 : 2 + 14 * i + k0 ≤ 182 := by omega
      have hc2 : 20 + 696 * i + 2 * cap ≤ 26000 := by omega
      refine lv_iload_n hx hb dL_told_39 rfl (lv_at hl 0 rfl) ?_
      refine lv_aload_n hx hb dL_told_40 rfl (lv_at hl 2 rfl) ?_
      refine lv_iconst (v := 0) hx hb dL_told_41 (by decide) ?_
      have hpm : List.Perm (([(b, .inr (1, [.ref v, .int 0, .int 0, .int (nI (ut_tB f hist.length i).length)])), (v, .inl (g.2.2.2.1, cap, .inl a))] ++ Wo) : va_W) (Wo ++ [(b, .inr (1, [.ref v, .int 0, .int 0, .int (nI (ut_tB f hist.length i).length)])), (v, .inl (g.2.2.2.1, cap, .inl a))]) := List.perm_append_comm
      have hFc := ub_freeP hD hS hA hpm
      obtain ⟨hPc, hDc⟩ := ub_subP hP hD hpm
      refine us_calli (va_runV (As := [.int 0]) (rest := [.int (nI i)]) ⟨hx, hb, hml, hown, hts⟩ (uo_account l g hR (x := 0)) (cwV 1 hts gu_RL_34 rfl rfl rfl ⟨rfl, uhX8_account⟩ ⟨Nat.le_of_ble_eq_true rfl, Nat.le_of_ble_eq_true rfl⟩) (us_preO hR hZ hS hFc hPc hDc hK hN) rfl rfl hl.1 rfl (lv_room (Nat.le_of_ble_eq_true rfl)) dL_told_42 ⟨Nat.le_trans (Nat.le_of_eq (Nat.add_zero _)) hc1, Nat.le_trans (Nat.le_of_eq (Nat.add_zero _)) hc2⟩) hP hD hS hA hpm (fun r Wo1 H locs hpost hP hD hS => ?_)
      have hP : va_P g.1 vwCl ([(b, .inr (1, [.ref v, .int 0, .int 0, .int (nI (ut_tB f hist.length i).length)])), (v, .inl (g.2.2.2.1, cap, .inl a))] ++ Wo1) H := ub_P_perm List.perm_append_comm hP
      have hD : va_D A ([(b, .inr (1, [.ref v, .int 0, .int 0, .int (nI (ut_tB f hist.length i).length)])), (v, .inl (g.2.2.2.1, cap, .inl a))] ++ Wo1) := ub_D_perm List.perm_append_comm hD
      obtain ⟨hr, hR⟩ := hpost
      have er : r = nI (f 0) := by
          rw [hr]
          rfl
      subst er
      refine lv_icmp_ge (tgt := 115) hx hb dL_told_45 (by decide) (fun _ => ?_) (fun cc => absurd (nI_le (by omega) (by omega)) cc)
      refine lv_iconst (v := 0) hx hb dL_told_115 (by decide) ?_
      refine lv_istore_n (lv' := [(2, .int 0), (1, .ref b), (0, .ref h0)]) hx hb dL_told_116 rfl hl (by decide) rfl (fun ls hl => ?_)
      have ei : i = f 0 := by omega
      rw [ei] at hB hP hD
      refine W.widen (k := 170 + k0) (n := 8372 + 2 * cap) (by omega) (by omega) ?_
      exact loopC 24 0 v cap k0 a L Wo1 H locs ls (by omega) hR hB (lv_sub hl [0, 1, 2] rfl) hP hD hS
    | succ q ih =>
      intro i v cap k0 a L Wo H locs ls hiq hR hB hl hP hD hS
      have hlen := ut_tB_len (f := f) (n := hist.length) i (fun r hr => hTl r (by omega))
      obtain ⟨hk9, hc9⟩ := us_B_k hB (by omega)
      have hcap := hB.2.2.2.2
      have hc1 : 2 + 14 * i + k0 ≤ 182 := by omega
      have hc2 : 20 + 696 * i + 2 * cap ≤ 26000 := by omega
      refine lv_iload_n hx hb dL_told_39 rfl (lv_at hl 0 rfl) ?_
      refine lv_aload_n hx hb dL_told_40 rfl (lv_at hl 2 rfl) ?_
      refine lv_iconst (v := 0) hx hb dL_told_41 (by decide) ?_
      have hpm : List.Perm (([(b, .inr (1, [.ref v, .int 0, .int 0, .int (nI (ut_tB f hist.length i).length)])), (v, .inl (g.2.2.2.1, cap, .inl a))] ++ Wo) : va_W) (Wo ++ [(b, .inr (1, [.ref v, .int 0, .int 0, .int (nI (ut_tB f hist.length i).length)])), (v, .inl (g.2.2.2.1, cap, .inl a))]) := List.perm_append_comm
      have hFc := ub_freeP hD hS hA hpm
      obtain ⟨hPc, hDc⟩ := ub_subP hP hD hpm
      refine us_calli (va_runV (As := [.int 0]) (rest := [.int (nI i)]) ⟨hx, hb, hml, hown, hts⟩ (uo_account l g hR (x := 0)) (cwV 1 hts gu_RL_34 rfl rfl rfl ⟨rfl, uhX8_account⟩ ⟨Nat.le_of_ble_eq_true rfl, Nat.le_of_ble_eq_true rfl⟩) (us_preO hR hZ hS hFc hPc hDc hK hN) rfl rfl hl.1 rfl (lv_room (Nat.le_of_ble_eq_true rfl)) dL_told_42 ⟨Nat.le_trans (Nat.le_of_eq (Nat.add_zero _)) hc1, Nat.le_trans (Nat.le_of_eq (Nat.add_zero _)) hc2⟩) hP hD hS hA hpm (fun r Wo1 H locs hpost hP hD hS => ?_)
      have hP : va_P g.1 vwCl ([(b, .inr (1, [.ref v, .int 0, .int 0, .int (nI (ut_tB f hist.length i).length)])), (v, .inl (g.2.2.2.1, cap, .inl a))] ++ Wo1) H := ub_P_perm List.perm_append_comm hP
      have hD : va_D A ([(b, .inr (1, [.ref v, .int 0, .int 0, .int (nI (ut_tB f hist.length i).length)])), (v, .inl (g.2.2.2.1, cap, .inl a))] ++ Wo1) := ub_D_perm List.perm_append_comm hD
      obtain ⟨hr, hR⟩ := hpost
      have er : r = nI (f 0) := by
          rw [hr]
          rfl
      subst er
      refine lv_icmp_ge (tgt := 115) hx hb dL_told_45 (by decide) (fun cc => absurd cc (nI_ge (by omega) (by omega))) (fun _ => ?_)
      refine lv_aload_n hx hb dL_told_48 rfl (lv_at hl 1 rfl) ?_
      refine lv_aload_n hx hb dL_told_49 rfl (lv_at hl 2 rfl) ?_
      refine lv_aload_n hx hb dL_told_50 rfl (lv_at hl 2 rfl) ?_
      refine lv_iload_n hx hb dL_told_51 rfl (lv_at hl 0 rfl) ?_
      have hpm : List.Perm (([(b, .inr (1, [.ref v, .int 0, .int 0, .int (nI (ut_tB f hist.length i).length)])), (v, .inl (g.2.2.2.1, cap, .inl a))] ++ Wo1) : va_W) (Wo1 ++ [(b, .inr (1, [.ref v, .int 0, .int 0, .int (nI (ut_tB f hist.length i).length)])), (v, .inl (g.2.2.2.1, cap, .inl a))]) := List.perm_append_comm
      have hFc := ub_freeP hD hS hA hpm
      obtain ⟨hPc, hDc⟩ := ub_subP hP hD hpm
      refine us_calli (va_runV (As := [.int (nI i)]) (rest := [.ref h0, .ref b]) ⟨hx, hb, hml, hown, hts⟩ (uo_tell l g hR (x := (nI i))) (cwV 1 hts gu_RL_90 rfl rfl rfl ⟨rfl, uhX8_tell⟩ ⟨Nat.le_of_ble_eq_true rfl, Nat.le_of_ble_eq_true rfl⟩) (us_preO hR hZ hS hFc hPc hDc hK hN) rfl rfl hl.1 rfl (lv_room (Nat.le_of_ble_eq_true rfl)) dL_told_52 ⟨Nat.le_trans (Nat.le_of_eq (Nat.add_zero _)) hc1, Nat.le_trans (Nat.le_of_eq (Nat.add_zero _)) hc2⟩) hP hD hS hA hpm (fun r Wo2 H locs hpost hP hD hS => ?_)
      have hP : va_P g.1 vwCl ([(b, .inr (1, [.ref v, .int 0, .int 0, .int (nI (ut_tB f hist.length i).length)])), (v, .inl (g.2.2.2.1, cap, .inl a))] ++ Wo2) H := ub_P_perm List.perm_append_comm hP
      have hD : va_D A ([(b, .inr (1, [.ref v, .int 0, .int 0, .int (nI (ut_tB f hist.length i).length)])), (v, .inl (g.2.2.2.1, cap, .inl a))] ++ Wo2) := ub_D_perm List.perm_append_comm hD
      obtain ⟨hr, hR⟩ := hpost
      have et : ux_tell f L (nI i) = (nI (ut_tell f i).length, ut_tell f i) := by
          unfold ux_tell
          rw [if_pos (uw_in (by omega) (by omega)), nI_clamp (by omega)]
      rw [et] at hr hR
      have hR : uo_W g h0 k f hist sv lr ld (ut_tell f i) Wo2 := hR
      subst hr
      have hLn := hTl i (by omega)
      have z14 := ut_il_le (nI (f (14 + 6 * i)))
      have y14 := (us_il_in (nI (f (14 + 6 * i)))).2
      have z15 := ut_il_le (nI (f (15 + 6 * i)))
      have y15 := (us_il_in (nI (f (15 + 6 * i)))).2
      have z16 := ut_il_le (nI (f (16 + 6 * i)))
      have y16 := (us_il_in (nI (f (16 + 6 * i)))).2
      have hLc := ut_tell_lt hI0 (show i < f 0 by omega)
      have hpm : List.Perm (([(b, .inr (1, [.ref v, .int 0, .int 0, .int (nI (ut_tB f hist.length i).length)])), (v, .inl (g.2.2.2.1, cap, .inl a))] ++ Wo2) : va_W) (Wo2 ++ [(b, .inr (1, [.ref v, .int 0, .int 0, .int (nI (ut_tB f hist.length i).length)])), (v, .inl (g.2.2.2.1, cap, .inl a))]) := List.perm_append_comm
      have hFc := ub_freeP hD hS hA hpm
      obtain ⟨hPc, hDc⟩ := ub_subP hP hD hpm
      refine us_callr (va_runS (As := [.ref h0, .int (nI (ut_tell f i).length)]) (rest := [.ref b]) ⟨hx, hb, hml, hown, hts⟩ (ul_line l g hR hLn hLc) (va_cwS 2 hts gu_RL_93 rfl rfl rfl us_hL_line ⟨Nat.le_of_ble_eq_true rfl, Nat.le_of_ble_eq_true rfl⟩) (us_preS hZ hS hFc hPc hDc hK hN) rfl rfl hl.1 rfl (lv_room (Nat.le_of_ble_eq_true rfl)) dL_told_55 ⟨by show 2 + 14 * i + k0 + 14 ≤ 182; omega, by show 20 + 696 * i + 2 * cap + (20 + 5 * 128 + 36) ≤ 26000; omega⟩) hP hD hS hA hpm (fun r0 u H locs hpost hP hD hS => ?_)
      obtain ⟨Wo3, v0, a0, rfl, hR, hT0⟩ := hpost
      refine W.widen (k := 2 + 14 * (i + 1) + k0) (n := 20 + 696 * (i + 1) + 2 * cap) (by omega) (by omega) ?_
      have hl1 := hLn
      refine us_sbS (base := (2 + 14 * (i + 1))) (bs := (20 + 696 * (i + 1))) K0 hl.1 hP hD hS us_pl hB (by (try simp only [List.length_append, List.length_singleton]); omega) hT0 (by omega) (Nat.le_of_ble_eq_true rfl) (Nat.le_of_ble_eq_true rfl) (by show (2 + 14 * (i + 1)) + 10 ≤ 182; omega) (by show (20 + 696 * (i + 1)) + 4 * ((ut_tB f hist.length i).length + (ut_tell f i).length) + 32 ≤ 26000; (try simp only [List.length_append, List.length_singleton]); omega) (Nat.le_of_ble_eq_true rfl) dL_told_58 (fun v1 cap1 k1 a1 H locs hB1 hP hD hS => ?_)
      have hP : va_P g.1 vwCl ([(b, .inr (1, [.ref v1, .int 0, .int 0, .int (nI (ut_tB f hist.length i ++ ut_tell f i).length)])), (v1, .inl (g.2.2.2.1, cap1, .inl a1)), (r0, .inr (0, [.ref v0, .int 0, .int 0, .int 0])), (v0, .inl (g.2.2.2.1, ((ut_tell f i).length), .inl a0))] ++ Wo3) _ := hP
      have hD : va_D A ([(b, .inr (1, [.ref v1, .int 0, .int 0, .int (nI (ut_tB f hist.length i ++ ut_tell f i).length)])), (v1, .inl (g.2.2.2.1, cap1, .inl a1)), (r0, .inr (0, [.ref v0, .int 0, .int 0, .int 0])), (v0, .inl (g.2.2.2.1, ((ut_tell f i).length), .inl a0))] ++ Wo3) := hD
      have hP : va_P g.1 vwCl ([(b, .inr (1, [.ref v1, .int 0, .int 0, .int (nI (ut_tB f hist.length i ++ ut_tell f i).length)])), (v1, .inl (g.2.2.2.1, cap1, .inl a1))] ++ Wo3) H := us_keepP (List.Sublist.cons₂ _ (List.Sublist.cons₂ _ (List.Sublist.cons _ (List.Sublist.cons _ List.Sublist.slnil)))) hP
      have hD : va_D A ([(b, .inr (1, [.ref v1, .int 0, .int 0, .int (nI (ut_tB f hist.length i ++ ut_tell f i).length)])), (v1, .inl (g.2.2.2.1, cap1, .inl a1))] ++ Wo3) := us_keepD (List.Sublist.cons₂ _ (List.Sublist.cons₂ _ (List.Sublist.cons _ (List.Sublist.cons _ List.Sublist.slnil)))) hD
      refine lv_bipush (v := 47) hx hb dL_told_61 (by decide) ?_
      have hl2 := (rfl : (0 : Nat) = 0)
      refine us_sbC (base := (2 + 14 * (i + 1))) (bs := (20 + 696 * (i + 1))) K0 hl.1 hP hD hS (List.Perm.refl _) hB1 (by (try simp only [List.length_append, List.length_singleton]); omega) (c0 := 47) (by decide) (Nat.le_of_ble_eq_true rfl) (Nat.le_of_ble_eq_true rfl) (by show (2 + 14 * (i + 1)) + 10 ≤ 182; omega) (by show (20 + 696 * (i + 1)) + 4 * (((ut_tB f hist.length i ++ ut_tell f i)).length + 1) + 32 ≤ 26000; (try simp only [List.length_append, List.length_singleton]); omega) (Nat.le_of_ble_eq_true rfl) dL_told_63 (fun v2 cap2 k2 a2 H locs hB2 hP hD hS => ?_)
      refine lv_aload_n hx hb dL_told_66 rfl (lv_at hl 2 rfl) ?_
      refine lv_iload_n hx hb dL_told_67 rfl (lv_at hl 0 rfl) ?_
      refine lv_iconst (v := 3) hx hb dL_told_68 (by decide) ?_
      have hcp := us_B_k hB2 (by simp only [List.length_append, List.length_singleton]; omega)
      have hcq := hB2.2.2.2.2
      simp only [List.length_append, List.length_singleton] at hcq
      have hpm : List.Perm (([(b, .inr (1, [.ref v2, .int 0, .int 0, .int (nI ((ut_tB f hist.length i ++ ut_tell f i) ++ [47]).length)])), (v2, .inl (g.2.2.2.1, cap2, .inl a2))] ++ Wo3) : va_W) (Wo3 ++ [(b, .inr (1, [.ref v2, .int 0, .int 0, .int (nI ((ut_tB f hist.length i ++ ut_tell f i) ++ [47]).length)])), (v2, .inl (g.2.2.2.1, cap2, .inl a2))]) := List.perm_append_comm
      have hFc := ub_freeP hD hS hA hpm
      obtain ⟨hPc, hDc⟩ := ub_subP hP hD hpm
      refine us_calli (va_runV (As := [.int (nI i), .int 3]) (rest := [.ref b]) ⟨hx, hb, hml, hown, hts⟩ (uo_ropeOf l g hR (x := (nI i)) (v := 3)) (cwV 2 hts gu_RL_100 rfl rfl rfl ⟨rfl, uhX8_ropeOf⟩ ⟨Nat.le_of_ble_eq_true rfl, Nat.le_of_ble_eq_true rfl⟩) (us_preO hR hZ hS hFc hPc hDc hK hN) rfl rfl hl.1 rfl (lv_room (Nat.le_of_ble_eq_true rfl)) dL_told_69 ⟨by show (2 + 14 * (i + 1)) + k2 + 0 ≤ 182; omega, by show (20 + 696 * (i + 1)) + 2 * cap2 + 0 ≤ 26000; omega⟩) hP hD hS hA hpm (fun r Wo4 H locs hpost hP hD hS => ?_)
      have hP : va_P g.1 vwCl ([(b, .inr (1, [.ref v2, .int 0, .int 0, .int (nI ((ut_tB f hist.length i ++ ut_tell f i) ++ [47]).length)])), (v2, .inl (g.2.2.2.1, cap2, .inl a2))] ++ Wo4) H := ub_P_perm List.perm_append_comm hP
      have hD : va_D A ([(b, .inr (1, [.ref v2, .int 0, .int 0, .int (nI ((ut_tB f hist.length i ++ ut_tell f i) ++ [47]).length)])), (v2, .inl (g.2.2.2.1, cap2, .inl a2))] ++ Wo4) := ub_D_perm List.perm_append_comm hD
      obtain ⟨hr, hR⟩ := hpost
      have er : r = nI (f (14 + 6 * i)) := by
          rw [hr, show (3 : Int32) = nI 3 from rfl, uw_ropeOf hI0 (by omega) (by decide), show 11 + 6 * i + 3 = 14 + 6 * i by omega]
      subst er
      have hl3 := ut_il_le (nI (f (14 + 6 * i)))
      refine us_sbI (base := (2 + 14 * (i + 1))) (bs := (20 + 696 * (i + 1))) K0 hl.1 hP hD hS (List.Perm.refl _) hB2 (by (try simp only [List.length_append, List.length_singleton]); omega) (x := nI (f (14 + 6 * i))) (us_nI_ok (by have := um_I_own hI0 (show i < 12 by omega); have z0 := hI0.1; have z5 := hI0.2.2.2.2.2.1; have z6 := hI0.2.2.2.2.2.2.1; omega)) (Nat.le_of_ble_eq_true rfl) (Nat.le_of_ble_eq_true rfl) (by show (2 + 14 * (i + 1)) + 10 ≤ 182; omega) (by show (20 + 696 * (i + 1)) + 4 * ((((ut_tB f hist.length i ++ ut_tell f i) ++ [47])).length + us_il (nI (f (14 + 6 * i)))) + 32 ≤ 26000; (try simp only [List.length_append, List.length_singleton]); omega) (Nat.le_of_ble_eq_true rfl) dL_told_72 (fun v3 cap3 k3 a3 H locs hB3 hP hD hS => ?_)
      refine lv_bipush (v := 44) hx hb dL_told_75 (by decide) ?_
      have hl4 := (rfl : (0 : Nat) = 0)
      refine us_sbC (base := (2 + 14 * (i + 1))) (bs := (20 + 696 * (i + 1))) K0 hl.1 hP hD hS (List.Perm.refl _) hB3 (by (try simp only [List.length_append, List.length_singleton]); omega) (c0 := 44) (by decide) (Nat.le_of_ble_eq_true rfl) (Nat.le_of_ble_eq_true rfl) (by show (2 + 14 * (i + 1)) + 10 ≤ 182; omega) (by show (20 + 696 * (i + 1)) + 4 * (((((ut_tB f hist.length i ++ ut_tell f i) ++ [47]) ++ us_il_list (nI (f (14 + 6 * i))))).length + 1) + 32 ≤ 26000; (try simp only [List.length_append, List.length_singleton]); omega) (Nat.le_of_ble_eq_true rfl) dL_told_77 (fun v4 cap4 k4 a4 H locs hB4 hP hD hS => ?_)
      refine lv_aload_n hx hb dL_told_80 rfl (lv_at hl 2 rfl) ?_
      refine lv_iload_n hx hb dL_told_81 rfl (lv_at hl 0 rfl) ?_
      refine lv_iconst (v := 4) hx hb dL_told_82 (by decide) ?_
      have hcp := us_B_k hB4 (by simp only [List.length_append, List.length_singleton]; omega)
      have hcq := hB4.2.2.2.2
      simp only [List.length_append, List.length_singleton] at hcq
      have hpm : List.Perm (([(b, .inr (1, [.ref v4, .int 0, .int 0, .int (nI ((((ut_tB f hist.length i ++ ut_tell f i) ++ [47]) ++ us_il_list (nI (f (14 + 6 * i)))) ++ [44]).length)])), (v4, .inl (g.2.2.2.1, cap4, .inl a4))] ++ Wo4) : va_W) (Wo4 ++ [(b, .inr (1, [.ref v4, .int 0, .int 0, .int (nI ((((ut_tB f hist.length i ++ ut_tell f i) ++ [47]) ++ us_il_list (nI (f (14 + 6 * i)))) ++ [44]).length)])), (v4, .inl (g.2.2.2.1, cap4, .inl a4))]) := List.perm_append_comm
      have hFc := ub_freeP hD hS hA hpm
      obtain ⟨hPc, hDc⟩ := ub_subP hP hD hpm
      refine us_calli (va_runV (As := [.int (nI i), .int 4]) (rest := [.ref b]) ⟨hx, hb, hml, hown, hts⟩ (uo_ropeOf l g hR (x := (nI i)) (v := 4)) (cwV 2 hts gu_RL_100 rfl rfl rfl ⟨rfl, uhX8_ropeOf⟩ ⟨Nat.le_of_ble_eq_true rfl, Nat.le_of_ble_eq_true rfl⟩) (us_preO hR hZ hS hFc hPc hDc hK hN) rfl rfl hl.1 rfl (lv_room (Nat.le_of_ble_eq_true rfl)) dL_told_83 ⟨by show (2 + 14 * (i + 1)) + k4 + 0 ≤ 182; omega, by show (20 + 696 * (i + 1)) + 2 * cap4 + 0 ≤ 26000; omega⟩) hP hD hS hA hpm (fun r Wo5 H locs hpost hP hD hS => ?_)
      have hP : va_P g.1 vwCl ([(b, .inr (1, [.ref v4, .int 0, .int 0, .int (nI ((((ut_tB f hist.length i ++ ut_tell f i) ++ [47]) ++ us_il_list (nI (f (14 + 6 * i)))) ++ [44]).length)])), (v4, .inl (g.2.2.2.1, cap4, .inl a4))] ++ Wo5) H := ub_P_perm List.perm_append_comm hP
      have hD : va_D A ([(b, .inr (1, [.ref v4, .int 0, .int 0, .int (nI ((((ut_tB f hist.length i ++ ut_tell f i) ++ [47]) ++ us_il_list (nI (f (14 + 6 * i)))) ++ [44]).length)])), (v4, .inl (g.2.2.2.1, cap4, .inl a4))] ++ Wo5) := ub_D_perm List.perm_append_comm hD
      obtain ⟨hr, hR⟩ := hpost
      have er : r = nI (f (15 + 6 * i)) := by
          rw [hr, show (4 : Int32) = nI 4 from rfl, uw_ropeOf hI0 (by omega) (by decide), show 11 + 6 * i + 4 = 15 + 6 * i by omega]
      subst er
      have hl5 := ut_il_le (nI (f (15 + 6 * i)))
      refine us_sbI (base := (2 + 14 * (i + 1))) (bs := (20 + 696 * (i + 1))) K0 hl.1 hP hD hS (List.Perm.refl _) hB4 (by (try simp only [List.length_append, List.length_singleton]); omega) (x := nI (f (15 + 6 * i))) (us_nI_ok (by have := um_I_own hI0 (show i < 12 by omega); have z0 := hI0.1; have z5 := hI0.2.2.2.2.2.1; have z6 := hI0.2.2.2.2.2.2.1; omega)) (Nat.le_of_ble_eq_true rfl) (Nat.le_of_ble_eq_true rfl) (by show (2 + 14 * (i + 1)) + 10 ≤ 182; omega) (by show (20 + 696 * (i + 1)) + 4 * ((((((ut_tB f hist.length i ++ ut_tell f i) ++ [47]) ++ us_il_list (nI (f (14 + 6 * i)))) ++ [44])).length + us_il (nI (f (15 + 6 * i)))) + 32 ≤ 26000; (try simp only [List.length_append, List.length_singleton]); omega) (Nat.le_of_ble_eq_true rfl) dL_told_86 (fun v5 cap5 k5 a5 H locs hB5 hP hD hS => ?_)
      refine lv_bipush (v := 44) hx hb dL_told_89 (by decide) ?_
      have hl6 := (rfl : (0 : Nat) = 0)
      refine us_sbC (base := (2 + 14 * (i + 1))) (bs := (20 + 696 * (i + 1))) K0 hl.1 hP hD hS (List.Perm.refl _) hB5 (by (try simp only [List.length_append, List.length_singleton]); omega) (c0 := 44) (by decide) (Nat.le_of_ble_eq_true rfl) (Nat.le_of_ble_eq_true rfl) (by show (2 + 14 * (i + 1)) + 10 ≤ 182; omega) (by show (20 + 696 * (i + 1)) + 4 * (((((((ut_tB f hist.length i ++ ut_tell f i) ++ [47]) ++ us_il_list (nI (f (14 + 6 * i)))) ++ [44]) ++ us_il_list (nI (f (15 + 6 * i))))).length + 1) + 32 ≤ 26000; (try simp only [List.length_append, List.length_singleton]); omega) (Nat.le_of_ble_eq_true rfl) dL_told_91 (fun v6 cap6 k6 a6 H locs hB6 hP hD hS => ?_)
      refine lv_aload_n hx hb dL_told_94 rfl (lv_at hl 2 rfl) ?_
      refine lv_iload_n hx hb dL_told_95 rfl (lv_at hl 0 rfl) ?_
      refine lv_iconst (v := 5) hx hb dL_told_96 (by decide) ?_
      have hcp := us_B_k hB6 (by simp only [List.length_append, List.length_singleton]; omega)
      have hcq := hB6.2.2.2.2
      simp only [List.length_append, List.length_singleton] at hcq
      have hpm : List.Perm (([(b, .inr (1, [.ref v6, .int 0, .int 0, .int (nI ((((((ut_tB f hist.length i ++ ut_tell f i) ++ [47]) ++ us_il_list (nI (f (14 + 6 * i)))) ++ [44]) ++ us_il_list (nI (f (15 + 6 * i)))) ++ [44]).length)])), (v6, .inl (g.2.2.2.1, cap6, .inl a6))] ++ Wo5) : va_W) (Wo5 ++ [(b, .inr (1, [.ref v6, .int 0, .int 0, .int (nI ((((((ut_tB f hist.length i ++ ut_tell f i) ++ [47]) ++ us_il_list (nI (f (14 + 6 * i)))) ++ [44]) ++ us_il_list (nI (f (15 + 6 * i)))) ++ [44]).length)])), (v6, .inl (g.2.2.2.1, cap6, .inl a6))]) := List.perm_append_comm
      have hFc := ub_freeP hD hS hA hpm
      obtain ⟨hPc, hDc⟩ := ub_subP hP hD hpm
      refine us_calli (va_runV (As := [.int (nI i), .int 5]) (rest := [.ref b]) ⟨hx, hb, hml, hown, hts⟩ (uo_ropeOf l g hR (x := (nI i)) (v := 5)) (cwV 2 hts gu_RL_100 rfl rfl rfl ⟨rfl, uhX8_ropeOf⟩ ⟨Nat.le_of_ble_eq_true rfl, Nat.le_of_ble_eq_true rfl⟩) (us_preO hR hZ hS hFc hPc hDc hK hN) rfl rfl hl.1 rfl (lv_room (Nat.le_of_ble_eq_true rfl)) dL_told_97 ⟨by show (2 + 14 * (i + 1)) + k6 + 0 ≤ 182; omega, by show (20 + 696 * (i + 1)) + 2 * cap6 + 0 ≤ 26000; omega⟩) hP hD hS hA hpm (fun r Wo6 H locs hpost hP hD hS => ?_)
      have hP : va_P g.1 vwCl ([(b, .inr (1, [.ref v6, .int 0, .int 0, .int (nI ((((((ut_tB f hist.length i ++ ut_tell f i) ++ [47]) ++ us_il_list (nI (f (14 + 6 * i)))) ++ [44]) ++ us_il_list (nI (f (15 + 6 * i)))) ++ [44]).length)])), (v6, .inl (g.2.2.2.1, cap6, .inl a6))] ++ Wo6) H := ub_P_perm List.perm_append_comm hP
      have hD : va_D A ([(b, .inr (1, [.ref v6, .int 0, .int 0, .int (nI ((((((ut_tB f hist.length i ++ ut_tell f i) ++ [47]) ++ us_il_list (nI (f (14 + 6 * i)))) ++ [44]) ++ us_il_list (nI (f (15 + 6 * i)))) ++ [44]).length)])), (v6, .inl (g.2.2.2.1, cap6, .inl a6))] ++ Wo6) := ub_D_perm List.perm_append_comm hD
      obtain ⟨hr, hR⟩ := hpost
      have er : r = nI (f (16 + 6 * i)) := by
          rw [hr, show (5 : Int32) = nI 5 from rfl, uw_ropeOf hI0 (by omega) (by decide), show 11 + 6 * i + 5 = 16 + 6 * i by omega]
      subst er
      have hl7 := ut_il_le (nI (f (16 + 6 * i)))
      refine us_sbI (base := (2 + 14 * (i + 1))) (bs := (20 + 696 * (i + 1))) K0 hl.1 hP hD hS (List.Perm.refl _) hB6 (by (try simp only [List.length_append, List.length_singleton]); omega) (x := nI (f (16 + 6 * i))) (us_nI_ok (by have := um_I_own hI0 (show i < 12 by omega); have z0 := hI0.1; have z5 := hI0.2.2.2.2.2.1; have z6 := hI0.2.2.2.2.2.2.1; omega)) (Nat.le_of_ble_eq_true rfl) (Nat.le_of_ble_eq_true rfl) (by show (2 + 14 * (i + 1)) + 10 ≤ 182; omega) (by show (20 + 696 * (i + 1)) + 4 * ((((((((ut_tB f hist.length i ++ ut_tell f i) ++ [47]) ++ us_il_list (nI (f (14 + 6 * i)))) ++ [44]) ++ us_il_list (nI (f (15 + 6 * i)))) ++ [44])).length + us_il (nI (f (16 + 6 * i)))) + 32 ≤ 26000; (try simp only [List.length_append, List.length_singleton]); omega) (Nat.le_of_ble_eq_true rfl) dL_told_100 (fun v7 cap7 k7 a7 H locs hB7 hP hD hS => ?_)
      refine lv_bipush (v := 59) hx hb dL_told_103 (by decide) ?_
      have hl8 := (rfl : (0 : Nat) = 0)
      refine us_sbC (base := (2 + 14 * (i + 1))) (bs := (20 + 696 * (i + 1))) K0 hl.1 hP hD hS (List.Perm.refl _) hB7 (by (try simp only [List.length_append, List.length_singleton]); omega) (c0 := 59) (by decide) (Nat.le_of_ble_eq_true rfl) (Nat.le_of_ble_eq_true rfl) (by show (2 + 14 * (i + 1)) + 10 ≤ 182; omega) (by show (20 + 696 * (i + 1)) + 4 * (((((((((ut_tB f hist.length i ++ ut_tell f i) ++ [47]) ++ us_il_list (nI (f (14 + 6 * i)))) ++ [44]) ++ us_il_list (nI (f (15 + 6 * i)))) ++ [44]) ++ us_il_list (nI (f (16 + 6 * i))))).length + 1) + 32 ≤ 26000; (try simp only [List.length_append, List.length_singleton]); omega) (Nat.le_of_ble_eq_true rfl) dL_told_105 (fun v8 cap8 k8 a8 H locs hB8 hP hD hS => ?_)
      refine lv_pop hx hb dL_told_108 rfl ?_
      refine lv_iinc (v := nI i + 1) (lv' := [(2, .int (nI i + 1)), (1, .ref b), (0, .ref h0)]) hx hb dL_told_109 hl (k := 0) rfl rfl (by decide) rfl (fun ls hl => ?_)
      refine lv_goto (tgt := 39) hx hb dL_told_112 (by decide) ?_
      rw [nI_1] at hl
      exact ih (i + 1) v8 cap8 k8 a8 (ut_tell f i) Wo6 H locs ls (by omega) hR hB8 (lv_sub hl [0, 1, 2] rfl) hP hD hS
  have loopA : ∀ (q i v cap k0 : Nat) (a : Nat → Int32) (L : List Nat) (Wo : va_W) (H : Heap) (locs : List Loc) (ls : Array Slot), 11 = i + q → uo_W g h0 k f hist sv lr ld L Wo → us_B (ut_tA f hist.length i) cap k0 a → lv_has ls 3 [(2, .int (nI i)), (1, .ref b), (0, .ref h0)] → va_P g.1 vwCl (us_sb g b v 0 (ut_tA f hist.length i) cap a ++ Wo) H → va_D A (us_sb g b v 0 (ut_tA f hist.length i) cap a ++ Wo) → va_S A s.heap H locs → W p l e ({ frames := 7, cells := 182, slots := 26000, locals := 160 } : Room) s m args below meth c H locs (2 + k0) (20 + 2 * cap) Q (F0 m 10 ls []) := by
    intro q
    induction q with
    | zero =>
      intro i v cap k0 a L Wo H locs ls hiq hR hB hl hP hD hS
      refine lv_iload_n hx hb dL_told_10 rfl (lv_at hl 0 rfl) ?_
      refine lv_bipush (v := 11) hx hb dL_told_11 (by decide) ?_
      refine lv_icmp_ge (tgt := 37) hx hb dL_told_13 (by decide) (fun _ => ?_) (fun cc => absurd (nI_le (a := 11) (by omega) (by omega)) cc)
      refine lv_iconst (v := 0) hx hb dL_told_37 (by decide) ?_
      refine lv_istore_n (lv' := [(2, .int 0), (1, .ref b), (0, .ref h0)]) hx hb dL_told_38 rfl hl (by decide) rfl (fun ls hl => ?_)
      have ei : i = 11 := by omega
      rw [ei] at hB hP hD
      exact loopB (f 0) 0 v cap k0 a L Wo H locs ls (by omega) hR hB (lv_sub hl [0, 1, 2] rfl) hP hD hS
    | succ q ih =>
      intro i v cap k0 a L Wo H locs ls hiq hR hB hl hP hD hS
      have hlen := ut_tA_len (f := f) (n := hist.length) i
      obtain ⟨hk9, hc9⟩ := us_B_k hB (by omega)
      have hcap := hB.2.2.2.2
      have hc1 : 2 + k0 ≤ 182 := by omega
      have hc2 : 20 + 2 * cap ≤ 26000 := by omega
      refine lv_iload_n hx hb dL_told_10 rfl (lv_at hl 0 rfl) ?_
      refine lv_bipush (v := 11) hx hb dL_told_11 (by decide) ?_
      refine lv_icmp_ge (tgt := 37) hx hb dL_told_13 (by decide) (fun cc => absurd cc (nI_ge (b := 11) (by omega) (by decide))) (fun _ => ?_)
      refine lv_aload_n hx hb dL_told_16 rfl (lv_at hl 1 rfl) ?_
      refine lv_aload_n hx hb dL_told_17 rfl (lv_at hl 2 rfl) ?_
      refine lv_iload_n hx hb dL_told_18 rfl (lv_at hl 0 rfl) ?_
      have hpm : List.Perm (([(b, .inr (1, [.ref v, .int 0, .int 0, .int (nI (ut_tA f hist.length i).length)])), (v, .inl (g.2.2.2.1, cap, .inl a))] ++ Wo) : va_W) (Wo ++ [(b, .inr (1, [.ref v, .int 0, .int 0, .int (nI (ut_tA f hist.length i).length)])), (v, .inl (g.2.2.2.1, cap, .inl a))]) := List.perm_append_comm
      have hFc := ub_freeP hD hS hA hpm
      obtain ⟨hPc, hDc⟩ := ub_subP hP hD hpm
      refine us_calli (va_runV (As := [.int (nI i)]) (rest := [.ref b]) ⟨hx, hb, hml, hown, hts⟩ (uo_account l g hR (x := (nI i))) (cwV 1 hts gu_RL_34 rfl rfl rfl ⟨rfl, uhX8_account⟩ ⟨Nat.le_of_ble_eq_true rfl, Nat.le_of_ble_eq_true rfl⟩) (us_preO hR hZ hS hFc hPc hDc hK hN) rfl rfl hl.1 rfl (lv_room (Nat.le_of_ble_eq_true rfl)) dL_told_19 ⟨Nat.le_trans (Nat.le_of_eq (Nat.add_zero _)) hc1, Nat.le_trans (Nat.le_of_eq (Nat.add_zero _)) hc2⟩) hP hD hS hA hpm (fun r Wo1 H locs hpost hP hD hS => ?_)
      have hP : va_P g.1 vwCl ([(b, .inr (1, [.ref v, .int 0, .int 0, .int (nI (ut_tA f hist.length i).length)])), (v, .inl (g.2.2.2.1, cap, .inl a))] ++ Wo1) H := ub_P_perm List.perm_append_comm hP
      have hD : va_D A ([(b, .inr (1, [.ref v, .int 0, .int 0, .int (nI (ut_tA f hist.length i).length)])), (v, .inl (g.2.2.2.1, cap, .inl a))] ++ Wo1) := ub_D_perm List.perm_append_comm hD
      obtain ⟨rfl, hR⟩ := hpost
      have hl1 := ut_il_le (ut_acc f hist.length (nI i))
      refine us_sbI (base := 2) (bs := 20) K0 hl.1 hP hD hS (List.Perm.refl _) hB (by (try simp only [List.length_append, List.length_singleton]); omega) (x := ut_acc f hist.length (nI i)) (ut_acc_ok hI0 (by omega)) (Nat.le_of_ble_eq_true rfl) (Nat.le_of_ble_eq_true rfl) (by show 2 + 10 ≤ 182; omega) (by show 20 + 4 * ((ut_tA f hist.length i).length + us_il (ut_acc f hist.length (nI i))) + 32 ≤ 26000; rw [us_il_len] at hl1; (try simp only [List.length_append, List.length_singleton]); omega) (Nat.le_of_ble_eq_true rfl) dL_told_22 (fun v1 cap1 k1 a1 H locs hB1 hP hD hS => ?_)
      refine lv_bipush (v := 44) hx hb dL_told_25 (by decide) ?_
      have hl2 := (List.length_append : (ut_tA f hist.length i ++ us_il_list (ut_acc f hist.length (nI i))).length = _)
      refine us_sbC (base := 2) (bs := 20) K0 hl.1 hP hD hS (List.Perm.refl _) hB1 (by (try simp only [List.length_append, List.length_singleton]); omega) (c0 := 44) (by decide) (Nat.le_of_ble_eq_true rfl) (Nat.le_of_ble_eq_true rfl) (by show 2 + 10 ≤ 182; omega) (by show 20 + 4 * ((ut_tA f hist.length i ++ us_il_list (ut_acc f hist.length (nI i))).length + 1) + 32 ≤ 26000; (try simp only [List.length_append, List.length_singleton]); omega) (Nat.le_of_ble_eq_true rfl) dL_told_27 (fun v2 cap2 k2 a2 H locs hB2 hP hD hS => ?_)
      refine lv_pop hx hb dL_told_30 rfl ?_
      refine lv_iinc (v := nI i + 1) (lv' := [(2, .int (nI i + 1)), (1, .ref b), (0, .ref h0)]) hx hb dL_told_31 hl (k := 0) rfl rfl (by decide) rfl (fun ls hl => ?_)
      refine lv_goto (tgt := 10) hx hb dL_told_34 (by decide) ?_
      rw [nI_1] at hl
      exact ih (i + 1) v2 cap2 k2 a2 L Wo1 H locs ls (by omega) hR hB2 (lv_sub hl [0, 1, 2] rfl) hP hD hS
  refine W.widen (k := 2 + 0) (n := 20 + 2 * 16) (by decide) (by decide) ?_
  exact loopA 11 0 v 16 0 (fun _ => 0) L Wo H locs ls (by omega) hR us_B0 (lv_sub hl [0, 1, 2] rfl) hP hD hS

