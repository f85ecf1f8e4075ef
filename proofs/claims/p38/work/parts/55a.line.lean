theorem us_i2c : ∀ {x : Nat}, x < 128 → ((nI x).toUInt32 % 65536).toInt32 = nI x := by
  intro x hx
  exact (sb_byte x (by omega)).2.1
theorem us_take {L : List Nat} {i : Nat} (h : i < L.length) : L.take i ++ [L.getD i 0] = L.take (i + 1) := by
  rw [List.take_succ, List.getD_eq_getElem?_getD, List.getElem?_eq_getElem h]
  rfl
theorem us_hL_line : yL_line.cls ≠ "java/lang/invoke/MethodHandle" ∧ yL_line.cls ≠ "java/lang/invoke/VarHandle" ∧ (parseMethodDescriptor yL_line.desc).map (fun d => d.parameters.length) = some 2 := by decide +kernel
set_option maxHeartbeats 4000000 in
set_option maxRecDepth 100000 in
theorem ul_line (l : Launch) (g : us_G) {sz : Nat} {h0 k : Nat} {f : Nat → Nat} {hist : List (Nat → Nat)} {sv : Option (Nat → Nat)} {lr ld : Int32} {L : List Nat} {Wo : va_W} (hR : uo_W g h0 k f hist sv lr ld L Wo) (hLl : L.length ≤ 128) (hLc : ∀ x, x ∈ L → x < 128) : Met l yL_line wsL_line ({ frames := 6, cells := 14, slots := (20 + 5 * 128 + 36), locals := 137 } : Room) (va_Pc [.ref h0, .int (nI L.length)] (us_pc g Wo sz)) (va_Qr (fun (_ : va_W) => True) (fun u r t => (fun (r : Nat) (u : va_W) => ∃ (W2 : va_W) (v2 : Nat) (a2 : Nat → Int32), u = us_st g r v2 0 0 L a2 ++ W2 ∧ uo_W g h0 k f hist sv lr ld L W2 ∧ us_T L a2) r u ∧ ub_pq g.1 u (va_A Wo sz) t) (va_A Wo sz)) 14 (20 + 5 * 128 + 36) (va_A Wo sz) := by
  refine us_met_r (post := (fun (r : Nat) (u : va_W) => ∃ (W2 : va_W) (v2 : Nat) (a2 : Nat → Int32), u = us_st g r v2 0 0 L a2 ++ W2 ∧ uo_W g h0 k f hist sv lr ld L W2 ∧ us_T L a2)) (Or.inl ⟨_, rfl⟩) (by decide +kernel) (Nat.le_of_ble_eq_true rfl) fun p e s m args below meth c Q A K hret ls hl hP hD hS => ?_
  obtain ⟨hx, hb, hml, hown, hts, hK, hN, hA, hZ⟩ := K
  have hl : lv_has ls 4 [(0, .ref h0), (1, .int (nI L.length))] := hl
  have K0 : us_kx p s m args meth c cL_line 4 RL g A := ⟨hx, hb, hml, hown, hts, hK, hN, hA, hZ⟩
  refine us_sbN K0 hl.1 hP hD hS (Nat.le_of_ble_eq_true rfl) (Nat.le_of_ble_eq_true rfl) (by decide) (by decide) (Nat.le_of_ble_eq_true rfl) dL_line_0 dL_line_3 dL_line_4 (fun b v H locs hP hD hS => ?_)
  refine lv_astore_n (lv' := [(2, .ref b), (0, .ref h0), (1, .int (nI L.length))]) hx hb dL_line_7 rfl hl (by decide) rfl (fun ls hl => ?_)
  refine lv_iconst (v := 0) hx hb dL_line_8 (by decide) ?_
  refine lv_istore_n (lv' := [(3, .int 0), (2, .ref b), (0, .ref h0), (1, .int (nI L.length))]) hx hb dL_line_9 rfl hl (by decide) rfl (fun ls hl => ?_)
  have loop : ∀ (q i v cap k0 : Nat) (a : Nat → Int32) (Wo : va_W) (H : Heap) (locs : List Loc) (ls : Array Slot), L.length = i + q → uo_W g h0 k f hist sv lr ld L Wo → us_B (L.take i) cap k0 a → lv_has ls 4 [(3, .int (nI i)), (2, .ref b), (0, .ref h0), (1, .int (nI L.length))] → va_P g.1 vwCl (us_sb g b v 0 (L.take i) cap a ++ Wo) H → va_D A (us_sb g b v 0 (L.take i) cap a ++ Wo) → va_S A s.heap H locs → W p l e ({ frames := 6, cells := 14, slots := 20 + 5 * 128 + 36, locals := 137 } : Room) s m args below meth c H locs (2 + k0) (20 + 2 * cap) Q (F0 m 10 ls []) := by
    intro q
    induction q with
    | zero =>
      intro i v cap k0 a Wo H locs ls hiq hR hB hl hP hD hS
      refine lv_iload_n hx hb dL_line_10 rfl (lv_at hl 0 rfl) ?_
      refine lv_iload_n hx hb dL_line_11 rfl (lv_at hl 3 rfl) ?_
      refine lv_icmp_ge (tgt := 32) hx hb dL_line_12 (by decide) (fun _ => ?_) (fun cc => absurd (nI_le (by omega) (by omega)) cc)
      refine lv_aload_n hx hb dL_line_32 rfl (lv_at hl 1 rfl) ?_
      have et : L.take i = L := List.take_of_length_le (by omega)
      rw [et] at hP hD hB
      refine us_sbT K0 hl.1 hP hD hS (List.Perm.refl _) hB (by omega) (Nat.le_of_ble_eq_true rfl) (Nat.le_of_ble_eq_true rfl) (by show 2 + 12 ≤ 14; omega) (by show 20 + 5 * L.length + 36 ≤ 20 + 5 * 128 + 36; omega) (Nat.le_of_ble_eq_true rfl) dL_line_33 (fun r v2 a2 H locs hT hP hD hS => ?_)
      refine W.widen (k := 14) (n := 20 + 5 * 128 + 36) (by omega) (by omega) ?_
      exact hret r _ H locs _ ls ⟨Wo, v2, a2, rfl, hR, hT⟩ dL_line_36 hP hD hS
    | succ q ih =>
      intro i v cap k0 a Wo H locs ls hiq hR hB hl hP hD hS
      obtain ⟨hk9, hc9⟩ := us_B_k hB (by rw [List.length_take]; omega)
      have hcap := hB.2.2.2.2
      rw [List.length_take] at hcap
      have hc1 : 2 + k0 ≤ 14 := by omega
      have hc2 : 20 + 2 * cap ≤ 20 + 5 * 128 + 36 := by omega
      refine lv_iload_n hx hb dL_line_10 rfl (lv_at hl 0 rfl) ?_
      refine lv_iload_n hx hb dL_line_11 rfl (lv_at hl 3 rfl) ?_
      refine lv_icmp_ge (tgt := 32) hx hb dL_line_12 (by decide) (fun cc => absurd cc (nI_ge (by omega) (by omega))) (fun _ => ?_)
      refine lv_aload_n hx hb dL_line_15 rfl (lv_at hl 1 rfl) ?_
      refine lv_aload_n hx hb dL_line_16 rfl (lv_at hl 2 rfl) ?_
      refine lv_iload_n hx hb dL_line_17 rfl (lv_at hl 0 rfl) ?_
      have hpm : List.Perm (([(b, .inr (1, [.ref v, .int 0, .int 0, .int (nI (L.take i).length)])), (v, .inl (g.2.2.2.1, cap, .inl a))] ++ Wo) : va_W) (Wo ++ [(b, .inr (1, [.ref v, .int 0, .int 0, .int (nI (L.take i).length)])), (v, .inl (g.2.2.2.1, cap, .inl a))]) := List.perm_append_comm
      have hFc := ub_freeP hD hS hA hpm
      obtain ⟨hPc, hDc⟩ := ub_subP hP hD hpm
      refine us_calli (va_runV (As := [.int (nI i)]) (rest := [.ref b]) ⟨hx, hb, hml, hown, hts⟩ (uo_character l g hR (x := (nI i))) (cwV 1 hts gu_RL_77 rfl rfl rfl ⟨rfl, uhX8_character⟩ ⟨Nat.le_of_ble_eq_true rfl, Nat.le_of_ble_eq_true rfl⟩) (us_preO hR hZ hS hFc hPc hDc hK hN) rfl rfl hl.1 rfl (lv_room (Nat.le_of_ble_eq_true rfl)) dL_line_18 ⟨Nat.le_trans (Nat.le_of_eq (Nat.add_zero _)) hc1, Nat.le_trans (Nat.le_of_eq (Nat.add_zero _)) hc2⟩) hP hD hS hA hpm (fun r Wo1 H locs hpost hP hD hS => ?_)
      have hP : va_P g.1 vwCl ([(b, .inr (1, [.ref v, .int 0, .int 0, .int (nI (L.take i).length)])), (v, .inl (g.2.2.2.1, cap, .inl a))] ++ Wo1) H := ub_P_perm List.perm_append_comm hP
      have hD : va_D A ([(b, .inr (1, [.ref v, .int 0, .int 0, .int (nI (L.take i).length)])), (v, .inl (g.2.2.2.1, cap, .inl a))] ++ Wo1) := ub_D_perm List.perm_append_comm hD
      obtain ⟨hr, hR⟩ := hpost
      have hx9 : (L.getD i 0) < 128 := hLc _ (by rw [List.getD_eq_getElem?_getD, List.getElem?_eq_getElem (show i < L.length by omega)]; exact List.getElem_mem _)
      have er : r = nI (L.getD i 0) := by
          rw [hr, um_in_nI (by omega) (by omega), if_pos (decide_eq_true (show i < L.length by omega)), nI_clamp (by omega)]
      subst er
      refine lv_i2c (v := nI (L.getD i 0)) hx hb dL_line_21 (us_i2c hx9) ?_
      refine us_sbC (base := 2) (bs := 20) K0 hl.1 hP hD hS (List.Perm.refl _) hB (by rw [List.length_take]; omega) (c0 := L.getD i 0) (by omega) (Nat.le_of_ble_eq_true rfl) (Nat.le_of_ble_eq_true rfl) (by decide) (by show 20 + 4 * ((L.take i).length + 1) + 32 ≤ 20 + 5 * 128 + 36; rw [List.length_take]; omega) (Nat.le_of_ble_eq_true rfl) dL_line_22 (fun v2 cap2 k2 a2 H locs hB2 hP hD hS => ?_)
      have et : L.take i ++ [L.getD i 0] = L.take (i + 1) := us_take (by omega)
      rw [et] at hB2 hP hD
      refine lv_pop hx hb dL_line_25 rfl ?_
      refine lv_iinc (v := nI i + 1) (lv' := [(3, .int (nI i + 1)), (2, .ref b), (0, .ref h0), (1, .int (nI L.length))]) hx hb dL_line_26 hl (k := 0) rfl rfl (by decide) rfl (fun ls hl => ?_)
      refine lv_goto (tgt := 10) hx hb dL_line_29 (by decide) ?_
      rw [nI_1] at hl
      exact ih (i + 1) v2 cap2 k2 a2 Wo1 H locs ls (by omega) hR hB2 (lv_sub hl [0, 1, 2, 3] rfl) hP hD hS
  refine W.widen (k := 2 + 0) (n := 20 + 2 * 16) (by decide) (by decide) ?_
  exact loop L.length 0 v 16 0 (fun _ => 0) Wo H locs ls (by omega) hR us_B0 (lv_sub hl [0, 1, 2, 3] rfl) hP hD hS

