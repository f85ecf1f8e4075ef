/-! ===== ropes: texts, sums, ranks, means ===== -/
theorem us_hL_ropes : yL_ropes.cls ≠ "java/lang/invoke/MethodHandle" ∧ yL_ropes.cls ≠ "java/lang/invoke/VarHandle" ∧ (parseMethodDescriptor yL_ropes.desc).map (fun d => d.parameters.length) = some 1 := by decide +kernel
set_option maxHeartbeats 4000000 in
set_option maxRecDepth 100000 in
theorem ul_ropes (l : Launch) (g : us_G) {sz : Nat} {h0 k : Nat} {f : Nat → Nat} {hist : List (Nat → Nat)} {sv : Option (Nat → Nat)} {lr ld : Int32} {L : List Nat} {Wo : va_W} (hR : uo_W g h0 k f hist sv lr ld L Wo) (hJ : uJ f) (hk4 : k < 16384) : Met l yL_ropes wsL_ropes ({ frames := 7, cells := 3100, slots := 35000, locals := 160 } : Room) (va_Pc [.ref h0] (us_pc g Wo sz)) (va_Qi (fun (r : Int32) (u : va_W) => r = 1 ∧ ∃ L2 : List Nat, uo_W g h0 k f hist sv lr ld L2 u) (fun u t => ub_pq g.1 u (va_A Wo sz) t) (va_A Wo sz)) 3100 35000 (va_A Wo sz) := by
  refine us_met_i (y := yL_ropes) (cc := cL_ropes) (nL := 11) (av := [.ref h0]) (post := (fun (r : Int32) (u : va_W) => r = 1 ∧ ∃ L2 : List Nat, uo_W g h0 k f hist sv lr ld L2 u)) (by decide +kernel) (Nat.le_of_ble_eq_true rfl) fun p e s m args below meth c Q A K hret ls hl hP hD hS => ?_
  obtain ⟨hx, hb, hml, hown, hts, hK, hN, hA, hZ⟩ := K
  have hl : lv_has ls 11 [(0, .ref h0)] := hl
  have hI := (uo_W_len hR).2
  have q1 : f 0 ≤ 12 := hI.2.1
  have q2 : f 1 ≤ 16 := hI.2.2.1
  have hr9 := fun r (hr : r < f 0) => hI.2.2.2.2.2.2.2.2.2.1 r (by omega)
  have hPl := hI.2.2.2.2.2.2.2.2.2.2.2.2.2.2.1
  have c0 := hI.1
  have c5 := hI.2.2.2.2.2.1
  have c6 := hI.2.2.2.2.2.2.1
  have K0 : us_kx p s m args meth c cL_ropes 11 RL g A := ⟨hx, hb, hml, hown, hts, hK, hN, hA, hZ⟩
  refine lv_aload_n hx hb dL_ropes_0 rfl (lv_at hl 0 rfl) ?_
  refine lv_iconst (v := 0) hx hb dL_ropes_1 (by decide) ?_
  have hpm : (Wo : va_W).Perm (Wo ++ ([] : va_W)) := List.Perm.of_eq (List.append_nil _).symm
  have hFc := ub_freeP hD hS hA hpm
  obtain ⟨hPc, hDc⟩ := ub_subP hP hD hpm
  refine us_calli (va_runV (As := [.int 0]) (rest := []) ⟨hx, hb, hml, hown, hts⟩ (uo_account l g hR (x := 0)) (cwV 1 hts gu_RL_34 rfl rfl rfl ⟨rfl, uhX8_account⟩ ⟨Nat.le_of_ble_eq_true rfl, Nat.le_of_ble_eq_true rfl⟩) (us_preO hR hZ hS hFc hPc hDc hK hN) rfl rfl hl.1 rfl (lv_room (Nat.le_of_ble_eq_true rfl)) dL_ropes_2 ⟨Nat.le_of_ble_eq_true rfl, Nat.le_of_ble_eq_true rfl⟩) hP hD hS hA hpm (fun r Wo1 H locs hpost hP hD hS => ?_)
  have hP : va_P g.1 vwCl Wo1 H := by have h9 := hP; rw [List.append_nil] at h9; exact h9
  have hD : va_D A Wo1 := by have h9 := hD; rw [List.append_nil] at h9; exact h9
  obtain ⟨hr, hR⟩ := hpost
  have er : r = nI (f 0) := by rw [hr]; rfl
  rw [er]
  refine lv_istore_n (lv' := [(1, .int (nI (f 0))), (0, .ref h0)]) hx hb dL_ropes_5 rfl hl (by decide) rfl (fun ls hl => ?_)
  refine lv_iconst (v := 4) hx hb dL_ropes_6 (by decide) ?_
  refine us_newi (g := g) (N := 4) hx hb (hts _ us_m115) hK hP hD hS hA (by decide) (by decide) (by decide) (by show 0 + 1 ≤ 3100; omega) (by show 0 + 4 ≤ 35000; omega) dL_ropes_7 (fun q2 H hP hD hS => ?_)
  have hP : va_P g.1 vwCl ([(q2, .inl (g.2.1, 4, .inl (fun _ => 0)))] ++ Wo1) H := ub_P_perm List.perm_append_comm hP
  have hD : va_D A ([(q2, .inl (g.2.1, 4, .inl (fun _ => 0)))] ++ Wo1) := ub_D_perm List.perm_append_comm hD
  refine lv_astore_n (lv' := [(2, .ref q2), (1, .int (nI (f 0))), (0, .ref h0)]) hx hb dL_ropes_9 rfl hl (by decide) rfl (fun ls hl => ?_)
  refine lv_iconst (v := 0) hx hb dL_ropes_10 (by decide) ?_
  refine lv_istore_n (lv' := [(3, .int 0), (2, .ref q2), (1, .int (nI (f 0))), (0, .ref h0)]) hx hb dL_ropes_11 rfl hl (by decide) rfl (fun ls hl => ?_)
  refine lv_iconst (v := (-1)) hx hb dL_ropes_12 (by decide) ?_
  refine lv_istore (lv' := [(4, .int (-1)), (3, .int 0), (2, .ref q2), (1, .int (nI (f 0))), (0, .ref h0)]) hx hb dL_ropes_13 hl (by decide) rfl (fun ls hl => ?_)
  refine lv_iconst (v := 0) hx hb dL_ropes_15 (by decide) ?_
  refine lv_istore (lv' := [(5, .int 0), (4, .int (-1)), (3, .int 0), (2, .ref q2), (1, .int (nI (f 0))), (0, .ref h0)]) hx hb dL_ropes_16 hl (by decide) rfl (fun ls hl => ?_)
  have loopR : ∀ (q i : Nat) (s4 : Nat → Int32) (la : Int32) (L : List Nat) (Wo : va_W) (H : Heap) (locs : List Loc) (ls : Array Slot), f 0 = i + q → (∀ y, y < 4 → s4 y = nI (um_sum (us_S f y) i)) → ((i = 0 ∧ la = -1) ∨ ∃ r, r < f 0 ∧ ur_rk (ur_R f) (f 0) r + 1 = i ∧ la = nI r) → uo_W g h0 k f hist sv lr ld L Wo → lv_has ls 11 [(5, .int (nI i)), (4, .int la), (3, .int (nI (um_sum (fun r => f (13 + 6 * r)) i))), (0, .ref h0), (1, .int (nI (f 0))), (2, .ref q2)] → va_P g.1 vwCl ([(q2, .inl (g.2.1, 4, .inl s4))] ++ Wo) H → va_D A ([(q2, .inl (g.2.1, 4, .inl s4))] ++ Wo) → va_S A s.heap H locs → W p l e ({ frames := 7, cells := 3100, slots := 35000, locals := 160 } : Room) s m args below meth c H locs (1 + 252 * i) (4 + 2688 * i) Q (F0 m 18 ls []) := by
    intro q
    induction q with
    | zero =>
      intro i s4 la L Wo H locs ls hiq hs hl4 hR hl hP hD hS
      have ei : i = f 0 := by omega
      rw [ei] at hs hl
      obtain ⟨S5, S6, S7, S1⟩ := us_Sall hI
      have t0 : s4 0 = nI (f 5) := by rw [hs 0 (by decide), S5]
      have t1 : s4 1 = nI (f 6) := by rw [hs 1 (by decide), S6]
      have t2 : s4 2 = nI (f 7) := by rw [hs 2 (by decide), S7]
      have t3 : s4 3 = nI (f 1) := by rw [hs 3 (by decide), S1]
      have hmn := us_mean_n hI
      have hsn := us_share_n hI hk4
      refine W.widen (k := 3100) (n := 35000) (by omega) (by omega) ?_
      refine lv_iload hx hb dL_ropes_18 (lv_at hl 0 rfl) ?_
      refine lv_iload_n hx hb dL_ropes_20 rfl (lv_at hl 4 rfl) ?_
      refine lv_icmp_ge (tgt := 452) hx hb dL_ropes_21 (by decide) (fun _ => ?_) (fun cc => absurd (nI_le (by omega) (by omega)) cc)
      have J465 : ∀ (x5 : UInt64) (Wo : va_W) (H : Heap) (locs : List Loc) (ls : Array Slot), x5 = ux_meanRust f → uo_W g h0 k f hist sv lr ld L Wo → lv_has ls 11 [(3, .int (nI (um_sum (fun r => f (13 + 6 * r)) (f 0)))), (0, .ref h0), (1, .int (nI (f 0))), (2, .ref q2)] → va_P g.1 vwCl ([(q2, .inl (g.2.1, 4, .inl s4))] ++ Wo) H → va_D A ([(q2, .inl (g.2.1, 4, .inl s4))] ++ Wo) → va_S A s.heap H locs → W p l e ({ frames := 7, cells := 3100, slots := 35000, locals := 160 } : Room) s m args below meth c H locs 3100 35000 Q (F0 m 465 ls [.double x5]) := by
        intro x5 Wo H locs ls hx5 hR hl hP hD hS
        subst hx5
        refine lv_dstore (lv' := [(5, .double (ux_meanRust f)), (3, .int (nI (um_sum (fun r => f (13 + 6 * r)) (f 0)))), (0, .ref h0), (1, .int (nI (f 0))), (2, .ref q2)]) hx hb dL_ropes_465 hl (by decide) rfl (fun ls hl => ?_)
        refine lv_aload_n hx hb dL_ropes_467 rfl (lv_at hl 2 rfl) ?_
        refine lv_iconst (v := 5) hx hb dL_ropes_468 (by decide) ?_
        have hpm : List.Perm (([(q2, .inl (g.2.1, 4, .inl s4))] ++ Wo) : va_W) (Wo ++ [(q2, .inl (g.2.1, 4, .inl s4))]) := List.perm_append_comm
        have hFc := ub_freeP hD hS hA hpm
        obtain ⟨hPc, hDc⟩ := ub_subP hP hD hpm
        refine us_calli (va_runV (As := [.int 5]) (rest := []) ⟨hx, hb, hml, hown, hts⟩ (uo_account l g hR (x := 5)) (cwV 1 hts gu_RL_34 rfl rfl rfl ⟨rfl, uhX8_account⟩ ⟨Nat.le_of_ble_eq_true rfl, Nat.le_of_ble_eq_true rfl⟩) (us_preO hR hZ hS hFc hPc hDc hK hN) rfl rfl hl.1 rfl (lv_room (Nat.le_of_ble_eq_true rfl)) dL_ropes_469 ⟨Nat.le_of_ble_eq_true rfl, Nat.le_of_ble_eq_true rfl⟩) hP hD hS hA hpm (fun r Wo2 H locs hpost hP hD hS => ?_)
        have hP : va_P g.1 vwCl ([(q2, .inl (g.2.1, 4, .inl s4))] ++ Wo2) H := ub_P_perm List.perm_append_comm hP
        have hD : va_D A ([(q2, .inl (g.2.1, 4, .inl s4))] ++ Wo2) := ub_D_perm List.perm_append_comm hD
        obtain ⟨hr, hR⟩ := hpost
        have er : r = nI (f 5) := by rw [hr]; rfl
        rw [er]
        refine lv_aload_n hx hb dL_ropes_472 rfl (lv_at hl 2 rfl) ?_
        refine lv_bipush (v := 6) hx hb dL_ropes_473 (by decide) ?_
        have hpm : List.Perm (([(q2, .inl (g.2.1, 4, .inl s4))] ++ Wo2) : va_W) (Wo2 ++ [(q2, .inl (g.2.1, 4, .inl s4))]) := List.perm_append_comm
        have hFc := ub_freeP hD hS hA hpm
        obtain ⟨hPc, hDc⟩ := ub_subP hP hD hpm
        refine us_calli (va_runV (As := [.int 6]) (rest := [.int (nI (f 5))]) ⟨hx, hb, hml, hown, hts⟩ (uo_account l g hR (x := 6)) (cwV 1 hts gu_RL_34 rfl rfl rfl ⟨rfl, uhX8_account⟩ ⟨Nat.le_of_ble_eq_true rfl, Nat.le_of_ble_eq_true rfl⟩) (us_preO hR hZ hS hFc hPc hDc hK hN) rfl rfl hl.1 rfl (lv_room (Nat.le_of_ble_eq_true rfl)) dL_ropes_475 ⟨Nat.le_of_ble_eq_true rfl, Nat.le_of_ble_eq_true rfl⟩) hP hD hS hA hpm (fun r Wo3 H locs hpost hP hD hS => ?_)
        have hP : va_P g.1 vwCl ([(q2, .inl (g.2.1, 4, .inl s4))] ++ Wo3) H := ub_P_perm List.perm_append_comm hP
        have hD : va_D A ([(q2, .inl (g.2.1, 4, .inl s4))] ++ Wo3) := ub_D_perm List.perm_append_comm hD
        obtain ⟨hr, hR⟩ := hpost
        have er : r = nI (f 6) := by rw [hr]; rfl
        rw [er]
        refine lv_iadd hx hb dL_ropes_478 ?_
        refine us_topi (x := nI (f 5 + f 6)) (nI_add _ _) ?_
        refine lv_aload_n hx hb dL_ropes_479 rfl (lv_at hl 2 rfl) ?_
        refine lv_bipush (v := 7) hx hb dL_ropes_480 (by decide) ?_
        have hpm : List.Perm (([(q2, .inl (g.2.1, 4, .inl s4))] ++ Wo3) : va_W) (Wo3 ++ [(q2, .inl (g.2.1, 4, .inl s4))]) := List.perm_append_comm
        have hFc := ub_freeP hD hS hA hpm
        obtain ⟨hPc, hDc⟩ := ub_subP hP hD hpm
        refine us_calli (va_runV (As := [.int 7]) (rest := [.int (nI (f 5 + f 6))]) ⟨hx, hb, hml, hown, hts⟩ (uo_account l g hR (x := 7)) (cwV 1 hts gu_RL_34 rfl rfl rfl ⟨rfl, uhX8_account⟩ ⟨Nat.le_of_ble_eq_true rfl, Nat.le_of_ble_eq_true rfl⟩) (us_preO hR hZ hS hFc hPc hDc hK hN) rfl rfl hl.1 rfl (lv_room (Nat.le_of_ble_eq_true rfl)) dL_ropes_482 ⟨Nat.le_of_ble_eq_true rfl, Nat.le_of_ble_eq_true rfl⟩) hP hD hS hA hpm (fun r Wo4 H locs hpost hP hD hS => ?_)
        have hP : va_P g.1 vwCl ([(q2, .inl (g.2.1, 4, .inl s4))] ++ Wo4) H := ub_P_perm List.perm_append_comm hP
        have hD : va_D A ([(q2, .inl (g.2.1, 4, .inl s4))] ++ Wo4) := ub_D_perm List.perm_append_comm hD
        obtain ⟨hr, hR⟩ := hpost
        have er : r = nI (f 7) := by rw [hr]; rfl
        rw [er]
        refine lv_iadd hx hb dL_ropes_485 ?_
        refine us_topi (x := nI (f 5 + f 6 + f 7)) (nI_add _ _) ?_
        refine lv_istore (lv' := [(7, .int (nI (f 5 + f 6 + f 7))), (5, .double (ux_meanRust f)), (3, .int (nI (um_sum (fun r => f (13 + 6 * r)) (f 0)))), (0, .ref h0), (1, .int (nI (f 0))), (2, .ref q2)]) hx hb dL_ropes_486 hl (by decide) rfl (fun ls hl => ?_)
        refine lv_iload hx hb dL_ropes_488 (lv_at hl 0 rfl) ?_
        have J507 : ∀ (y5 : UInt32) (Wo : va_W) (H : Heap) (locs : List Loc) (ls : Array Slot), y5 = ux_answerShare f → uo_W g h0 k f hist sv lr ld L Wo → lv_has ls 11 [(7, .int (nI (f 5 + f 6 + f 7))), (5, .double (ux_meanRust f)), (3, .int (nI (um_sum (fun r => f (13 + 6 * r)) (f 0)))), (0, .ref h0), (1, .int (nI (f 0))), (2, .ref q2)] → va_P g.1 vwCl ([(q2, .inl (g.2.1, 4, .inl s4))] ++ Wo) H → va_D A ([(q2, .inl (g.2.1, 4, .inl s4))] ++ Wo) → va_S A s.heap H locs → W p l e ({ frames := 7, cells := 3100, slots := 35000, locals := 160 } : Room) s m args below meth c H locs 3100 35000 Q (F0 m 507 ls [.float y5]) := by
          intro y5 Wo H locs ls hy5 hR hl hP hD hS
          subst hy5
          refine lv_fstore (lv' := [(8, .float (ux_answerShare f)), (7, .int (nI (f 5 + f 6 + f 7))), (5, .double (ux_meanRust f)), (3, .int (nI (um_sum (fun r => f (13 + 6 * r)) (f 0)))), (0, .ref h0), (1, .int (nI (f 0))), (2, .ref q2)]) hx hb dL_ropes_507 hl (by decide) rfl (fun ls hl => ?_)
          refine lv_aload_n hx hb dL_ropes_509 rfl (lv_at hl 4 rfl) ?_
          refine lv_iconst (v := 5) hx hb dL_ropes_510 (by decide) ?_
          have hpm : List.Perm (([(q2, .inl (g.2.1, 4, .inl s4))] ++ Wo) : va_W) (Wo ++ [(q2, .inl (g.2.1, 4, .inl s4))]) := List.perm_append_comm
          have hFc := ub_freeP hD hS hA hpm
          obtain ⟨hPc, hDc⟩ := ub_subP hP hD hpm
          refine us_calli (va_runV (As := [.int 5]) (rest := []) ⟨hx, hb, hml, hown, hts⟩ (uo_account l g hR (x := 5)) (cwV 1 hts gu_RL_34 rfl rfl rfl ⟨rfl, uhX8_account⟩ ⟨Nat.le_of_ble_eq_true rfl, Nat.le_of_ble_eq_true rfl⟩) (us_preO hR hZ hS hFc hPc hDc hK hN) rfl rfl hl.1 rfl (lv_room (Nat.le_of_ble_eq_true rfl)) dL_ropes_511 ⟨Nat.le_of_ble_eq_true rfl, Nat.le_of_ble_eq_true rfl⟩) hP hD hS hA hpm (fun r Wo5 H locs hpost hP hD hS => ?_)
          have hP : va_P g.1 vwCl ([(q2, .inl (g.2.1, 4, .inl s4))] ++ Wo5) H := ub_P_perm List.perm_append_comm hP
          have hD : va_D A ([(q2, .inl (g.2.1, 4, .inl s4))] ++ Wo5) := ub_D_perm List.perm_append_comm hD
          obtain ⟨hr, hR⟩ := hpost
          have er : r = nI (f 5) := by rw [hr]; rfl
          rw [er]
          refine lv_aload_n hx hb dL_ropes_514 rfl (lv_at hl 6 rfl) ?_
          refine lv_iconst (v := 0) hx hb dL_ropes_515 (by decide) ?_
          refine va_iald hx hb hK hP 0 0 rfl rfl (i := nI 0) (vp_in_nI (n := 0) (by decide) (by decide)) dL_ropes_516 ?_
          refine us_topi (x := nI (f 5)) t0 ?_
          refine lv_icmp_ne (tgt := 559) hx hb dL_ropes_517 (by decide) (fun cc => absurd rfl cc) (fun _ => ?_)
          refine lv_aload_n hx hb dL_ropes_520 rfl (lv_at hl 4 rfl) ?_
          refine lv_bipush (v := 6) hx hb dL_ropes_521 (by decide) ?_
          have hpm : List.Perm (([(q2, .inl (g.2.1, 4, .inl s4))] ++ Wo5) : va_W) (Wo5 ++ [(q2, .inl (g.2.1, 4, .inl s4))]) := List.perm_append_comm
          have hFc := ub_freeP hD hS hA hpm
          obtain ⟨hPc, hDc⟩ := ub_subP hP hD hpm
          refine us_calli (va_runV (As := [.int 6]) (rest := []) ⟨hx, hb, hml, hown, hts⟩ (uo_account l g hR (x := 6)) (cwV 1 hts gu_RL_34 rfl rfl rfl ⟨rfl, uhX8_account⟩ ⟨Nat.le_of_ble_eq_true rfl, Nat.le_of_ble_eq_true rfl⟩) (us_preO hR hZ hS hFc hPc hDc hK hN) rfl rfl hl.1 rfl (lv_room (Nat.le_of_ble_eq_true rfl)) dL_ropes_523 ⟨Nat.le_of_ble_eq_true rfl, Nat.le_of_ble_eq_true rfl⟩) hP hD hS hA hpm (fun r Wo6 H locs hpost hP hD hS => ?_)
          have hP : va_P g.1 vwCl ([(q2, .inl (g.2.1, 4, .inl s4))] ++ Wo6) H := ub_P_perm List.perm_append_comm hP
          have hD : va_D A ([(q2, .inl (g.2.1, 4, .inl s4))] ++ Wo6) := ub_D_perm List.perm_append_comm hD
          obtain ⟨hr, hR⟩ := hpost
          have er : r = nI (f 6) := by rw [hr]; rfl
          rw [er]
          refine lv_aload_n hx hb dL_ropes_526 rfl (lv_at hl 6 rfl) ?_
          refine lv_iconst (v := 1) hx hb dL_ropes_527 (by decide) ?_
          refine va_iald hx hb hK hP 0 0 rfl rfl (i := nI 1) (vp_in_nI (n := 1) (by decide) (by decide)) dL_ropes_528 ?_
          refine us_topi (x := nI (f 6)) t1 ?_
          refine lv_icmp_ne (tgt := 559) hx hb dL_ropes_529 (by decide) (fun cc => absurd rfl cc) (fun _ => ?_)
          refine lv_aload_n hx hb dL_ropes_532 rfl (lv_at hl 4 rfl) ?_
          refine lv_bipush (v := 7) hx hb dL_ropes_533 (by decide) ?_
          have hpm : List.Perm (([(q2, .inl (g.2.1, 4, .inl s4))] ++ Wo6) : va_W) (Wo6 ++ [(q2, .inl (g.2.1, 4, .inl s4))]) := List.perm_append_comm
          have hFc := ub_freeP hD hS hA hpm
          obtain ⟨hPc, hDc⟩ := ub_subP hP hD hpm
          refine us_calli (va_runV (As := [.int 7]) (rest := []) ⟨hx, hb, hml, hown, hts⟩ (uo_account l g hR (x := 7)) (cwV 1 hts gu_RL_34 rfl rfl rfl ⟨rfl, uhX8_account⟩ ⟨Nat.le_of_ble_eq_true rfl, Nat.le_of_ble_eq_true rfl⟩) (us_preO hR hZ hS hFc hPc hDc hK hN) rfl rfl hl.1 rfl (lv_room (Nat.le_of_ble_eq_true rfl)) dL_ropes_535 ⟨Nat.le_of_ble_eq_true rfl, Nat.le_of_ble_eq_true rfl⟩) hP hD hS hA hpm (fun r Wo7 H locs hpost hP hD hS => ?_)
          have hP : va_P g.1 vwCl ([(q2, .inl (g.2.1, 4, .inl s4))] ++ Wo7) H := ub_P_perm List.perm_append_comm hP
          have hD : va_D A ([(q2, .inl (g.2.1, 4, .inl s4))] ++ Wo7) := ub_D_perm List.perm_append_comm hD
          obtain ⟨hr, hR⟩ := hpost
          have er : r = nI (f 7) := by rw [hr]; rfl
          rw [er]
          refine lv_aload_n hx hb dL_ropes_538 rfl (lv_at hl 6 rfl) ?_
          refine lv_iconst (v := 2) hx hb dL_ropes_539 (by decide) ?_
          refine va_iald hx hb hK hP 0 0 rfl rfl (i := nI 2) (vp_in_nI (n := 2) (by decide) (by decide)) dL_ropes_540 ?_
          refine us_topi (x := nI (f 7)) t2 ?_
          refine lv_icmp_ne (tgt := 559) hx hb dL_ropes_541 (by decide) (fun cc => absurd rfl cc) (fun _ => ?_)
          refine lv_aload_n hx hb dL_ropes_544 rfl (lv_at hl 4 rfl) ?_
          refine lv_iconst (v := 1) hx hb dL_ropes_545 (by decide) ?_
          have hpm : List.Perm (([(q2, .inl (g.2.1, 4, .inl s4))] ++ Wo7) : va_W) (Wo7 ++ [(q2, .inl (g.2.1, 4, .inl s4))]) := List.perm_append_comm
          have hFc := ub_freeP hD hS hA hpm
          obtain ⟨hPc, hDc⟩ := ub_subP hP hD hpm
          refine us_calli (va_runV (As := [.int 1]) (rest := []) ⟨hx, hb, hml, hown, hts⟩ (uo_account l g hR (x := 1)) (cwV 1 hts gu_RL_34 rfl rfl rfl ⟨rfl, uhX8_account⟩ ⟨Nat.le_of_ble_eq_true rfl, Nat.le_of_ble_eq_true rfl⟩) (us_preO hR hZ hS hFc hPc hDc hK hN) rfl rfl hl.1 rfl (lv_room (Nat.le_of_ble_eq_true rfl)) dL_ropes_546 ⟨Nat.le_of_ble_eq_true rfl, Nat.le_of_ble_eq_true rfl⟩) hP hD hS hA hpm (fun r Wo8 H locs hpost hP hD hS => ?_)
          have hP : va_P g.1 vwCl ([(q2, .inl (g.2.1, 4, .inl s4))] ++ Wo8) H := ub_P_perm List.perm_append_comm hP
          have hD : va_D A ([(q2, .inl (g.2.1, 4, .inl s4))] ++ Wo8) := ub_D_perm List.perm_append_comm hD
          obtain ⟨hr, hR⟩ := hpost
          have er : r = nI (f 1) := by rw [hr]; rfl
          rw [er]
          refine lv_aload_n hx hb dL_ropes_549 rfl (lv_at hl 6 rfl) ?_
          refine lv_iconst (v := 3) hx hb dL_ropes_550 (by decide) ?_
          refine va_iald hx hb hK hP 0 0 rfl rfl (i := nI 3) (vp_in_nI (n := 3) (by decide) (by decide)) dL_ropes_551 ?_
          refine us_topi (x := nI (f 1)) t3 ?_
          refine lv_icmp_ne (tgt := 559) hx hb dL_ropes_552 (by decide) (fun cc => absurd rfl cc) (fun _ => ?_)
          refine lv_iconst (v := 1) hx hb dL_ropes_555 (by decide) ?_
          refine lv_goto (tgt := 560) hx hb dL_ropes_556 (by decide) ?_
          refine lv_istore (lv' := [(9, .int 1), (8, .float (ux_answerShare f)), (7, .int (nI (f 5 + f 6 + f 7))), (5, .double (ux_meanRust f)), (3, .int (nI (um_sum (fun r => f (13 + 6 * r)) (f 0)))), (0, .ref h0), (1, .int (nI (f 0))), (2, .ref q2)]) hx hb dL_ropes_560 hl (by decide) rfl (fun ls hl => ?_)
          refine lv_iload hx hb dL_ropes_562 (lv_at hl 0 rfl) ?_
          refine lv_if_eq (tgt := 666) hx hb dL_ropes_564 (by decide) (fun cc => absurd cc (show ¬ (1 : Int32) = 0 by decide)) (fun _ => ?_)
          refine lv_aload_n hx hb dL_ropes_567 rfl (lv_at hl 5 rfl) ?_
          refine lv_iconst (v := 4) hx hb dL_ropes_568 (by decide) ?_
          have hpm : List.Perm (([(q2, .inl (g.2.1, 4, .inl s4))] ++ Wo8) : va_W) (Wo8 ++ [(q2, .inl (g.2.1, 4, .inl s4))]) := List.perm_append_comm
          have hFc := ub_freeP hD hS hA hpm
          obtain ⟨hPc, hDc⟩ := ub_subP hP hD hpm
          refine us_calli (va_runV (As := [.int 4]) (rest := []) ⟨hx, hb, hml, hown, hts⟩ (uo_account l g hR (x := 4)) (cwV 1 hts gu_RL_34 rfl rfl rfl ⟨rfl, uhX8_account⟩ ⟨Nat.le_of_ble_eq_true rfl, Nat.le_of_ble_eq_true rfl⟩) (us_preO hR hZ hS hFc hPc hDc hK hN) rfl rfl hl.1 rfl (lv_room (Nat.le_of_ble_eq_true rfl)) dL_ropes_569 ⟨Nat.le_of_ble_eq_true rfl, Nat.le_of_ble_eq_true rfl⟩) hP hD hS hA hpm (fun r Wo9 H locs hpost hP hD hS => ?_)
          have hP : va_P g.1 vwCl ([(q2, .inl (g.2.1, 4, .inl s4))] ++ Wo9) H := ub_P_perm List.perm_append_comm hP
          have hD : va_D A ([(q2, .inl (g.2.1, 4, .inl s4))] ++ Wo9) := ub_D_perm List.perm_append_comm hD
          obtain ⟨hr, hR⟩ := hpost
          have er : r = nI (f 4) := by rw [hr]; rfl
          rw [er]
          refine lv_iload hx hb dL_ropes_572 (lv_at hl 2 rfl) ?_
          refine lv_aload_n hx hb dL_ropes_574 rfl (lv_at hl 5 rfl) ?_
          refine lv_iconst (v := 1) hx hb dL_ropes_575 (by decide) ?_
          have hpm : List.Perm (([(q2, .inl (g.2.1, 4, .inl s4))] ++ Wo9) : va_W) (Wo9 ++ [(q2, .inl (g.2.1, 4, .inl s4))]) := List.perm_append_comm
          have hFc := ub_freeP hD hS hA hpm
          obtain ⟨hPc, hDc⟩ := ub_subP hP hD hpm
          refine us_calli (va_runV (As := [.int 1]) (rest := [.int (nI (f 5 + f 6 + f 7)), .int (nI (f 4))]) ⟨hx, hb, hml, hown, hts⟩ (uo_account l g hR (x := 1)) (cwV 1 hts gu_RL_34 rfl rfl rfl ⟨rfl, uhX8_account⟩ ⟨Nat.le_of_ble_eq_true rfl, Nat.le_of_ble_eq_true rfl⟩) (us_preO hR hZ hS hFc hPc hDc hK hN) rfl rfl hl.1 rfl (lv_room (Nat.le_of_ble_eq_true rfl)) dL_ropes_576 ⟨Nat.le_of_ble_eq_true rfl, Nat.le_of_ble_eq_true rfl⟩) hP hD hS hA hpm (fun r Wo10 H locs hpost hP hD hS => ?_)
          have hP : va_P g.1 vwCl ([(q2, .inl (g.2.1, 4, .inl s4))] ++ Wo10) H := ub_P_perm List.perm_append_comm hP
          have hD : va_D A ([(q2, .inl (g.2.1, 4, .inl s4))] ++ Wo10) := ub_D_perm List.perm_append_comm hD
          obtain ⟨hr, hR⟩ := hpost
          have er : r = nI (f 1) := by rw [hr]; rfl
          rw [er]
          refine lv_iadd hx hb dL_ropes_579 ?_
          refine us_topi (x := nI (f 5 + f 6 + f 7 + f 1)) (nI_add _ _) ?_
          refine lv_aload_n hx hb dL_ropes_580 rfl (lv_at hl 5 rfl) ?_
          refine lv_bipush (v := 8) hx hb dL_ropes_581 (by decide) ?_
          have hpm : List.Perm (([(q2, .inl (g.2.1, 4, .inl s4))] ++ Wo10) : va_W) (Wo10 ++ [(q2, .inl (g.2.1, 4, .inl s4))]) := List.perm_append_comm
          have hFc := ub_freeP hD hS hA hpm
          obtain ⟨hPc, hDc⟩ := ub_subP hP hD hpm
          refine us_calli (va_runV (As := [.int 8]) (rest := [.int (nI (f 5 + f 6 + f 7 + f 1)), .int (nI (f 4))]) ⟨hx, hb, hml, hown, hts⟩ (uo_account l g hR (x := 8)) (cwV 1 hts gu_RL_34 rfl rfl rfl ⟨rfl, uhX8_account⟩ ⟨Nat.le_of_ble_eq_true rfl, Nat.le_of_ble_eq_true rfl⟩) (us_preO hR hZ hS hFc hPc hDc hK hN) rfl rfl hl.1 rfl (lv_room (Nat.le_of_ble_eq_true rfl)) dL_ropes_583 ⟨Nat.le_of_ble_eq_true rfl, Nat.le_of_ble_eq_true rfl⟩) hP hD hS hA hpm (fun r Wo11 H locs hpost hP hD hS => ?_)
          have hP : va_P g.1 vwCl ([(q2, .inl (g.2.1, 4, .inl s4))] ++ Wo11) H := ub_P_perm List.perm_append_comm hP
          have hD : va_D A ([(q2, .inl (g.2.1, 4, .inl s4))] ++ Wo11) := ub_D_perm List.perm_append_comm hD
          obtain ⟨hr, hR⟩ := hpost
          have er : r = nI (f 8) := by rw [hr]; rfl
          rw [er]
          refine lv_iadd hx hb dL_ropes_586 ?_
          refine us_topi (x := nI (f 5 + f 6 + f 7 + f 1 + f 8)) (nI_add _ _) ?_
          refine lv_icmp_ne (tgt := 666) hx hb dL_ropes_587 (by decide) (fun cc => absurd (congrArg nI (by omega)) cc) (fun _ => ?_)
          refine lv_aload_n hx hb dL_ropes_590 rfl (lv_at hl 5 rfl) ?_
          refine lv_bipush (v := 9) hx hb dL_ropes_591 (by decide) ?_
          have hpm : List.Perm (([(q2, .inl (g.2.1, 4, .inl s4))] ++ Wo11) : va_W) (Wo11 ++ [(q2, .inl (g.2.1, 4, .inl s4))]) := List.perm_append_comm
          have hFc := ub_freeP hD hS hA hpm
          obtain ⟨hPc, hDc⟩ := ub_subP hP hD hpm
          refine us_calli (va_runV (As := [.int 9]) (rest := []) ⟨hx, hb, hml, hown, hts⟩ (uo_account l g hR (x := 9)) (cwV 1 hts gu_RL_34 rfl rfl rfl ⟨rfl, uhX8_account⟩ ⟨Nat.le_of_ble_eq_true rfl, Nat.le_of_ble_eq_true rfl⟩) (us_preO hR hZ hS hFc hPc hDc hK hN) rfl rfl hl.1 rfl (lv_room (Nat.le_of_ble_eq_true rfl)) dL_ropes_593 ⟨Nat.le_of_ble_eq_true rfl, Nat.le_of_ble_eq_true rfl⟩) hP hD hS hA hpm (fun r Wo12 H locs hpost hP hD hS => ?_)
          have hP : va_P g.1 vwCl ([(q2, .inl (g.2.1, 4, .inl s4))] ++ Wo12) H := ub_P_perm List.perm_append_comm hP
          have hD : va_D A ([(q2, .inl (g.2.1, 4, .inl s4))] ++ Wo12) := ub_D_perm List.perm_append_comm hD
          obtain ⟨hr, hR⟩ := hpost
          have er : r = nI (um_sum (fun r => f (13 + 6 * r)) (f 0)) := by rw [hr]; rfl
          rw [er]
          refine lv_iload_n hx hb dL_ropes_596 rfl (lv_at hl 4 rfl) ?_
          refine lv_icmp_ne (tgt := 666) hx hb dL_ropes_597 (by decide) (fun cc => absurd rfl cc) (fun _ => ?_)
          refine lv_aload_n hx hb dL_ropes_600 rfl (lv_at hl 5 rfl) ?_
          have hpm : List.Perm (([(q2, .inl (g.2.1, 4, .inl s4))] ++ Wo12) : va_W) (Wo12 ++ [(q2, .inl (g.2.1, 4, .inl s4))]) := List.perm_append_comm
          have hFc := ub_freeP hD hS hA hpm
          obtain ⟨hPc, hDc⟩ := ub_subP hP hD hpm
          refine us_calld (va_runV (As := []) (rest := []) ⟨hx, hb, hml, hown, hts⟩ (uo_meanRust l g hR ) (cwV 0 hts gu_RL_136 rfl rfl rfl ⟨rfl, uhX8_meanRust⟩ ⟨Nat.le_of_ble_eq_true rfl, Nat.le_of_ble_eq_true rfl⟩) (us_preO hR hZ hS hFc hPc hDc hK hN) rfl rfl hl.1 rfl (lv_room (Nat.le_of_ble_eq_true rfl)) dL_ropes_601 ⟨Nat.le_of_ble_eq_true rfl, Nat.le_of_ble_eq_true rfl⟩) hP hD hS hA hpm (fun r Wo13 H locs hpost hP hD hS => ?_)
          have hP : va_P g.1 vwCl ([(q2, .inl (g.2.1, 4, .inl s4))] ++ Wo13) H := ub_P_perm List.perm_append_comm hP
          have hD : va_D A ([(q2, .inl (g.2.1, 4, .inl s4))] ++ Wo13) := ub_D_perm List.perm_append_comm hD
          obtain ⟨hr, hR⟩ := hpost
          have er : r = ux_meanRust f := hr
          rw [er]
          refine lv_dload hx hb dL_ropes_604 (lv_at hl 3 rfl) ?_
          refine lv_dcmp hx hb dL_ropes_606 ?_
          refine us_topi (x := 0) (uf_d hmn) ?_
          refine lv_if_ne (tgt := 666) hx hb dL_ropes_607 (by decide) (fun cc => absurd rfl cc) (fun _ => ?_)
          refine lv_aload_n hx hb dL_ropes_610 rfl (lv_at hl 5 rfl) ?_
          have hpm : List.Perm (([(q2, .inl (g.2.1, 4, .inl s4))] ++ Wo13) : va_W) (Wo13 ++ [(q2, .inl (g.2.1, 4, .inl s4))]) := List.perm_append_comm
          have hFc := ub_freeP hD hS hA hpm
          obtain ⟨hPc, hDc⟩ := ub_subP hP hD hpm
          refine us_callf (va_runV (As := []) (rest := []) ⟨hx, hb, hml, hown, hts⟩ (uo_answerShare l g hR  hk4) (cwV 0 hts gu_RL_140 rfl rfl rfl ⟨rfl, uhX8_answerShare⟩ ⟨Nat.le_of_ble_eq_true rfl, Nat.le_of_ble_eq_true rfl⟩) (us_preO hR hZ hS hFc hPc hDc hK hN) rfl rfl hl.1 rfl (lv_room (Nat.le_of_ble_eq_true rfl)) dL_ropes_611 ⟨Nat.le_of_ble_eq_true rfl, Nat.le_of_ble_eq_true rfl⟩) hP hD hS hA hpm (fun r Wo14 H locs hpost hP hD hS => ?_)
          have hP : va_P g.1 vwCl ([(q2, .inl (g.2.1, 4, .inl s4))] ++ Wo14) H := ub_P_perm List.perm_append_comm hP
          have hD : va_D A ([(q2, .inl (g.2.1, 4, .inl s4))] ++ Wo14) := ub_D_perm List.perm_append_comm hD
          obtain ⟨hr, hR⟩ := hpost
          have er : r = ux_answerShare f := hr
          rw [er]
          refine lv_fload hx hb dL_ropes_614 (lv_at hl 1 rfl) ?_
          refine lv_fcmp hx hb dL_ropes_616 ?_
          refine us_topi (x := 0) (uf_f hsn) ?_
          refine lv_if_ne (tgt := 666) hx hb dL_ropes_617 (by decide) (fun cc => absurd rfl cc) (fun _ => ?_)
          refine lv_aload_n hx hb dL_ropes_620 rfl (lv_at hl 5 rfl) ?_
          have hpm : List.Perm (([(q2, .inl (g.2.1, 4, .inl s4))] ++ Wo14) : va_W) (Wo14 ++ [(q2, .inl (g.2.1, 4, .inl s4))]) := List.perm_append_comm
          have hFc := ub_freeP hD hS hA hpm
          obtain ⟨hPc, hDc⟩ := ub_subP hP hD hpm
          refine us_calli (va_runV (As := []) (rest := []) ⟨hx, hb, hml, hown, hts⟩ (uo_isBalanced l g hR ) (cwV 0 hts gu_RL_144 rfl rfl rfl ⟨rfl, uhX8_isBalanced⟩ ⟨Nat.le_of_ble_eq_true rfl, Nat.le_of_ble_eq_true rfl⟩) (us_preO hR hZ hS hFc hPc hDc hK hN) rfl rfl hl.1 rfl (lv_room (Nat.le_of_ble_eq_true rfl)) dL_ropes_621 ⟨Nat.le_of_ble_eq_true rfl, Nat.le_of_ble_eq_true rfl⟩) hP hD hS hA hpm (fun r Wo15 H locs hpost hP hD hS => ?_)
          have hP : va_P g.1 vwCl ([(q2, .inl (g.2.1, 4, .inl s4))] ++ Wo15) H := ub_P_perm List.perm_append_comm hP
          have hD : va_D A ([(q2, .inl (g.2.1, 4, .inl s4))] ++ Wo15) := ub_D_perm List.perm_append_comm hD
          obtain ⟨hr, hR⟩ := hpost
          have er : r = 1 := hr
          rw [er]
          refine lv_iconst (v := 1) hx hb dL_ropes_624 (by decide) ?_
          refine lv_icmp_ne (tgt := 666) hx hb dL_ropes_625 (by decide) (fun cc => absurd rfl cc) (fun _ => ?_)
          refine lv_aload_n hx hb dL_ropes_628 rfl (lv_at hl 5 rfl) ?_
          refine lv_iload_n hx hb dL_ropes_629 rfl (lv_at hl 6 rfl) ?_
          have hpm : List.Perm (([(q2, .inl (g.2.1, 4, .inl s4))] ++ Wo15) : va_W) (Wo15 ++ [(q2, .inl (g.2.1, 4, .inl s4))]) := List.perm_append_comm
          have hFc := ub_freeP hD hS hA hpm
          obtain ⟨hPc, hDc⟩ := ub_subP hP hD hpm
          refine us_calli (va_runV (As := [.int (nI (f 0))]) (rest := []) ⟨hx, hb, hml, hown, hts⟩ (uo_rustiest l g hR (x := (nI (f 0)))) (cwV 1 hts gu_RL_126 rfl rfl rfl ⟨rfl, uhX8_rustiest⟩ ⟨Nat.le_of_ble_eq_true rfl, Nat.le_of_ble_eq_true rfl⟩) (us_preO hR hZ hS hFc hPc hDc hK hN) rfl rfl hl.1 rfl (lv_room (Nat.le_of_ble_eq_true rfl)) dL_ropes_630 ⟨Nat.le_of_ble_eq_true rfl, Nat.le_of_ble_eq_true rfl⟩) hP hD hS hA hpm (fun r Wo16 H locs hpost hP hD hS => ?_)
          have hP : va_P g.1 vwCl ([(q2, .inl (g.2.1, 4, .inl s4))] ++ Wo16) H := ub_P_perm List.perm_append_comm hP
          have hD : va_D A ([(q2, .inl (g.2.1, 4, .inl s4))] ++ Wo16) := ub_D_perm List.perm_append_comm hD
          obtain ⟨hr, hR⟩ := hpost
          have er : r = (-1011) := hr.trans (ur_rustiestNo hI)
          rw [er]
          refine lv_sipush (v := (-1011)) hx hb dL_ropes_633 (by decide) ?_
          refine lv_icmp_ne (tgt := 666) hx hb dL_ropes_636 (by decide) (fun cc => absurd rfl cc) (fun _ => ?_)
          refine lv_aload_n hx hb dL_ropes_639 rfl (lv_at hl 5 rfl) ?_
          refine lv_iload_n hx hb dL_ropes_640 rfl (lv_at hl 6 rfl) ?_
          have et : ux_tell f L (nI (f 0)) = (-1011, L) := by unfold ux_tell; rw [uw_no (Nat.lt_irrefl _) (by omega) (by omega)]; rfl
          have hpm : List.Perm (([(q2, .inl (g.2.1, 4, .inl s4))] ++ Wo16) : va_W) (Wo16 ++ [(q2, .inl (g.2.1, 4, .inl s4))]) := List.perm_append_comm
          have hFc := ub_freeP hD hS hA hpm
          obtain ⟨hPc, hDc⟩ := ub_subP hP hD hpm
          refine us_calli (va_runV (As := [.int (nI (f 0))]) (rest := []) ⟨hx, hb, hml, hown, hts⟩ (uo_tell l g hR (x := (nI (f 0)))) (cwV 1 hts gu_RL_90 rfl rfl rfl ⟨rfl, uhX8_tell⟩ ⟨Nat.le_of_ble_eq_true rfl, Nat.le_of_ble_eq_true rfl⟩) (us_preO hR hZ hS hFc hPc hDc hK hN) rfl rfl hl.1 rfl (lv_room (Nat.le_of_ble_eq_true rfl)) dL_ropes_641 ⟨Nat.le_of_ble_eq_true rfl, Nat.le_of_ble_eq_true rfl⟩) hP hD hS hA hpm (fun r Wo17 H locs hpost hP hD hS => ?_)
          have hP : va_P g.1 vwCl ([(q2, .inl (g.2.1, 4, .inl s4))] ++ Wo17) H := ub_P_perm List.perm_append_comm hP
          have hD : va_D A ([(q2, .inl (g.2.1, 4, .inl s4))] ++ Wo17) := ub_D_perm List.perm_append_comm hD
          obtain ⟨hr, hR⟩ := hpost
          have er : r = (-1011) := by rw [hr, et]
          rw [er]
          rw [et] at hR
          refine lv_sipush (v := (-1011)) hx hb dL_ropes_644 (by decide) ?_
          refine lv_icmp_ne (tgt := 666) hx hb dL_ropes_647 (by decide) (fun cc => absurd rfl cc) (fun _ => ?_)
          refine lv_aload_n hx hb dL_ropes_650 rfl (lv_at hl 5 rfl) ?_
          refine lv_iload_n hx hb dL_ropes_651 rfl (lv_at hl 6 rfl) ?_
          refine lv_iconst (v := 5) hx hb dL_ropes_652 (by decide) ?_
          have hpm : List.Perm (([(q2, .inl (g.2.1, 4, .inl s4))] ++ Wo17) : va_W) (Wo17 ++ [(q2, .inl (g.2.1, 4, .inl s4))]) := List.perm_append_comm
          have hFc := ub_freeP hD hS hA hpm
          obtain ⟨hPc, hDc⟩ := ub_subP hP hD hpm
          refine us_calli (va_runV (As := [.int (nI (f 0)), .int 5]) (rest := []) ⟨hx, hb, hml, hown, hts⟩ (uo_would l g hR (x := (nI (f 0))) (v := 5)) (cwV 2 hts gu_RL_129 rfl rfl rfl ⟨rfl, uhX8_would⟩ ⟨Nat.le_of_ble_eq_true rfl, Nat.le_of_ble_eq_true rfl⟩) (us_preO hR hZ hS hFc hPc hDc hK hN) rfl rfl hl.1 rfl (lv_room (Nat.le_of_ble_eq_true rfl)) dL_ropes_653 ⟨Nat.le_of_ble_eq_true rfl, Nat.le_of_ble_eq_true rfl⟩) hP hD hS hA hpm (fun r Wo18 H locs hpost hP hD hS => ?_)
          have hP : va_P g.1 vwCl ([(q2, .inl (g.2.1, 4, .inl s4))] ++ Wo18) H := ub_P_perm List.perm_append_comm hP
          have hD : va_D A ([(q2, .inl (g.2.1, 4, .inl s4))] ++ Wo18) := ub_D_perm List.perm_append_comm hD
          obtain ⟨hr, hR⟩ := hpost
          have er : r = (-1011) := hr.trans (uw_wouldNo hI (Nat.lt_irrefl _) (by omega))
          rw [er]
          refine lv_sipush (v := (-1011)) hx hb dL_ropes_656 (by decide) ?_
          refine lv_icmp_ne (tgt := 666) hx hb dL_ropes_659 (by decide) (fun cc => absurd rfl cc) (fun _ => ?_)
          refine lv_iconst (v := 1) hx hb dL_ropes_662 (by decide) ?_
          refine lv_goto (tgt := 667) hx hb dL_ropes_663 (by decide) ?_
          have hP : va_P g.1 vwCl Wo18 H := us_dropP hP
          have hD : va_D A Wo18 := us_dropD hD
          exact hret _ _ _ _ _ ls ⟨rfl, _, hR⟩ dL_ropes_667 rfl hP hD hS
        by_cases h0a : f 5 + f 6 + f 7 = 0
        · refine lv_if_ne (tgt := 497) hx hb dL_ropes_490 (by decide) (fun cc => absurd (by rw [h0a]; rfl) cc) (fun _ => ?_)
          refine lv_fconst0 hx hb dL_ropes_493 ?_
          refine lv_goto (tgt := 507) hx hb dL_ropes_494 (by decide) ?_
          exact J507 FP.fconst0 Wo4 _ _ ls (((uw_answerShare hI hk4).trans (if_pos h0a)).symm) hR (lv_sub hl [0, 1, 2, 3, 4, 5] rfl) hP hD hS
        · refine lv_if_ne (tgt := 497) hx hb dL_ropes_490 (by decide) (fun _ => ?_) (fun cc => absurd cc (nI_ne0 (by omega) (by omega)))
          refine lv_aload_n hx hb dL_ropes_497 rfl (lv_at hl 3 rfl) ?_
          refine lv_iconst (v := 5) hx hb dL_ropes_498 (by decide) ?_
          have hpm : List.Perm (([(q2, .inl (g.2.1, 4, .inl s4))] ++ Wo4) : va_W) (Wo4 ++ [(q2, .inl (g.2.1, 4, .inl s4))]) := List.perm_append_comm
          have hFc := ub_freeP hD hS hA hpm
          obtain ⟨hPc, hDc⟩ := ub_subP hP hD hpm
          refine us_calli (va_runV (As := [.int 5]) (rest := []) ⟨hx, hb, hml, hown, hts⟩ (uo_account l g hR (x := 5)) (cwV 1 hts gu_RL_34 rfl rfl rfl ⟨rfl, uhX8_account⟩ ⟨Nat.le_of_ble_eq_true rfl, Nat.le_of_ble_eq_true rfl⟩) (us_preO hR hZ hS hFc hPc hDc hK hN) rfl rfl hl.1 rfl (lv_room (Nat.le_of_ble_eq_true rfl)) dL_ropes_499 ⟨Nat.le_of_ble_eq_true rfl, Nat.le_of_ble_eq_true rfl⟩) hP hD hS hA hpm (fun r Wo19 H locs hpost hP hD hS => ?_)
          have hP : va_P g.1 vwCl ([(q2, .inl (g.2.1, 4, .inl s4))] ++ Wo19) H := ub_P_perm List.perm_append_comm hP
          have hD : va_D A ([(q2, .inl (g.2.1, 4, .inl s4))] ++ Wo19) := ub_D_perm List.perm_append_comm hD
          obtain ⟨hr, hR⟩ := hpost
          have er : r = nI (f 5) := by rw [hr]; rfl
          rw [er]
          have hsh := (uw_answerShare hI hk4).trans (if_neg h0a)
          refine lv_i2f hx hb dL_ropes_502 ?_
          refine lv_iload hx hb dL_ropes_503 (lv_at hl 0 rfl) ?_
          refine lv_i2f hx hb dL_ropes_505 ?_
          refine lv_fdiv hx hb dL_ropes_506 (by rw [← hsh]; exact hsn) ?_
          exact J507 (FP.fdiv (FP.i2f (nI (f 5))) (FP.i2f (nI (f 5 + f 6 + f 7)))) Wo19 _ _ ls hsh.symm hR (lv_sub hl [0, 1, 2, 3, 4, 5] rfl) hP hD hS
      refine lv_iload_n hx hb dL_ropes_452 rfl (lv_at hl 4 rfl) ?_
      by_cases h0n : f 0 = 0
      · refine lv_if_ne (tgt := 460) hx hb dL_ropes_453 (by decide) (fun cc => absurd (by rw [h0n]; rfl) cc) (fun _ => ?_)
        refine lv_dconst0 hx hb dL_ropes_456 ?_
        refine lv_goto (tgt := 465) hx hb dL_ropes_457 (by decide) ?_
        exact J465 FP.dconst0 Wo _ _ ls (((uw_meanRust hI).trans (if_pos h0n)).symm) hR (lv_sub hl [2, 3, 4, 5] rfl) hP hD hS
      · refine lv_if_ne (tgt := 460) hx hb dL_ropes_453 (by decide) (fun _ => ?_) (fun cc => absurd cc (nI_ne0 (by omega) (by omega)))
        have hmm := (uw_meanRust hI).trans (if_neg h0n)
        refine lv_iload_n hx hb dL_ropes_460 rfl (lv_at hl 2 rfl) ?_
        refine lv_i2d hx hb dL_ropes_461 ?_
        refine lv_iload_n hx hb dL_ropes_462 rfl (lv_at hl 4 rfl) ?_
        refine lv_i2d hx hb dL_ropes_463 ?_
        refine lv_ddiv hx hb dL_ropes_464 (by rw [← hmm]; exact hmn) ?_
        exact J465 (FP.ddiv (FP.i2d (nI (um_sum (fun r => f (13 + 6 * r)) (f 0)))) (FP.i2d (nI (f 0)))) Wo _ _ ls hmm.symm hR (lv_sub hl [2, 3, 4, 5] rfl) hP hD hS
    | succ q ih =>
      intro i s4 la L Wo H locs ls hiq hs hl4 hR hl hP hD hS
      have hi0 : i < f 0 := by omega
      obtain ⟨rk, k1, k2, k3⟩ := ur_rustiest hI hi0
      obtain ⟨b1, b2, b3⟩ := hr9 i hi0
      have loopQ : ∀ (qq q : Nat) (b : Nat) (v : Nat) (cap : Nat) (k0 : Nat) (a : Nat → Int32) (z4 : Nat → Int32) (Wo : va_W) (H : Heap) (locs : List Loc) (ls : Array Slot), 4 = q + qq → us_B (ut_tell f i) cap k0 a → (∀ y, y < 4 → z4 y = nI (um_sum (us_S f y) (if y < q then i + 1 else i))) → uo_W g h0 k f hist sv lr ld L Wo → lv_has ls 11 [(8, .int (nI q)), (7, .int (nI (um_cnt (fun k => decide (f (83 + 3 * k) = i)) (f 1)))), (6, .ref b), (5, .int (nI i)), (4, .int la), (3, .int (nI (um_sum (fun r => f (13 + 6 * r)) i))), (0, .ref h0), (1, .int (nI (f 0))), (2, .ref q2)] → va_P g.1 vwCl ([(b, .inr (1, [.ref v, .int 0, .int 0, .int (nI (ut_tell f i).length)])), (v, .inl (g.2.2.2.1, cap, .inl a)), (q2, .inl (g.2.1, 4, .inl z4))] ++ Wo) H → va_D A ([(b, .inr (1, [.ref v, .int 0, .int 0, .int (nI (ut_tell f i).length)])), (v, .inl (g.2.2.2.1, cap, .inl a)), (q2, .inl (g.2.1, 4, .inl z4))] ++ Wo) → va_S A s.heap H locs → W p l e ({ frames := 7, cells := 3100, slots := 35000, locals := 160 } : Room) s m args below meth c H locs ((227 + 252 * i) + k0) ((1320 + 2688 * i) + 2 * cap) Q (F0 m 218 ls []) := by
        intro qq
        induction qq with
        | zero =>
          intro q b v cap k0 a z4 Wo H locs ls hiqq hB hz hR hl hP hD hS
          have eq4 : q = 4 := by omega
          obtain ⟨hk1, -⟩ := us_B_k hB (Nat.le_trans (ut_tell_len hI hi0) (by omega))
          have hq1 := hB.2.2.2.2
          have hl1 : ((ut_tell f i) : List Nat).length ≤ 128 := (ut_tell_len hI hi0)
          refine lv_iload hx hb dL_ropes_218 (lv_at hl 0 rfl) ?_
          refine lv_iconst (v := 4) hx hb dL_ropes_220 (by decide) ?_
          refine lv_icmp_ge (tgt := 247) hx hb dL_ropes_221 (by decide) (fun _ => ?_) (fun cc => absurd (nI_le (a := 4) (by omega) (by omega)) cc)
          rw [eq4] at hz
          refine lv_iload_n hx hb dL_ropes_247 rfl (lv_at hl 5 rfl) ?_
          refine lv_aload_n hx hb dL_ropes_248 rfl (lv_at hl 6 rfl) ?_
          refine lv_iload hx hb dL_ropes_249 (lv_at hl 3 rfl) ?_
          refine lv_iconst (v := 2) hx hb dL_ropes_251 (by decide) ?_
          have hpm : List.Perm (([(b, .inr (1, [.ref v, .int 0, .int 0, .int (nI (ut_tell f i).length)])), (v, .inl (g.2.2.2.1, cap, .inl a)), (q2, .inl (g.2.1, 4, .inl z4))] ++ Wo) : va_W) (Wo ++ [(b, .inr (1, [.ref v, .int 0, .int 0, .int (nI (ut_tell f i).length)])), (v, .inl (g.2.2.2.1, cap, .inl a)), (q2, .inl (g.2.1, 4, .inl z4))]) := List.perm_append_comm
          have hFc := ub_freeP hD hS hA hpm
          obtain ⟨hPc, hDc⟩ := ub_subP hP hD hpm
          refine us_calli (va_runV (As := [.int (nI i), .int 2]) (rest := [.int (nI (um_sum (fun r => f (13 + 6 * r)) i))]) ⟨hx, hb, hml, hown, hts⟩ (uo_ropeOf l g hR (x := (nI i)) (v := 2)) (cwV 2 hts gu_RL_100 rfl rfl rfl ⟨rfl, uhX8_ropeOf⟩ ⟨Nat.le_of_ble_eq_true rfl, Nat.le_of_ble_eq_true rfl⟩) (us_preO hR hZ hS hFc hPc hDc hK hN) rfl rfl hl.1 rfl (lv_room (Nat.le_of_ble_eq_true rfl)) dL_ropes_252 ⟨Nat.le_trans (Nat.le_of_eq (Nat.add_zero _)) (by show ((227 + 252 * i) + k0) ≤ 3100; omega), Nat.le_trans (Nat.le_of_eq (Nat.add_zero _)) (by show ((1320 + 2688 * i) + 2 * cap) ≤ 35000; omega)⟩) hP hD hS hA hpm (fun r Wo20 H locs hpost hP hD hS => ?_)
          have hP : va_P g.1 vwCl ([(b, .inr (1, [.ref v, .int 0, .int 0, .int (nI (ut_tell f i).length)])), (v, .inl (g.2.2.2.1, cap, .inl a)), (q2, .inl (g.2.1, 4, .inl z4))] ++ Wo20) H := ub_P_perm List.perm_append_comm hP
          have hD : va_D A ([(b, .inr (1, [.ref v, .int 0, .int 0, .int (nI (ut_tell f i).length)])), (v, .inl (g.2.2.2.1, cap, .inl a)), (q2, .inl (g.2.1, 4, .inl z4))] ++ Wo20) := ub_D_perm List.perm_append_comm hD
          obtain ⟨hr, hR⟩ := hpost
          have er : r = nI (f (13 + 6 * i)) := hr.trans ((uw_ropeOf (i := 2) hI hi0 (by decide)).trans (congrArg nI (congrArg f (by omega))))
          rw [er]
          refine lv_iadd hx hb dL_ropes_255 ?_
          refine us_topi (x := nI (um_sum (fun r => f (13 + 6 * r)) (i + 1))) (nI_add _ _) ?_
          refine lv_istore_n (lv' := [(3, .int (nI (um_sum (fun r => f (13 + 6 * r)) (i + 1)))), (8, .int (nI q)), (7, .int (nI (um_cnt (fun k => decide (f (83 + 3 * k) = i)) (f 1)))), (6, .ref b), (5, .int (nI i)), (4, .int la), (0, .ref h0), (1, .int (nI (f 0))), (2, .ref q2)]) hx hb dL_ropes_256 rfl hl (by decide) rfl (fun ls hl => ?_)
          refine lv_aload_n hx hb dL_ropes_257 rfl (lv_at hl 6 rfl) ?_
          refine lv_iload hx hb dL_ropes_258 (lv_at hl 4 rfl) ?_
          have hpm : List.Perm (([(b, .inr (1, [.ref v, .int 0, .int 0, .int (nI (ut_tell f i).length)])), (v, .inl (g.2.2.2.1, cap, .inl a)), (q2, .inl (g.2.1, 4, .inl z4))] ++ Wo20) : va_W) (Wo20 ++ [(b, .inr (1, [.ref v, .int 0, .int 0, .int (nI (ut_tell f i).length)])), (v, .inl (g.2.2.2.1, cap, .inl a)), (q2, .inl (g.2.1, 4, .inl z4))]) := List.perm_append_comm
          have hFc := ub_freeP hD hS hA hpm
          obtain ⟨hPc, hDc⟩ := ub_subP hP hD hpm
          refine us_calli (va_runV (As := [.int (nI i)]) (rest := []) ⟨hx, hb, hml, hown, hts⟩ (uo_rustiest l g hR (x := (nI i))) (cwV 1 hts gu_RL_126 rfl rfl rfl ⟨rfl, uhX8_rustiest⟩ ⟨Nat.le_of_ble_eq_true rfl, Nat.le_of_ble_eq_true rfl⟩) (us_preO hR hZ hS hFc hPc hDc hK hN) rfl rfl hl.1 rfl (lv_room (Nat.le_of_ble_eq_true rfl)) dL_ropes_260 ⟨Nat.le_trans (Nat.le_of_eq (Nat.add_zero _)) (by show ((227 + 252 * i) + k0) ≤ 3100; omega), Nat.le_trans (Nat.le_of_eq (Nat.add_zero _)) (by show ((1320 + 2688 * i) + 2 * cap) ≤ 35000; omega)⟩) hP hD hS hA hpm (fun r Wo21 H locs hpost hP hD hS => ?_)
          have hP : va_P g.1 vwCl ([(b, .inr (1, [.ref v, .int 0, .int 0, .int (nI (ut_tell f i).length)])), (v, .inl (g.2.2.2.1, cap, .inl a)), (q2, .inl (g.2.1, 4, .inl z4))] ++ Wo21) H := ub_P_perm List.perm_append_comm hP
          have hD : va_D A ([(b, .inr (1, [.ref v, .int 0, .int 0, .int (nI (ut_tell f i).length)])), (v, .inl (g.2.2.2.1, cap, .inl a)), (q2, .inl (g.2.1, 4, .inl z4))] ++ Wo21) := ub_D_perm List.perm_append_comm hD
          obtain ⟨hr, hR⟩ := hpost
          have er : r = nI rk := hr.trans k3
          rw [er]
          refine lv_istore (lv' := [(8, .int (nI rk)), (3, .int (nI (um_sum (fun r => f (13 + 6 * r)) (i + 1)))), (7, .int (nI (um_cnt (fun k => decide (f (83 + 3 * k) = i)) (f 1)))), (6, .ref b), (5, .int (nI i)), (4, .int la), (0, .ref h0), (1, .int (nI (f 0))), (2, .ref q2)]) hx hb dL_ropes_263 hl (by decide) rfl (fun ls hl => ?_)
          have J318 : ∀ (by0 : Int32) (Wo : va_W) (H : Heap) (locs : List Loc) (ls : Array Slot), ¬ by0 < 0 → (by0 = 0 → ¬ nI rk < la) → uo_W g h0 k f hist sv lr ld L Wo → lv_has ls 11 [(9, .int by0), (8, .int (nI rk)), (7, .int (nI (um_cnt (fun k => decide (f (83 + 3 * k) = i)) (f 1)))), (3, .int (nI (um_sum (fun r => f (13 + 6 * r)) (i + 1)))), (6, .ref b), (5, .int (nI i)), (4, .int la), (0, .ref h0), (1, .int (nI (f 0))), (2, .ref q2)] → va_P g.1 vwCl ([(b, .inr (1, [.ref v, .int 0, .int 0, .int (nI (ut_tell f i).length)])), (v, .inl (g.2.2.2.1, cap, .inl a)), (q2, .inl (g.2.1, 4, .inl z4))] ++ Wo) H → va_D A ([(b, .inr (1, [.ref v, .int 0, .int 0, .int (nI (ut_tell f i).length)])), (v, .inl (g.2.2.2.1, cap, .inl a)), (q2, .inl (g.2.1, 4, .inl z4))] ++ Wo) → va_S A s.heap H locs → W p l e ({ frames := 7, cells := 3100, slots := 35000, locals := 160 } : Room) s m args below meth c H locs ((227 + 252 * i) + k0) ((1320 + 2688 * i) + 2 * cap) Q (F0 m 318 ls []) := by
            intro by0 Wo H locs ls hby hge hR hl hP hD hS
            have J362 : ∀ (Wo : va_W) (H : Heap) (locs : List Loc) (ls : Array Slot), uo_W g h0 k f hist sv lr ld L Wo → lv_has ls 11 [(10, .int 1), (9, .int by0), (8, .int (nI rk)), (7, .int (nI (um_cnt (fun k => decide (f (83 + 3 * k) = i)) (f 1)))), (3, .int (nI (um_sum (fun r => f (13 + 6 * r)) (i + 1)))), (6, .ref b), (5, .int (nI i)), (4, .int la), (0, .ref h0), (1, .int (nI (f 0))), (2, .ref q2)] → va_P g.1 vwCl ([(b, .inr (1, [.ref v, .int 0, .int 0, .int (nI (ut_tell f i).length)])), (v, .inl (g.2.2.2.1, cap, .inl a)), (q2, .inl (g.2.1, 4, .inl z4))] ++ Wo) H → va_D A ([(b, .inr (1, [.ref v, .int 0, .int 0, .int (nI (ut_tell f i).length)])), (v, .inl (g.2.2.2.1, cap, .inl a)), (q2, .inl (g.2.1, 4, .inl z4))] ++ Wo) → va_S A s.heap H locs → W p l e ({ frames := 7, cells := 3100, slots := 35000, locals := 160 } : Room) s m args below meth c H locs ((227 + 252 * i) + k0) ((1320 + 2688 * i) + 2 * cap) Q (F0 m 362 ls []) := by
              intro Wo H locs ls hR hl hP hD hS
              have J379 : ∀ (Wo : va_W) (H : Heap) (locs : List Loc) (ls : Array Slot), uo_W g h0 k f hist sv lr ld L Wo → lv_has ls 11 [(10, .int 1), (8, .int (nI rk)), (7, .int (nI (um_cnt (fun k => decide (f (83 + 3 * k) = i)) (f 1)))), (3, .int (nI (um_sum (fun r => f (13 + 6 * r)) (i + 1)))), (6, .ref b), (5, .int (nI i)), (4, .int la), (0, .ref h0), (1, .int (nI (f 0))), (2, .ref q2)] → va_P g.1 vwCl ([(b, .inr (1, [.ref v, .int 0, .int 0, .int (nI (ut_tell f i).length)])), (v, .inl (g.2.2.2.1, cap, .inl a)), (q2, .inl (g.2.1, 4, .inl z4))] ++ Wo) H → va_D A ([(b, .inr (1, [.ref v, .int 0, .int 0, .int (nI (ut_tell f i).length)])), (v, .inl (g.2.2.2.1, cap, .inl a)), (q2, .inl (g.2.1, 4, .inl z4))] ++ Wo) → va_S A s.heap H locs → W p l e ({ frames := 7, cells := 3100, slots := 35000, locals := 160 } : Room) s m args below meth c H locs ((227 + 252 * i) + k0) ((1320 + 2688 * i) + 2 * cap) Q (F0 m 379 ls []) := by
                intro Wo H locs ls hR hl hP hD hS
                refine lv_iload hx hb dL_ropes_379 (lv_at hl 0 rfl) ?_
                refine lv_if_eq (tgt := 440) hx hb dL_ropes_381 (by decide) (fun cc => absurd cc (show ¬ (1 : Int32) = 0 by decide)) (fun _ => ?_)
                refine lv_aload_n hx hb dL_ropes_384 rfl (lv_at hl 7 rfl) ?_
                refine lv_iload hx hb dL_ropes_385 (lv_at hl 5 rfl) ?_
                refine lv_bipush (v := 6) hx hb dL_ropes_387 (by decide) ?_
                have hpm : List.Perm (([(b, .inr (1, [.ref v, .int 0, .int 0, .int (nI (ut_tell f i).length)])), (v, .inl (g.2.2.2.1, cap, .inl a)), (q2, .inl (g.2.1, 4, .inl z4))] ++ Wo) : va_W) (Wo ++ [(b, .inr (1, [.ref v, .int 0, .int 0, .int (nI (ut_tell f i).length)])), (v, .inl (g.2.2.2.1, cap, .inl a)), (q2, .inl (g.2.1, 4, .inl z4))]) := List.perm_append_comm
                have hFc := ub_freeP hD hS hA hpm
                obtain ⟨hPc, hDc⟩ := ub_subP hP hD hpm
                refine us_calli (va_runV (As := [.int (nI i), .int 6]) (rest := []) ⟨hx, hb, hml, hown, hts⟩ (uo_ropeOf l g hR (x := (nI i)) (v := 6)) (cwV 2 hts gu_RL_100 rfl rfl rfl ⟨rfl, uhX8_ropeOf⟩ ⟨Nat.le_of_ble_eq_true rfl, Nat.le_of_ble_eq_true rfl⟩) (us_preO hR hZ hS hFc hPc hDc hK hN) rfl rfl hl.1 rfl (lv_room (Nat.le_of_ble_eq_true rfl)) dL_ropes_389 ⟨Nat.le_trans (Nat.le_of_eq (Nat.add_zero _)) (by show ((227 + 252 * i) + k0) ≤ 3100; omega), Nat.le_trans (Nat.le_of_eq (Nat.add_zero _)) (by show ((1320 + 2688 * i) + 2 * cap) ≤ 35000; omega)⟩) hP hD hS hA hpm (fun r Wo22 H locs hpost hP hD hS => ?_)
                have hP : va_P g.1 vwCl ([(b, .inr (1, [.ref v, .int 0, .int 0, .int (nI (ut_tell f i).length)])), (v, .inl (g.2.2.2.1, cap, .inl a)), (q2, .inl (g.2.1, 4, .inl z4))] ++ Wo22) H := ub_P_perm List.perm_append_comm hP
                have hD : va_D A ([(b, .inr (1, [.ref v, .int 0, .int 0, .int (nI (ut_tell f i).length)])), (v, .inl (g.2.2.2.1, cap, .inl a)), (q2, .inl (g.2.1, 4, .inl z4))] ++ Wo22) := ub_D_perm List.perm_append_comm hD
                obtain ⟨hr, hR⟩ := hpost
                have er : r = nI (um_cnt (fun k => decide (f (83 + 3 * k) = i)) (f 1)) := hr.trans (uw_ropeOf6 hI hi0)
                rw [er]
                refine lv_iload hx hb dL_ropes_392 (lv_at hl 2 rfl) ?_
                refine lv_icmp_ne (tgt := 440) hx hb dL_ropes_394 (by decide) (fun cc => absurd rfl cc) (fun _ => ?_)
                refine lv_aload_n hx hb dL_ropes_397 rfl (lv_at hl 7 rfl) ?_
                refine lv_iload hx hb dL_ropes_398 (lv_at hl 5 rfl) ?_
                refine lv_iconst (v := 2) hx hb dL_ropes_400 (by decide) ?_
                have hpm : List.Perm (([(b, .inr (1, [.ref v, .int 0, .int 0, .int (nI (ut_tell f i).length)])), (v, .inl (g.2.2.2.1, cap, .inl a)), (q2, .inl (g.2.1, 4, .inl z4))] ++ Wo22) : va_W) (Wo22 ++ [(b, .inr (1, [.ref v, .int 0, .int 0, .int (nI (ut_tell f i).length)])), (v, .inl (g.2.2.2.1, cap, .inl a)), (q2, .inl (g.2.1, 4, .inl z4))]) := List.perm_append_comm
                have hFc := ub_freeP hD hS hA hpm
                obtain ⟨hPc, hDc⟩ := ub_subP hP hD hpm
                refine us_calli (va_runV (As := [.int (nI i), .int 2]) (rest := []) ⟨hx, hb, hml, hown, hts⟩ (uo_ropeOf l g hR (x := (nI i)) (v := 2)) (cwV 2 hts gu_RL_100 rfl rfl rfl ⟨rfl, uhX8_ropeOf⟩ ⟨Nat.le_of_ble_eq_true rfl, Nat.le_of_ble_eq_true rfl⟩) (us_preO hR hZ hS hFc hPc hDc hK hN) rfl rfl hl.1 rfl (lv_room (Nat.le_of_ble_eq_true rfl)) dL_ropes_401 ⟨Nat.le_trans (Nat.le_of_eq (Nat.add_zero _)) (by show ((227 + 252 * i) + k0) ≤ 3100; omega), Nat.le_trans (Nat.le_of_eq (Nat.add_zero _)) (by show ((1320 + 2688 * i) + 2 * cap) ≤ 35000; omega)⟩) hP hD hS hA hpm (fun r Wo23 H locs hpost hP hD hS => ?_)
                have hP : va_P g.1 vwCl ([(b, .inr (1, [.ref v, .int 0, .int 0, .int (nI (ut_tell f i).length)])), (v, .inl (g.2.2.2.1, cap, .inl a)), (q2, .inl (g.2.1, 4, .inl z4))] ++ Wo23) H := ub_P_perm List.perm_append_comm hP
                have hD : va_D A ([(b, .inr (1, [.ref v, .int 0, .int 0, .int (nI (ut_tell f i).length)])), (v, .inl (g.2.2.2.1, cap, .inl a)), (q2, .inl (g.2.1, 4, .inl z4))] ++ Wo23) := ub_D_perm List.perm_append_comm hD
                obtain ⟨hr, hR⟩ := hpost
                have er : r = nI (f (13 + 6 * i)) := hr.trans ((uw_ropeOf (i := 2) hI hi0 (by decide)).trans (congrArg nI (congrArg f (by omega))))
                rw [er]
                refine lv_if_lt (tgt := 440) hx hb dL_ropes_404 (by decide) (fun cc => absurd cc (nI_pos (by omega))) (fun _ => ?_)
                refine lv_aload_n hx hb dL_ropes_407 rfl (lv_at hl 7 rfl) ?_
                refine lv_iload hx hb dL_ropes_408 (lv_at hl 5 rfl) ?_
                refine lv_iconst (v := 2) hx hb dL_ropes_410 (by decide) ?_
                have hpm : List.Perm (([(b, .inr (1, [.ref v, .int 0, .int 0, .int (nI (ut_tell f i).length)])), (v, .inl (g.2.2.2.1, cap, .inl a)), (q2, .inl (g.2.1, 4, .inl z4))] ++ Wo23) : va_W) (Wo23 ++ [(b, .inr (1, [.ref v, .int 0, .int 0, .int (nI (ut_tell f i).length)])), (v, .inl (g.2.2.2.1, cap, .inl a)), (q2, .inl (g.2.1, 4, .inl z4))]) := List.perm_append_comm
                have hFc := ub_freeP hD hS hA hpm
                obtain ⟨hPc, hDc⟩ := ub_subP hP hD hpm
                refine us_calli (va_runV (As := [.int (nI i), .int 2]) (rest := []) ⟨hx, hb, hml, hown, hts⟩ (uo_ropeOf l g hR (x := (nI i)) (v := 2)) (cwV 2 hts gu_RL_100 rfl rfl rfl ⟨rfl, uhX8_ropeOf⟩ ⟨Nat.le_of_ble_eq_true rfl, Nat.le_of_ble_eq_true rfl⟩) (us_preO hR hZ hS hFc hPc hDc hK hN) rfl rfl hl.1 rfl (lv_room (Nat.le_of_ble_eq_true rfl)) dL_ropes_411 ⟨Nat.le_trans (Nat.le_of_eq (Nat.add_zero _)) (by show ((227 + 252 * i) + k0) ≤ 3100; omega), Nat.le_trans (Nat.le_of_eq (Nat.add_zero _)) (by show ((1320 + 2688 * i) + 2 * cap) ≤ 35000; omega)⟩) hP hD hS hA hpm (fun r Wo24 H locs hpost hP hD hS => ?_)
                have hP : va_P g.1 vwCl ([(b, .inr (1, [.ref v, .int 0, .int 0, .int (nI (ut_tell f i).length)])), (v, .inl (g.2.2.2.1, cap, .inl a)), (q2, .inl (g.2.1, 4, .inl z4))] ++ Wo24) H := ub_P_perm List.perm_append_comm hP
                have hD : va_D A ([(b, .inr (1, [.ref v, .int 0, .int 0, .int (nI (ut_tell f i).length)])), (v, .inl (g.2.2.2.1, cap, .inl a)), (q2, .inl (g.2.1, 4, .inl z4))] ++ Wo24) := ub_D_perm List.perm_append_comm hD
                obtain ⟨hr, hR⟩ := hpost
                have er : r = nI (f (13 + 6 * i)) := hr.trans ((uw_ropeOf (i := 2) hI hi0 (by decide)).trans (congrArg nI (congrArg f (by omega))))
                rw [er]
                refine lv_bipush (v := 9) hx hb dL_ropes_414 (by decide) ?_
                refine lv_icmp_gt (tgt := 440) hx hb dL_ropes_416 (by decide) (fun cc => absurd cc (nI_nlt (a := 9) (b := f (13 + 6 * i)) (by omega) (by decide))) (fun _ => ?_)
                refine lv_aload_n hx hb dL_ropes_419 rfl (lv_at hl 7 rfl) ?_
                refine lv_aload_n hx hb dL_ropes_420 rfl (lv_at hl 7 rfl) ?_
                refine lv_iload hx hb dL_ropes_421 (lv_at hl 5 rfl) ?_
                have et : ux_tell f L (nI i) = (nI (ut_tell f i).length, ut_tell f i) := by unfold ux_tell; rw [if_pos (uw_in (by omega) (by omega)), nI_clamp (by omega)]
                have hpm : List.Perm (([(b, .inr (1, [.ref v, .int 0, .int 0, .int (nI (ut_tell f i).length)])), (v, .inl (g.2.2.2.1, cap, .inl a)), (q2, .inl (g.2.1, 4, .inl z4))] ++ Wo24) : va_W) (Wo24 ++ [(b, .inr (1, [.ref v, .int 0, .int 0, .int (nI (ut_tell f i).length)])), (v, .inl (g.2.2.2.1, cap, .inl a)), (q2, .inl (g.2.1, 4, .inl z4))]) := List.perm_append_comm
                have hFc := ub_freeP hD hS hA hpm
                obtain ⟨hPc, hDc⟩ := ub_subP hP hD hpm
                refine us_calli (va_runV (As := [.int (nI i)]) (rest := [.ref h0]) ⟨hx, hb, hml, hown, hts⟩ (uo_tell l g hR (x := (nI i))) (cwV 1 hts gu_RL_90 rfl rfl rfl ⟨rfl, uhX8_tell⟩ ⟨Nat.le_of_ble_eq_true rfl, Nat.le_of_ble_eq_true rfl⟩) (us_preO hR hZ hS hFc hPc hDc hK hN) rfl rfl hl.1 rfl (lv_room (Nat.le_of_ble_eq_true rfl)) dL_ropes_423 ⟨Nat.le_trans (Nat.le_of_eq (Nat.add_zero _)) (by show ((227 + 252 * i) + k0) ≤ 3100; omega), Nat.le_trans (Nat.le_of_eq (Nat.add_zero _)) (by show ((1320 + 2688 * i) + 2 * cap) ≤ 35000; omega)⟩) hP hD hS hA hpm (fun r Wo25 H locs hpost hP hD hS => ?_)
                have hP : va_P g.1 vwCl ([(b, .inr (1, [.ref v, .int 0, .int 0, .int (nI (ut_tell f i).length)])), (v, .inl (g.2.2.2.1, cap, .inl a)), (q2, .inl (g.2.1, 4, .inl z4))] ++ Wo25) H := ub_P_perm List.perm_append_comm hP
                have hD : va_D A ([(b, .inr (1, [.ref v, .int 0, .int 0, .int (nI (ut_tell f i).length)])), (v, .inl (g.2.2.2.1, cap, .inl a)), (q2, .inl (g.2.1, 4, .inl z4))] ++ Wo25) := ub_D_perm List.perm_append_comm hD
                obtain ⟨hr, hR⟩ := hpost
                have er : r = nI (ut_tell f i).length := by rw [hr, et]
                rw [er]
                rw [et] at hR
                have hR : uo_W g h0 k f hist sv lr ld (ut_tell f i) Wo25 := hR
                have hLn := (uo_W_len hR).1
                have hLc := ut_tell_lt hI hi0
                have hpm : List.Perm (([(b, .inr (1, [.ref v, .int 0, .int 0, .int (nI (ut_tell f i).length)])), (v, .inl (g.2.2.2.1, cap, .inl a)), (q2, .inl (g.2.1, 4, .inl z4))] ++ Wo25) : va_W) (Wo25 ++ [(b, .inr (1, [.ref v, .int 0, .int 0, .int (nI (ut_tell f i).length)])), (v, .inl (g.2.2.2.1, cap, .inl a)), (q2, .inl (g.2.1, 4, .inl z4))]) := List.perm_append_comm
                have hFc := ub_freeP hD hS hA hpm
                obtain ⟨hPc, hDc⟩ := ub_subP hP hD hpm
                refine us_callr (va_runS (As := [.ref h0, .int (nI (ut_tell f i).length)]) (rest := []) ⟨hx, hb, hml, hown, hts⟩ (ul_line l g hR hLn hLc) (va_cwS 2 hts gu_RL_93 rfl rfl rfl us_hL_line ⟨Nat.le_of_ble_eq_true rfl, Nat.le_of_ble_eq_true rfl⟩) (us_preS hZ hS hFc hPc hDc hK hN) rfl rfl hl.1 rfl (lv_room (Nat.le_of_ble_eq_true rfl)) dL_ropes_426 ⟨by show ((227 + 252 * i) + k0) + 14 ≤ 3100; omega, by show ((1320 + 2688 * i) + 2 * cap) + (20 + 5 * 128 + 36) ≤ 35000; omega⟩) hP hD hS hA hpm (fun r0 u H locs hpost hP hD hS => ?_)
                obtain ⟨Wo26, v0, a0, rfl, hR, hT0⟩ := hpost
                have hP : va_P g.1 vwCl ([(b, .inr (1, [.ref v, .int 0, .int 0, .int (nI (ut_tell f i).length)])), (v, .inl (g.2.2.2.1, cap, .inl a)), (q2, .inl (g.2.1, 4, .inl z4)), (r0, .inr (0, [.ref v0, .int 0, .int 0, .int 0])), (v0, .inl (g.2.2.2.1, ((ut_tell f i).length), .inl a0))] ++ Wo26) H := ub_P_perm us_pl hP
                have hD : va_D A ([(b, .inr (1, [.ref v, .int 0, .int 0, .int (nI (ut_tell f i).length)])), (v, .inl (g.2.2.2.1, cap, .inl a)), (q2, .inl (g.2.1, 4, .inl z4)), (r0, .inr (0, [.ref v0, .int 0, .int 0, .int 0])), (v0, .inl (g.2.2.2.1, ((ut_tell f i).length), .inl a0))] ++ Wo26) := ub_D_perm us_pl hD
                refine W.widen (k := ((227 + 252 * i) + 14) + k0) (n := ((1320 + 2688 * i) + (20 + 5 * 128 + 36)) + 2 * cap) (by omega) (by omega) ?_
                refine lv_aload hx hb dL_ropes_429 (lv_at hl 4 rfl) ?_
                refine us_sbT (base := ((227 + 252 * i) + 14)) (bs := ((1320 + 2688 * i) + (20 + 5 * 128 + 36))) K0 hl.1 hP hD hS (List.Perm.refl _) hB (by omega) (Nat.le_of_ble_eq_true rfl) (Nat.le_of_ble_eq_true rfl) (by show ((227 + 252 * i) + 14) + 12 ≤ 3100; omega) (by show ((1320 + 2688 * i) + (20 + 5 * 128 + 36)) + 5 * _ + 36 ≤ 35000; omega) (Nat.le_of_ble_eq_true rfl) dL_ropes_431 (fun r2 v2 a2 H locs hT2 hP hD hS => ?_)
                have hP : va_P g.1 vwCl ([(r2, .inr (0, [.ref v2, .int 0, .int 0, .int 0])), (v2, .inl (g.2.2.2.1, ((ut_tell f i).length), .inl a2)), (q2, .inl (g.2.1, 4, .inl z4)), (r0, .inr (0, [.ref v0, .int 0, .int 0, .int 0])), (v0, .inl (g.2.2.2.1, ((ut_tell f i).length), .inl a0))] ++ Wo26) H := hP
                have hD : va_D A ([(r2, .inr (0, [.ref v2, .int 0, .int 0, .int 0])), (v2, .inl (g.2.2.2.1, ((ut_tell f i).length), .inl a2)), (q2, .inl (g.2.1, 4, .inl z4)), (r0, .inr (0, [.ref v0, .int 0, .int 0, .int 0])), (v0, .inl (g.2.2.2.1, ((ut_tell f i).length), .inl a0))] ++ Wo26) := hD
                have hpm : List.Perm (([(r2, .inr (0, [.ref v2, .int 0, .int 0, .int 0])), (v2, .inl (g.2.2.2.1, ((ut_tell f i).length), .inl a2)), (q2, .inl (g.2.1, 4, .inl z4)), (r0, .inr (0, [.ref v0, .int 0, .int 0, .int 0])), (v0, .inl (g.2.2.2.1, ((ut_tell f i).length), .inl a0))] ++ Wo26) : va_W) ([(r0, .inr (0, [.ref v0, .int 0, .int 0, .int 0])), (v0, .inl (g.2.2.2.1, ((ut_tell f i).length), .inl a0)), (r2, .inr (0, [.ref v2, .int 0, .int 0, .int 0])), (v2, .inl (g.2.2.2.1, ((ut_tell f i).length), .inl a2))] ++ ([(q2, .inl (g.2.1, 4, .inl z4))] ++ Wo26)) := uo_P0 (ub_permN (ws := [(r2, .inr (0, [.ref v2, .int 0, .int 0, .int 0])), (v2, .inl (g.2.2.2.1, ((ut_tell f i).length), .inl a2)), (q2, .inl (g.2.1, 4, .inl z4)), (r0, .inr (0, [.ref v0, .int 0, .int 0, .int 0])), (v0, .inl (g.2.2.2.1, ((ut_tell f i).length), .inl a0))]) (ws' := [(r0, .inr (0, [.ref v0, .int 0, .int 0, .int 0])), (v0, .inl (g.2.2.2.1, ((ut_tell f i).length), .inl a0)), (r2, .inr (0, [.ref v2, .int 0, .int 0, .int 0])), (v2, .inl (g.2.2.2.1, ((ut_tell f i).length), .inl a2))] ++ [(q2, .inl (g.2.1, 4, .inl z4))]) 5 rfl [3, 4, 0, 1, 2] (by decide) rfl)
                have hFc := ub_freeP hD hS hA hpm
                obtain ⟨hPc, hDc⟩ := ub_subP hP hD hpm
                refine us_calli (va_runV (As := [.ref r2]) (rest := []) ⟨hx, hb, hml, hown, hts⟩ (uj_equals l g (n := (ut_tell f i).length) (by omega) (fun y hy => (hT0.2 y hy).trans (hT2.2 y hy).symm)) (cwV 1 hts gu_RL_132 rfl rfl rfl ⟨rfl, us_hJ0_equals_9ea2d⟩ ⟨Nat.le_of_ble_eq_true rfl, Nat.le_of_ble_eq_true rfl⟩) (us_preV hZ hS hFc hPc hDc hK hN 0 (ci := 0) rfl rfl rfl) rfl rfl hl.1 rfl (lv_room (Nat.le_of_ble_eq_true rfl)) dL_ropes_434 ⟨Nat.le_trans (Nat.le_of_eq (Nat.add_zero _)) (by show (((227 + 252 * i) + 14) + 12) ≤ 3100; omega), Nat.le_trans (Nat.le_of_eq (Nat.add_zero _)) (by show (((1320 + 2688 * i) + (20 + 5 * 128 + 36)) + 5 * (ut_tell f i).length + 36) ≤ 35000; omega)⟩) hP hD hS hA hpm (fun r u H locs hpost hP hD hS => ?_)
                obtain ⟨rfl, rfl⟩ := hpost
                have hP : va_P g.1 vwCl ([(r0, .inr (0, [.ref v0, .int 0, .int 0, .int 0])), (v0, .inl (g.2.2.2.1, ((ut_tell f i).length), .inl a0)), (r2, .inr (0, [.ref v2, .int 0, .int 0, .int 0])), (v2, .inl (g.2.2.2.1, ((ut_tell f i).length), .inl a2)), (q2, .inl (g.2.1, 4, .inl z4))] ++ Wo26) H := hP
                have hD : va_D A ([(r0, .inr (0, [.ref v0, .int 0, .int 0, .int 0])), (v0, .inl (g.2.2.2.1, ((ut_tell f i).length), .inl a0)), (r2, .inr (0, [.ref v2, .int 0, .int 0, .int 0])), (v2, .inl (g.2.2.2.1, ((ut_tell f i).length), .inl a2)), (q2, .inl (g.2.1, 4, .inl z4))] ++ Wo26) := hD
                refine lv_if_ne (tgt := 442) hx hb dL_ropes_437 (by decide) (fun _ => ?_) (fun cc => absurd cc (show ¬ (1 : Int32) = 0 by decide))
                refine lv_iload hx hb dL_ropes_442 (lv_at hl 1 rfl) ?_
                refine lv_istore (lv' := [(4, .int (nI rk)), (10, .int 1), (8, .int (nI rk)), (7, .int (nI (um_cnt (fun k => decide (f (83 + 3 * k) = i)) (f 1)))), (3, .int (nI (um_sum (fun r => f (13 + 6 * r)) (i + 1)))), (6, .ref b), (5, .int (nI i)), (0, .ref h0), (1, .int (nI (f 0))), (2, .ref q2)]) hx hb dL_ropes_444 hl (by decide) rfl (fun ls hl => ?_)
                refine lv_iinc (v := nI i + 1) (lv' := [(5, .int (nI i + 1)), (4, .int (nI rk)), (10, .int 1), (8, .int (nI rk)), (7, .int (nI (um_cnt (fun k => decide (f (83 + 3 * k) = i)) (f 1)))), (3, .int (nI (um_sum (fun r => f (13 + 6 * r)) (i + 1)))), (6, .ref b), (0, .ref h0), (1, .int (nI (f 0))), (2, .ref q2)]) hx hb dL_ropes_446 hl (k := 6) rfl rfl (by decide) rfl (fun ls hl => ?_)
                refine lv_goto (tgt := 18) hx hb dL_ropes_449 (by decide) ?_
                rw [nI_1] at hl
                have hP : va_P g.1 vwCl ([(q2, .inl (g.2.1, 4, .inl z4))] ++ Wo26) H := us_keepP (List.Sublist.cons _ (List.Sublist.cons _ (List.Sublist.cons _ (List.Sublist.cons _ (List.Sublist.cons₂ _ List.Sublist.slnil))))) hP
                have hD : va_D A ([(q2, .inl (g.2.1, 4, .inl z4))] ++ Wo26) := us_keepD (List.Sublist.cons _ (List.Sublist.cons _ (List.Sublist.cons _ (List.Sublist.cons _ (List.Sublist.cons₂ _ List.Sublist.slnil))))) hD
                refine W.widen (k := 1 + 252 * (i + 1)) (n := 4 + 2688 * (i + 1)) (by omega) (by omega) ?_
                exact ih (i + 1) z4 (nI rk) (ut_tell f i) Wo26 _ _ ls (by omega) (fun y hy => by rw [hz y hy, if_pos hy]) (Or.inr ⟨rk, k1, by omega, rfl⟩) hR (lv_sub hl [0, 1, 5, 7, 8, 9] rfl) hP hD hS
              refine lv_iload hx hb dL_ropes_362 (lv_at hl 1 rfl) ?_
              refine lv_if_lt (tgt := 440) hx hb dL_ropes_364 (by decide) (fun cc => absurd cc hby) (fun _ => ?_)
              refine lv_iload hx hb dL_ropes_367 (lv_at hl 1 rfl) ?_
              by_cases hz0 : by0 = 0
              · refine lv_if_ne (tgt := 379) hx hb dL_ropes_369 (by decide) (fun cc => absurd hz0 cc) (fun _ => ?_)
                refine lv_iload hx hb dL_ropes_372 (lv_at hl 2 rfl) ?_
                refine lv_iload hx hb dL_ropes_374 (lv_at hl 7 rfl) ?_
                refine lv_icmp_lt (tgt := 440) hx hb dL_ropes_376 (by decide) (fun cc => absurd cc (hge hz0)) (fun _ => ?_)
                exact J379 Wo _ _ ls hR (lv_sub hl [0, 2, 3, 4, 5, 6, 7, 8, 9, 10] rfl) hP hD hS
              · refine lv_if_ne (tgt := 379) hx hb dL_ropes_369 (by decide) (fun _ => ?_) (fun cc => absurd cc hz0)
                exact J379 Wo _ _ ls hR (lv_sub hl [0, 2, 3, 4, 5, 6, 7, 8, 9, 10] rfl) hP hD hS
            refine lv_aload_n hx hb dL_ropes_318 rfl (lv_at hl 7 rfl) ?_
            refine lv_iload hx hb dL_ropes_319 (lv_at hl 5 rfl) ?_
            refine lv_iconst (v := 5) hx hb dL_ropes_321 (by decide) ?_
            have hpm : List.Perm (([(b, .inr (1, [.ref v, .int 0, .int 0, .int (nI (ut_tell f i).length)])), (v, .inl (g.2.2.2.1, cap, .inl a)), (q2, .inl (g.2.1, 4, .inl z4))] ++ Wo) : va_W) (Wo ++ [(b, .inr (1, [.ref v, .int 0, .int 0, .int (nI (ut_tell f i).length)])), (v, .inl (g.2.2.2.1, cap, .inl a)), (q2, .inl (g.2.1, 4, .inl z4))]) := List.perm_append_comm
            have hFc := ub_freeP hD hS hA hpm
            obtain ⟨hPc, hDc⟩ := ub_subP hP hD hpm
            refine us_calli (va_runV (As := [.int (nI i), .int 5]) (rest := []) ⟨hx, hb, hml, hown, hts⟩ (uo_would l g hR (x := (nI i)) (v := 5)) (cwV 2 hts gu_RL_129 rfl rfl rfl ⟨rfl, uhX8_would⟩ ⟨Nat.le_of_ble_eq_true rfl, Nat.le_of_ble_eq_true rfl⟩) (us_preO hR hZ hS hFc hPc hDc hK hN) rfl rfl hl.1 rfl (lv_room (Nat.le_of_ble_eq_true rfl)) dL_ropes_322 ⟨Nat.le_trans (Nat.le_of_eq (Nat.add_zero _)) (by show ((227 + 252 * i) + k0) ≤ 3100; omega), Nat.le_trans (Nat.le_of_eq (Nat.add_zero _)) (by show ((1320 + 2688 * i) + 2 * cap) ≤ 35000; omega)⟩) hP hD hS hA hpm (fun r Wo27 H locs hpost hP hD hS => ?_)
            have hP : va_P g.1 vwCl ([(b, .inr (1, [.ref v, .int 0, .int 0, .int (nI (ut_tell f i).length)])), (v, .inl (g.2.2.2.1, cap, .inl a)), (q2, .inl (g.2.1, 4, .inl z4))] ++ Wo27) H := ub_P_perm List.perm_append_comm hP
            have hD : va_D A ([(b, .inr (1, [.ref v, .int 0, .int 0, .int (nI (ut_tell f i).length)])), (v, .inl (g.2.2.2.1, cap, .inl a)), (q2, .inl (g.2.1, 4, .inl z4))] ++ Wo27) := ub_D_perm List.perm_append_comm hD
            obtain ⟨hr, hR⟩ := hpost
            have er : r = nI (um_b2n (decide (f (12 + 6 * i) = 1) && decide (f (13 + 6 * i) < 5))) := hr.trans (uw_would (s := 5) hI hi0 (by decide) (by decide))
            rw [er]
            refine lv_aload_n hx hb dL_ropes_325 rfl (lv_at hl 7 rfl) ?_
            refine lv_iload hx hb dL_ropes_326 (lv_at hl 5 rfl) ?_
            refine lv_iconst (v := 1) hx hb dL_ropes_328 (by decide) ?_
            have hpm : List.Perm (([(b, .inr (1, [.ref v, .int 0, .int 0, .int (nI (ut_tell f i).length)])), (v, .inl (g.2.2.2.1, cap, .inl a)), (q2, .inl (g.2.1, 4, .inl z4))] ++ Wo27) : va_W) (Wo27 ++ [(b, .inr (1, [.ref v, .int 0, .int 0, .int (nI (ut_tell f i).length)])), (v, .inl (g.2.2.2.1, cap, .inl a)), (q2, .inl (g.2.1, 4, .inl z4))]) := List.perm_append_comm
            have hFc := ub_freeP hD hS hA hpm
            obtain ⟨hPc, hDc⟩ := ub_subP hP hD hpm
            refine us_calli (va_runV (As := [.int (nI i), .int 1]) (rest := [.int (nI (um_b2n (decide (f (12 + 6 * i) = 1) && decide (f (13 + 6 * i) < 5))))]) ⟨hx, hb, hml, hown, hts⟩ (uo_ropeOf l g hR (x := (nI i)) (v := 1)) (cwV 2 hts gu_RL_100 rfl rfl rfl ⟨rfl, uhX8_ropeOf⟩ ⟨Nat.le_of_ble_eq_true rfl, Nat.le_of_ble_eq_true rfl⟩) (us_preO hR hZ hS hFc hPc hDc hK hN) rfl rfl hl.1 rfl (lv_room (Nat.le_of_ble_eq_true rfl)) dL_ropes_329 ⟨Nat.le_trans (Nat.le_of_eq (Nat.add_zero _)) (by show ((227 + 252 * i) + k0) ≤ 3100; omega), Nat.le_trans (Nat.le_of_eq (Nat.add_zero _)) (by show ((1320 + 2688 * i) + 2 * cap) ≤ 35000; omega)⟩) hP hD hS hA hpm (fun r Wo28 H locs hpost hP hD hS => ?_)
            have hP : va_P g.1 vwCl ([(b, .inr (1, [.ref v, .int 0, .int 0, .int (nI (ut_tell f i).length)])), (v, .inl (g.2.2.2.1, cap, .inl a)), (q2, .inl (g.2.1, 4, .inl z4))] ++ Wo28) H := ub_P_perm List.perm_append_comm hP
            have hD : va_D A ([(b, .inr (1, [.ref v, .int 0, .int 0, .int (nI (ut_tell f i).length)])), (v, .inl (g.2.2.2.1, cap, .inl a)), (q2, .inl (g.2.1, 4, .inl z4))] ++ Wo28) := ub_D_perm List.perm_append_comm hD
            obtain ⟨hr, hR⟩ := hpost
            have er : r = nI (f (12 + 6 * i)) := hr.trans ((uw_ropeOf (i := 1) hI hi0 (by decide)).trans (congrArg nI (congrArg f (by omega))))
            rw [er]
            refine lv_iconst (v := 1) hx hb dL_ropes_332 (by decide) ?_
            by_cases hs1 : f (12 + 6 * i) = 1
            · refine lv_icmp_ne (tgt := 351) hx hb dL_ropes_333 (by decide) (fun cc => absurd (by rw [hs1]; rfl) cc) (fun _ => ?_)
              refine lv_iconst (v := 5) hx hb dL_ropes_336 (by decide) ?_
              refine lv_aload_n hx hb dL_ropes_337 rfl (lv_at hl 7 rfl) ?_
              refine lv_iload hx hb dL_ropes_338 (lv_at hl 5 rfl) ?_
              refine lv_iconst (v := 2) hx hb dL_ropes_340 (by decide) ?_
              have hpm : List.Perm (([(b, .inr (1, [.ref v, .int 0, .int 0, .int (nI (ut_tell f i).length)])), (v, .inl (g.2.2.2.1, cap, .inl a)), (q2, .inl (g.2.1, 4, .inl z4))] ++ Wo28) : va_W) (Wo28 ++ [(b, .inr (1, [.ref v, .int 0, .int 0, .int (nI (ut_tell f i).length)])), (v, .inl (g.2.2.2.1, cap, .inl a)), (q2, .inl (g.2.1, 4, .inl z4))]) := List.perm_append_comm
              have hFc := ub_freeP hD hS hA hpm
              obtain ⟨hPc, hDc⟩ := ub_subP hP hD hpm
              refine us_calli (va_runV (As := [.int (nI i), .int 2]) (rest := [.int 5, .int (nI (um_b2n (decide (f (12 + 6 * i) = 1) && decide (f (13 + 6 * i) < 5))))]) ⟨hx, hb, hml, hown, hts⟩ (uo_ropeOf l g hR (x := (nI i)) (v := 2)) (cwV 2 hts gu_RL_100 rfl rfl rfl ⟨rfl, uhX8_ropeOf⟩ ⟨Nat.le_of_ble_eq_true rfl, Nat.le_of_ble_eq_true rfl⟩) (us_preO hR hZ hS hFc hPc hDc hK hN) rfl rfl hl.1 rfl (lv_room (Nat.le_of_ble_eq_true rfl)) dL_ropes_341 ⟨Nat.le_trans (Nat.le_of_eq (Nat.add_zero _)) (by show ((227 + 252 * i) + k0) ≤ 3100; omega), Nat.le_trans (Nat.le_of_eq (Nat.add_zero _)) (by show ((1320 + 2688 * i) + 2 * cap) ≤ 35000; omega)⟩) hP hD hS hA hpm (fun r Wo29 H locs hpost hP hD hS => ?_)
              have hP : va_P g.1 vwCl ([(b, .inr (1, [.ref v, .int 0, .int 0, .int (nI (ut_tell f i).length)])), (v, .inl (g.2.2.2.1, cap, .inl a)), (q2, .inl (g.2.1, 4, .inl z4))] ++ Wo29) H := ub_P_perm List.perm_append_comm hP
              have hD : va_D A ([(b, .inr (1, [.ref v, .int 0, .int 0, .int (nI (ut_tell f i).length)])), (v, .inl (g.2.2.2.1, cap, .inl a)), (q2, .inl (g.2.1, 4, .inl z4))] ++ Wo29) := ub_D_perm List.perm_append_comm hD
              obtain ⟨hr, hR⟩ := hpost
              have er : r = nI (f (13 + 6 * i)) := hr.trans ((uw_ropeOf (i := 2) hI hi0 (by decide)).trans (congrArg nI (congrArg f (by omega))))
              rw [er]
              by_cases hlt : f (13 + 6 * i) < 5
              · refine lv_icmp_le (tgt := 351) hx hb dL_ropes_344 (by decide) (fun cc => absurd cc (nI_ge (b := 5) hlt (by decide))) (fun _ => ?_)
                refine lv_iconst (v := 1) hx hb dL_ropes_347 (by decide) ?_
                refine lv_goto (tgt := 352) hx hb dL_ropes_348 (by decide) ?_
                refine lv_icmp_ne (tgt := 359) hx hb dL_ropes_352 (by decide) (fun cc => absurd (by rw [decide_eq_true hs1, decide_eq_true hlt]; rfl) cc) (fun _ => ?_)
                refine lv_iconst (v := 1) hx hb dL_ropes_355 (by decide) ?_
                refine lv_goto (tgt := 360) hx hb dL_ropes_356 (by decide) ?_
                refine lv_istore (lv' := [(10, .int 1), (9, .int by0), (8, .int (nI rk)), (7, .int (nI (um_cnt (fun k => decide (f (83 + 3 * k) = i)) (f 1)))), (3, .int (nI (um_sum (fun r => f (13 + 6 * r)) (i + 1)))), (6, .ref b), (5, .int (nI i)), (4, .int la), (0, .ref h0), (1, .int (nI (f 0))), (2, .ref q2)]) hx hb dL_ropes_360 hl (by decide) rfl (fun ls hl => ?_)
                exact J362 Wo29 _ _ ls hR (lv_sub hl [0, 1, 2, 3, 4, 5, 6, 7, 8, 9, 10] rfl) hP hD hS
              · refine lv_icmp_le (tgt := 351) hx hb dL_ropes_344 (by decide) (fun _ => ?_) (fun cc => absurd (nI_le (a := 5) (by omega) (by omega)) cc)
                refine lv_iconst (v := 0) hx hb dL_ropes_351 (by decide) ?_
                refine lv_icmp_ne (tgt := 359) hx hb dL_ropes_352 (by decide) (fun cc => absurd (by rw [decide_eq_false hlt, Bool.and_false]; rfl) cc) (fun _ => ?_)
                refine lv_iconst (v := 1) hx hb dL_ropes_355 (by decide) ?_
                refine lv_goto (tgt := 360) hx hb dL_ropes_356 (by decide) ?_
                refine lv_istore (lv' := [(10, .int 1), (9, .int by0), (8, .int (nI rk)), (7, .int (nI (um_cnt (fun k => decide (f (83 + 3 * k) = i)) (f 1)))), (3, .int (nI (um_sum (fun r => f (13 + 6 * r)) (i + 1)))), (6, .ref b), (5, .int (nI i)), (4, .int la), (0, .ref h0), (1, .int (nI (f 0))), (2, .ref q2)]) hx hb dL_ropes_360 hl (by decide) rfl (fun ls hl => ?_)
                exact J362 Wo29 _ _ ls hR (lv_sub hl [0, 1, 2, 3, 4, 5, 6, 7, 8, 9, 10] rfl) hP hD hS
            · refine lv_icmp_ne (tgt := 351) hx hb dL_ropes_333 (by decide) (fun _ => ?_) (fun cc => absurd cc (fun z => hs1 ((nI_eq (by omega) (by decide) (b := 1)).mp z)))
              refine lv_iconst (v := 0) hx hb dL_ropes_351 (by decide) ?_
              refine lv_icmp_ne (tgt := 359) hx hb dL_ropes_352 (by decide) (fun cc => absurd (by rw [decide_eq_false hs1, Bool.false_and]; rfl) cc) (fun _ => ?_)
              refine lv_iconst (v := 1) hx hb dL_ropes_355 (by decide) ?_
              refine lv_goto (tgt := 360) hx hb dL_ropes_356 (by decide) ?_
              refine lv_istore (lv' := [(10, .int 1), (9, .int by0), (8, .int (nI rk)), (7, .int (nI (um_cnt (fun k => decide (f (83 + 3 * k) = i)) (f 1)))), (3, .int (nI (um_sum (fun r => f (13 + 6 * r)) (i + 1)))), (6, .ref b), (5, .int (nI i)), (4, .int la), (0, .ref h0), (1, .int (nI (f 0))), (2, .ref q2)]) hx hb dL_ropes_360 hl (by decide) rfl (fun ls hl => ?_)
              exact J362 Wo28 _ _ ls hR (lv_sub hl [0, 1, 2, 3, 4, 5, 6, 7, 8, 9, 10] rfl) hP hD hS
          refine lv_iload hx hb dL_ropes_265 (lv_at hl 5 rfl) ?_
          have hl5 := hl4
          rcases hl5 with hl5 | hl5
          · obtain ⟨e1, e2⟩ := hl5
            refine lv_if_ge (tgt := 274) hx hb dL_ropes_267 (by decide) (fun cc => absurd cc (by rw [e2]; decide)) (fun _ => ?_)
            refine lv_iconst (v := 1) hx hb dL_ropes_270 (by decide) ?_
            refine lv_goto (tgt := 289) hx hb dL_ropes_271 (by decide) ?_
            refine lv_istore (lv' := [(9, .int 1), (8, .int (nI rk)), (3, .int (nI (um_sum (fun r => f (13 + 6 * r)) (i + 1)))), (7, .int (nI (um_cnt (fun k => decide (f (83 + 3 * k) = i)) (f 1)))), (6, .ref b), (5, .int (nI i)), (4, .int la), (0, .ref h0), (1, .int (nI (f 0))), (2, .ref q2)]) hx hb dL_ropes_289 hl (by decide) rfl (fun ls hl => ?_)
            refine lv_iload hx hb dL_ropes_291 (lv_at hl 0 rfl) ?_
            refine lv_if_eq (tgt := 301) hx hb dL_ropes_293 (by decide) (fun cc => absurd cc (show ¬ (1 : Int32) = 0 by decide)) (fun _ => ?_)
            refine lv_iload hx hb dL_ropes_296 (lv_at hl 0 rfl) ?_
            refine lv_goto (tgt := 316) hx hb dL_ropes_298 (by decide) ?_
            refine lv_istore (lv' := [(9, .int 1), (8, .int (nI rk)), (3, .int (nI (um_sum (fun r => f (13 + 6 * r)) (i + 1)))), (7, .int (nI (um_cnt (fun k => decide (f (83 + 3 * k) = i)) (f 1)))), (6, .ref b), (5, .int (nI i)), (4, .int la), (0, .ref h0), (1, .int (nI (f 0))), (2, .ref q2)]) hx hb dL_ropes_316 hl (by decide) rfl (fun ls hl => ?_)
            exact J318 1 Wo21 _ _ ls (by decide) (fun z => absurd z (by decide)) hR (lv_sub hl [0, 1, 3, 2, 4, 5, 6, 7, 8, 9] rfl) hP hD hS
          · obtain ⟨rl, e1, e2, e3⟩ := hl5
            refine lv_if_ge (tgt := 274) hx hb dL_ropes_267 (by decide) (fun _ => ?_) (fun cc => absurd (by rw [e3]; exact nI_pos' (by omega)) cc)
            have hNx := ur_next (f := f) (i := rl) (j := rk) (r := i - 1) k1 (by omega) (by omega)
            obtain ⟨w1, w2, w3⟩ := hr9 rl e1
            obtain ⟨y1, y2, y3⟩ := hr9 rk k1
            have o1 := um_I_own hI (show rl < 12 by omega)
            have o2 := um_I_own hI (show rk < 12 by omega)
            refine lv_aload_n hx hb dL_ropes_274 rfl (lv_at hl 6 rfl) ?_
            refine lv_iload hx hb dL_ropes_275 (lv_at hl 5 rfl) ?_
            refine lv_iconst (v := 2) hx hb dL_ropes_277 (by decide) ?_
            have hpm : List.Perm (([(b, .inr (1, [.ref v, .int 0, .int 0, .int (nI (ut_tell f i).length)])), (v, .inl (g.2.2.2.1, cap, .inl a)), (q2, .inl (g.2.1, 4, .inl z4))] ++ Wo21) : va_W) (Wo21 ++ [(b, .inr (1, [.ref v, .int 0, .int 0, .int (nI (ut_tell f i).length)])), (v, .inl (g.2.2.2.1, cap, .inl a)), (q2, .inl (g.2.1, 4, .inl z4))]) := List.perm_append_comm
            have hFc := ub_freeP hD hS hA hpm
            obtain ⟨hPc, hDc⟩ := ub_subP hP hD hpm
            refine us_calli (va_runV (As := [.int la, .int 2]) (rest := []) ⟨hx, hb, hml, hown, hts⟩ (uo_ropeOf l g hR (x := la) (v := 2)) (cwV 2 hts gu_RL_100 rfl rfl rfl ⟨rfl, uhX8_ropeOf⟩ ⟨Nat.le_of_ble_eq_true rfl, Nat.le_of_ble_eq_true rfl⟩) (us_preO hR hZ hS hFc hPc hDc hK hN) rfl rfl hl.1 rfl (lv_room (Nat.le_of_ble_eq_true rfl)) dL_ropes_278 ⟨Nat.le_trans (Nat.le_of_eq (Nat.add_zero _)) (by show ((227 + 252 * i) + k0) ≤ 3100; omega), Nat.le_trans (Nat.le_of_eq (Nat.add_zero _)) (by show ((1320 + 2688 * i) + 2 * cap) ≤ 35000; omega)⟩) hP hD hS hA hpm (fun r Wo30 H locs hpost hP hD hS => ?_)
            have hP : va_P g.1 vwCl ([(b, .inr (1, [.ref v, .int 0, .int 0, .int (nI (ut_tell f i).length)])), (v, .inl (g.2.2.2.1, cap, .inl a)), (q2, .inl (g.2.1, 4, .inl z4))] ++ Wo30) H := ub_P_perm List.perm_append_comm hP
            have hD : va_D A ([(b, .inr (1, [.ref v, .int 0, .int 0, .int (nI (ut_tell f i).length)])), (v, .inl (g.2.2.2.1, cap, .inl a)), (q2, .inl (g.2.1, 4, .inl z4))] ++ Wo30) := ub_D_perm List.perm_append_comm hD
            obtain ⟨hr, hR⟩ := hpost
            have er : r = nI (f (13 + 6 * rl)) := by rw [hr, e3]; exact ((uw_ropeOf (i := 2) hI e1 (by decide)).trans (congrArg nI (congrArg f (by omega))))
            rw [er]
            refine lv_aload_n hx hb dL_ropes_281 rfl (lv_at hl 6 rfl) ?_
            refine lv_iload hx hb dL_ropes_282 (lv_at hl 0 rfl) ?_
            refine lv_iconst (v := 2) hx hb dL_ropes_284 (by decide) ?_
            have hpm : List.Perm (([(b, .inr (1, [.ref v, .int 0, .int 0, .int (nI (ut_tell f i).length)])), (v, .inl (g.2.2.2.1, cap, .inl a)), (q2, .inl (g.2.1, 4, .inl z4))] ++ Wo30) : va_W) (Wo30 ++ [(b, .inr (1, [.ref v, .int 0, .int 0, .int (nI (ut_tell f i).length)])), (v, .inl (g.2.2.2.1, cap, .inl a)), (q2, .inl (g.2.1, 4, .inl z4))]) := List.perm_append_comm
            have hFc := ub_freeP hD hS hA hpm
            obtain ⟨hPc, hDc⟩ := ub_subP hP hD hpm
            refine us_calli (va_runV (As := [.int (nI rk), .int 2]) (rest := [.int (nI (f (13 + 6 * rl)))]) ⟨hx, hb, hml, hown, hts⟩ (uo_ropeOf l g hR (x := (nI rk)) (v := 2)) (cwV 2 hts gu_RL_100 rfl rfl rfl ⟨rfl, uhX8_ropeOf⟩ ⟨Nat.le_of_ble_eq_true rfl, Nat.le_of_ble_eq_true rfl⟩) (us_preO hR hZ hS hFc hPc hDc hK hN) rfl rfl hl.1 rfl (lv_room (Nat.le_of_ble_eq_true rfl)) dL_ropes_285 ⟨Nat.le_trans (Nat.le_of_eq (Nat.add_zero _)) (by show ((227 + 252 * i) + k0) ≤ 3100; omega), Nat.le_trans (Nat.le_of_eq (Nat.add_zero _)) (by show ((1320 + 2688 * i) + 2 * cap) ≤ 35000; omega)⟩) hP hD hS hA hpm (fun r Wo31 H locs hpost hP hD hS => ?_)
            have hP : va_P g.1 vwCl ([(b, .inr (1, [.ref v, .int 0, .int 0, .int (nI (ut_tell f i).length)])), (v, .inl (g.2.2.2.1, cap, .inl a)), (q2, .inl (g.2.1, 4, .inl z4))] ++ Wo31) H := ub_P_perm List.perm_append_comm hP
            have hD : va_D A ([(b, .inr (1, [.ref v, .int 0, .int 0, .int (nI (ut_tell f i).length)])), (v, .inl (g.2.2.2.1, cap, .inl a)), (q2, .inl (g.2.1, 4, .inl z4))] ++ Wo31) := ub_D_perm List.perm_append_comm hD
            obtain ⟨hr, hR⟩ := hpost
            have er : r = nI (f (13 + 6 * rk)) := hr.trans ((uw_ropeOf (i := 2) hI k1 (by decide)).trans (congrArg nI (congrArg f (by omega))))
            rw [er]
            refine lv_isub hx hb dL_ropes_288 ?_
            refine lv_istore (lv' := [(9, .int ((nI (f (13 + 6 * rl))) - (nI (f (13 + 6 * rk))))), (8, .int (nI rk)), (3, .int (nI (um_sum (fun r => f (13 + 6 * r)) (i + 1)))), (7, .int (nI (um_cnt (fun k => decide (f (83 + 3 * k) = i)) (f 1)))), (6, .ref b), (5, .int (nI i)), (4, .int la), (0, .ref h0), (1, .int (nI (f 0))), (2, .ref q2)]) hx hb dL_ropes_289 hl (by decide) rfl (fun ls hl => ?_)
            refine lv_iload hx hb dL_ropes_291 (lv_at hl 0 rfl) ?_
            by_cases hq : f (13 + 6 * rl) = f (13 + 6 * rk)
            · refine lv_if_eq (tgt := 301) hx hb dL_ropes_293 (by decide) (fun _ => ?_) (fun cc => absurd ((um_sub_eq0 (by omega) (by omega)).mpr hq) cc)
              refine lv_aload_n hx hb dL_ropes_301 rfl (lv_at hl 7 rfl) ?_
              refine lv_iload hx hb dL_ropes_302 (lv_at hl 1 rfl) ?_
              refine lv_iconst (v := 3) hx hb dL_ropes_304 (by decide) ?_
              have hpm : List.Perm (([(b, .inr (1, [.ref v, .int 0, .int 0, .int (nI (ut_tell f i).length)])), (v, .inl (g.2.2.2.1, cap, .inl a)), (q2, .inl (g.2.1, 4, .inl z4))] ++ Wo31) : va_W) (Wo31 ++ [(b, .inr (1, [.ref v, .int 0, .int 0, .int (nI (ut_tell f i).length)])), (v, .inl (g.2.2.2.1, cap, .inl a)), (q2, .inl (g.2.1, 4, .inl z4))]) := List.perm_append_comm
              have hFc := ub_freeP hD hS hA hpm
              obtain ⟨hPc, hDc⟩ := ub_subP hP hD hpm
              refine us_calli (va_runV (As := [.int (nI rk), .int 3]) (rest := []) ⟨hx, hb, hml, hown, hts⟩ (uo_ropeOf l g hR (x := (nI rk)) (v := 3)) (cwV 2 hts gu_RL_100 rfl rfl rfl ⟨rfl, uhX8_ropeOf⟩ ⟨Nat.le_of_ble_eq_true rfl, Nat.le_of_ble_eq_true rfl⟩) (us_preO hR hZ hS hFc hPc hDc hK hN) rfl rfl hl.1 rfl (lv_room (Nat.le_of_ble_eq_true rfl)) dL_ropes_305 ⟨Nat.le_trans (Nat.le_of_eq (Nat.add_zero _)) (by show ((227 + 252 * i) + k0) ≤ 3100; omega), Nat.le_trans (Nat.le_of_eq (Nat.add_zero _)) (by show ((1320 + 2688 * i) + 2 * cap) ≤ 35000; omega)⟩) hP hD hS hA hpm (fun r Wo32 H locs hpost hP hD hS => ?_)
              have hP : va_P g.1 vwCl ([(b, .inr (1, [.ref v, .int 0, .int 0, .int (nI (ut_tell f i).length)])), (v, .inl (g.2.2.2.1, cap, .inl a)), (q2, .inl (g.2.1, 4, .inl z4))] ++ Wo32) H := ub_P_perm List.perm_append_comm hP
              have hD : va_D A ([(b, .inr (1, [.ref v, .int 0, .int 0, .int (nI (ut_tell f i).length)])), (v, .inl (g.2.2.2.1, cap, .inl a)), (q2, .inl (g.2.1, 4, .inl z4))] ++ Wo32) := ub_D_perm List.perm_append_comm hD
              obtain ⟨hr, hR⟩ := hpost
              have er : r = nI (f (14 + 6 * rk)) := hr.trans ((uw_ropeOf (i := 3) hI k1 (by decide)).trans (congrArg nI (congrArg f (by omega))))
              rw [er]
              refine lv_aload_n hx hb dL_ropes_308 rfl (lv_at hl 7 rfl) ?_
              refine lv_iload hx hb dL_ropes_309 (lv_at hl 6 rfl) ?_
              refine lv_iconst (v := 3) hx hb dL_ropes_311 (by decide) ?_
              have hpm : List.Perm (([(b, .inr (1, [.ref v, .int 0, .int 0, .int (nI (ut_tell f i).length)])), (v, .inl (g.2.2.2.1, cap, .inl a)), (q2, .inl (g.2.1, 4, .inl z4))] ++ Wo32) : va_W) (Wo32 ++ [(b, .inr (1, [.ref v, .int 0, .int 0, .int (nI (ut_tell f i).length)])), (v, .inl (g.2.2.2.1, cap, .inl a)), (q2, .inl (g.2.1, 4, .inl z4))]) := List.perm_append_comm
              have hFc := ub_freeP hD hS hA hpm
              obtain ⟨hPc, hDc⟩ := ub_subP hP hD hpm
              refine us_calli (va_runV (As := [.int la, .int 3]) (rest := [.int (nI (f (14 + 6 * rk)))]) ⟨hx, hb, hml, hown, hts⟩ (uo_ropeOf l g hR (x := la) (v := 3)) (cwV 2 hts gu_RL_100 rfl rfl rfl ⟨rfl, uhX8_ropeOf⟩ ⟨Nat.le_of_ble_eq_true rfl, Nat.le_of_ble_eq_true rfl⟩) (us_preO hR hZ hS hFc hPc hDc hK hN) rfl rfl hl.1 rfl (lv_room (Nat.le_of_ble_eq_true rfl)) dL_ropes_312 ⟨Nat.le_trans (Nat.le_of_eq (Nat.add_zero _)) (by show ((227 + 252 * i) + k0) ≤ 3100; omega), Nat.le_trans (Nat.le_of_eq (Nat.add_zero _)) (by show ((1320 + 2688 * i) + 2 * cap) ≤ 35000; omega)⟩) hP hD hS hA hpm (fun r Wo33 H locs hpost hP hD hS => ?_)
              have hP : va_P g.1 vwCl ([(b, .inr (1, [.ref v, .int 0, .int 0, .int (nI (ut_tell f i).length)])), (v, .inl (g.2.2.2.1, cap, .inl a)), (q2, .inl (g.2.1, 4, .inl z4))] ++ Wo33) H := ub_P_perm List.perm_append_comm hP
              have hD : va_D A ([(b, .inr (1, [.ref v, .int 0, .int 0, .int (nI (ut_tell f i).length)])), (v, .inl (g.2.2.2.1, cap, .inl a)), (q2, .inl (g.2.1, 4, .inl z4))] ++ Wo33) := ub_D_perm List.perm_append_comm hD
              obtain ⟨hr, hR⟩ := hpost
              have er : r = nI (f (14 + 6 * rl)) := by rw [hr, e3]; exact ((uw_ropeOf (i := 3) hI e1 (by decide)).trans (congrArg nI (congrArg f (by omega))))
              rw [er]
              refine lv_isub hx hb dL_ropes_315 ?_
              refine lv_istore (lv' := [(9, .int ((nI (f (14 + 6 * rk))) - (nI (f (14 + 6 * rl))))), (8, .int (nI rk)), (3, .int (nI (um_sum (fun r => f (13 + 6 * r)) (i + 1)))), (7, .int (nI (um_cnt (fun k => decide (f (83 + 3 * k) = i)) (f 1)))), (6, .ref b), (5, .int (nI i)), (4, .int la), (0, .ref h0), (1, .int (nI (f 0))), (2, .ref q2)]) hx hb dL_ropes_316 hl (by decide) rfl (fun ls hl => ?_)
              exact J318 (nI (f (14 + 6 * rk)) - nI (f (14 + 6 * rl))) Wo33 _ _ ls (fun z => by have := (um_sub_lt0 (by omega) (by omega)).mp z; omega) (fun z => by have := (um_sub_eq0 (by omega) (by omega)).mp z; rw [e3]; exact nI_nlt (by omega) (by omega)) hR (lv_sub hl [0, 1, 3, 2, 4, 5, 6, 7, 8, 9] rfl) hP hD hS
            · refine lv_if_eq (tgt := 301) hx hb dL_ropes_293 (by decide) (fun cc => absurd cc (fun z => hq ((um_sub_eq0 (by omega) (by omega)).mp z))) (fun _ => ?_)
              refine lv_iload hx hb dL_ropes_296 (lv_at hl 0 rfl) ?_
              refine lv_goto (tgt := 316) hx hb dL_ropes_298 (by decide) ?_
              refine lv_istore (lv' := [(9, .int ((nI (f (13 + 6 * rl))) - (nI (f (13 + 6 * rk))))), (8, .int (nI rk)), (3, .int (nI (um_sum (fun r => f (13 + 6 * r)) (i + 1)))), (7, .int (nI (um_cnt (fun k => decide (f (83 + 3 * k) = i)) (f 1)))), (6, .ref b), (5, .int (nI i)), (4, .int la), (0, .ref h0), (1, .int (nI (f 0))), (2, .ref q2)]) hx hb dL_ropes_316 hl (by decide) rfl (fun ls hl => ?_)
              exact J318 (nI (f (13 + 6 * rl)) - nI (f (13 + 6 * rk))) Wo31 _ _ ls (fun z => by have := (um_sub_lt0 (by omega) (by omega)).mp z; omega) (fun z => absurd ((um_sub_eq0 (by omega) (by omega)).mp z) hq) hR (lv_sub hl [0, 1, 3, 2, 4, 5, 6, 7, 8, 9] rfl) hP hD hS
        | succ qq ihq =>
          intro q b v cap k0 a z4 Wo H locs ls hiqq hB hz hR hl hP hD hS
          have hq4 : q < 4 := by omega
          obtain ⟨hk2, -⟩ := us_B_k hB (Nat.le_trans (ut_tell_len hI hi0) (by omega))
          have hq2 := hB.2.2.2.2
          have hl2 : ((ut_tell f i) : List Nat).length ≤ 128 := (ut_tell_len hI hi0)
          refine lv_iload hx hb dL_ropes_218 (lv_at hl 0 rfl) ?_
          refine lv_iconst (v := 4) hx hb dL_ropes_220 (by decide) ?_
          refine lv_icmp_ge (tgt := 247) hx hb dL_ropes_221 (by decide) (fun cc => absurd cc (nI_ge (b := 4) (by omega) (by decide))) (fun _ => ?_)
          refine lv_aload_n hx hb dL_ropes_224 rfl (lv_at hl 8 rfl) ?_
          refine lv_iload hx hb dL_ropes_225 (lv_at hl 0 rfl) ?_
          refine lv_dup2_11 hx hb dL_ropes_227 rfl rfl ?_
          refine va_iald hx hb hK hP 2 0 rfl rfl (i := nI q) (vp_in_nI (by omega) (by decide)) dL_ropes_228 ?_
          refine us_topi (x := nI (um_sum (us_S f q) i)) (by rw [nI_clamp (by omega), hz q hq4, if_neg (Nat.lt_irrefl q)]) ?_
          refine lv_aload_n hx hb dL_ropes_229 rfl (lv_at hl 6 rfl) ?_
          refine lv_iload hx hb dL_ropes_230 (lv_at hl 3 rfl) ?_
          refine lv_iconst (v := 3) hx hb dL_ropes_232 (by decide) ?_
          refine lv_iload hx hb dL_ropes_233 (lv_at hl 0 rfl) ?_
          refine lv_iadd hx hb dL_ropes_235 ?_
          refine us_topi (x := nI (3 + q)) (nI_add 3 q) ?_
          have hpm : List.Perm (([(b, .inr (1, [.ref v, .int 0, .int 0, .int (nI (ut_tell f i).length)])), (v, .inl (g.2.2.2.1, cap, .inl a)), (q2, .inl (g.2.1, 4, .inl z4))] ++ Wo) : va_W) (Wo ++ [(b, .inr (1, [.ref v, .int 0, .int 0, .int (nI (ut_tell f i).length)])), (v, .inl (g.2.2.2.1, cap, .inl a)), (q2, .inl (g.2.1, 4, .inl z4))]) := List.perm_append_comm
          have hFc := ub_freeP hD hS hA hpm
          obtain ⟨hPc, hDc⟩ := ub_subP hP hD hpm
          refine us_calli (va_runV (As := [.int (nI i), .int (nI (3 + q))]) (rest := [.int (nI (um_sum (us_S f q) i)), .int (nI q), .ref q2]) ⟨hx, hb, hml, hown, hts⟩ (uo_ropeOf l g hR (x := (nI i)) (v := (nI (3 + q)))) (cwV 2 hts gu_RL_100 rfl rfl rfl ⟨rfl, uhX8_ropeOf⟩ ⟨Nat.le_of_ble_eq_true rfl, Nat.le_of_ble_eq_true rfl⟩) (us_preO hR hZ hS hFc hPc hDc hK hN) rfl rfl hl.1 rfl (lv_room (Nat.le_of_ble_eq_true rfl)) dL_ropes_236 ⟨Nat.le_trans (Nat.le_of_eq (Nat.add_zero _)) (by show ((227 + 252 * i) + k0) ≤ 3100; omega), Nat.le_trans (Nat.le_of_eq (Nat.add_zero _)) (by show ((1320 + 2688 * i) + 2 * cap) ≤ 35000; omega)⟩) hP hD hS hA hpm (fun r Wo34 H locs hpost hP hD hS => ?_)
          have hP : va_P g.1 vwCl ([(b, .inr (1, [.ref v, .int 0, .int 0, .int (nI (ut_tell f i).length)])), (v, .inl (g.2.2.2.1, cap, .inl a)), (q2, .inl (g.2.1, 4, .inl z4))] ++ Wo34) H := ub_P_perm List.perm_append_comm hP
          have hD : va_D A ([(b, .inr (1, [.ref v, .int 0, .int 0, .int (nI (ut_tell f i).length)])), (v, .inl (g.2.2.2.1, cap, .inl a)), (q2, .inl (g.2.1, 4, .inl z4))] ++ Wo34) := ub_D_perm List.perm_append_comm hD
          obtain ⟨hr, hR⟩ := hpost
          have er : r = nI (us_S f q i) := hr.trans (us_Sv hI hi0 hq4)
          rw [er]
          refine lv_iadd hx hb dL_ropes_239 ?_
          refine us_topi (x := nI (um_sum (us_S f q) i + us_S f q i)) (nI_add _ _) ?_
          refine va_iast hx hb hK hP hD hS 2 0 rfl rfl (i := nI q) (vp_in_nI (by omega) (by decide)) dL_ropes_240 (fun H locs hP hD hS => ?_)
          rw [nI_clamp (show q < 2 ^ 31 by omega)] at hP hD
          have hP : va_P g.1 vwCl ([(b, .inr (1, [.ref v, .int 0, .int 0, .int (nI (ut_tell f i).length)])), (v, .inl (g.2.2.2.1, cap, .inl a)), (q2, .inl (g.2.1, 4, .inl (upd z4 q (nI (um_sum (us_S f q) i + us_S f q i)))))] ++ Wo34) H := hP
          have hD : va_D A ([(b, .inr (1, [.ref v, .int 0, .int 0, .int (nI (ut_tell f i).length)])), (v, .inl (g.2.2.2.1, cap, .inl a)), (q2, .inl (g.2.1, 4, .inl (upd z4 q (nI (um_sum (us_S f q) i + us_S f q i)))))] ++ Wo34) := hD
          refine lv_iinc (v := nI q + 1) (lv' := [(8, .int (nI q + 1)), (7, .int (nI (um_cnt (fun k => decide (f (83 + 3 * k) = i)) (f 1)))), (6, .ref b), (5, .int (nI i)), (4, .int la), (3, .int (nI (um_sum (fun r => f (13 + 6 * r)) i))), (0, .ref h0), (1, .int (nI (f 0))), (2, .ref q2)]) hx hb dL_ropes_241 hl (k := 0) rfl rfl (by decide) rfl (fun ls hl => ?_)
          refine lv_goto (tgt := 218) hx hb dL_ropes_244 (by decide) ?_
          rw [nI_1] at hl
          have hz9 : ∀ y, y < 4 → (upd z4 q (nI (um_sum (us_S f q) i + us_S f q i))) y = nI (um_sum (us_S f y) (if y < q + 1 then i + 1 else i)) := by
            intro y hy
            by_cases e : y = q
            · rw [e, um_upd_at, if_pos (Nat.lt_succ_self q)]; rfl
            · rw [um_upd_other e, hz y hy]
              by_cases e2 : y < q
              · rw [if_pos e2, if_pos (by omega)]
              · rw [if_neg e2, if_neg (by omega)]
          exact ihq (q + 1) b v cap k0 a (upd z4 q (nI (um_sum (us_S f q) i + us_S f q i))) Wo34 _ _ ls (by omega) hB hz9 hR (lv_sub hl [0, 1, 2, 3, 4, 5, 6, 7, 8] rfl) hP hD hS
      have loopP : ∀ (qy y : Nat) (b : Nat) (v : Nat) (cap : Nat) (k0 : Nat) (a : Nat → Int32) (Wo : va_W) (H : Heap) (locs : List Loc) (ls : Array Slot), f 1 = y + qy → us_B (ut_r2 f i y) cap k0 a → uo_W g h0 k f hist sv lr ld L Wo → lv_has ls 11 [(8, .int (nI y)), (7, .int (nI (um_cnt (fun k => decide (f (83 + 3 * k) = i)) y))), (6, .ref b), (5, .int (nI i)), (4, .int la), (3, .int (nI (um_sum (fun r => f (13 + 6 * r)) i))), (0, .ref h0), (1, .int (nI (f 0))), (2, .ref q2)] → va_P g.1 vwCl ([(b, .inr (1, [.ref v, .int 0, .int 0, .int (nI (ut_r2 f i y).length)])), (v, .inl (g.2.2.2.1, cap, .inl a)), (q2, .inl (g.2.1, 4, .inl s4))] ++ Wo) H → va_D A ([(b, .inr (1, [.ref v, .int 0, .int 0, .int (nI (ut_r2 f i y).length)])), (v, .inl (g.2.2.2.1, cap, .inl a)), (q2, .inl (g.2.1, 4, .inl s4))] ++ Wo) → va_S A s.heap H locs → W p l e ({ frames := 7, cells := 3100, slots := 35000, locals := 160 } : Room) s m args below meth c H locs ((3 + 252 * i + 14 * y) + k0) ((24 + 2688 * i + 81 * y) + 2 * cap) Q (F0 m 109 ls []) := by
        intro qy
        induction qy with
        | zero =>
          intro y b v cap k0 a Wo H locs ls hiqy hB hR hl hP hD hS
          have ey : y = f 1 := by omega
          obtain ⟨hk3, -⟩ := us_B_k hB (Nat.le_trans (ut_r2_len (k := y) hI hi0 (by omega)) (by omega))
          have hq3 := hB.2.2.2.2
          have hl3 : ((ut_r2 f i y) : List Nat).length ≤ (14 + 5 * y) := (ut_r2_len (k := y) hI hi0 (by omega))
          refine lv_iload hx hb dL_ropes_109 (lv_at hl 0 rfl) ?_
          refine lv_aload_n hx hb dL_ropes_111 rfl (lv_at hl 6 rfl) ?_
          refine lv_iconst (v := 1) hx hb dL_ropes_112 (by decide) ?_
          have hpm : List.Perm (([(b, .inr (1, [.ref v, .int 0, .int 0, .int (nI (ut_r2 f i y).length)])), (v, .inl (g.2.2.2.1, cap, .inl a)), (q2, .inl (g.2.1, 4, .inl s4))] ++ Wo) : va_W) (Wo ++ [(b, .inr (1, [.ref v, .int 0, .int 0, .int (nI (ut_r2 f i y).length)])), (v, .inl (g.2.2.2.1, cap, .inl a)), (q2, .inl (g.2.1, 4, .inl s4))]) := List.perm_append_comm
          have hFc := ub_freeP hD hS hA hpm
          obtain ⟨hPc, hDc⟩ := ub_subP hP hD hpm
          refine us_calli (va_runV (As := [.int 1]) (rest := [.int (nI y)]) ⟨hx, hb, hml, hown, hts⟩ (uo_account l g hR (x := 1)) (cwV 1 hts gu_RL_34 rfl rfl rfl ⟨rfl, uhX8_account⟩ ⟨Nat.le_of_ble_eq_true rfl, Nat.le_of_ble_eq_true rfl⟩) (us_preO hR hZ hS hFc hPc hDc hK hN) rfl rfl hl.1 rfl (lv_room (Nat.le_of_ble_eq_true rfl)) dL_ropes_113 ⟨Nat.le_trans (Nat.le_of_eq (Nat.add_zero _)) (by show ((3 + 252 * i + 14 * y) + k0) ≤ 3100; omega), Nat.le_trans (Nat.le_of_eq (Nat.add_zero _)) (by show ((24 + 2688 * i + 81 * y) + 2 * cap) ≤ 35000; omega)⟩) hP hD hS hA hpm (fun r Wo35 H locs hpost hP hD hS => ?_)
          have hP : va_P g.1 vwCl ([(b, .inr (1, [.ref v, .int 0, .int 0, .int (nI (ut_r2 f i y).length)])), (v, .inl (g.2.2.2.1, cap, .inl a)), (q2, .inl (g.2.1, 4, .inl s4))] ++ Wo35) H := ub_P_perm List.perm_append_comm hP
          have hD : va_D A ([(b, .inr (1, [.ref v, .int 0, .int 0, .int (nI (ut_r2 f i y).length)])), (v, .inl (g.2.2.2.1, cap, .inl a)), (q2, .inl (g.2.1, 4, .inl s4))] ++ Wo35) := ub_D_perm List.perm_append_comm hD
          obtain ⟨hr, hR⟩ := hpost
          have er : r = nI (f 1) := by rw [hr]; rfl
          rw [er]
          refine lv_icmp_ge (tgt := 215) hx hb dL_ropes_116 (by decide) (fun _ => ?_) (fun cc => absurd (nI_le (by omega) (by omega)) cc)
          rw [ey] at hB hl hP hD
          have et4 : (ut_r2 f i (f 1)) = (ut_tell f i) := ut_r2_tell
          rw [et4] at hB hP hD
          have hn4 : ((ut_tell f i) : List Nat).length ≤ 128 := ut_tell_len hI hi0
          refine lv_iconst (v := 0) hx hb dL_ropes_215 (by decide) ?_
          refine lv_istore (lv' := [(8, .int 0), (7, .int (nI (um_cnt (fun k => decide (f (83 + 3 * k) = i)) (f 1)))), (6, .ref b), (5, .int (nI i)), (4, .int la), (3, .int (nI (um_sum (fun r => f (13 + 6 * r)) i))), (0, .ref h0), (1, .int (nI (f 0))), (2, .ref q2)]) hx hb dL_ropes_216 hl (by decide) rfl (fun ls hl => ?_)
          refine W.widen (k := 227 + 252 * i + k0) (n := 1320 + 2688 * i + 2 * cap) (by omega) (by omega) ?_
          exact loopQ 4 0 b v cap k0 a s4 Wo35 _ _ ls (by omega) hB (fun y hy => by rw [if_neg (Nat.not_lt_zero y)]; exact hs y hy) hR (lv_sub hl [0, 1, 2, 3, 4, 5, 6, 7, 8] rfl) hP hD hS
        | succ qy ihy =>
          intro y b v cap k0 a Wo H locs ls hiqy hB hR hl hP hD hS
          have hy1 : y < f 1 := by omega
          obtain ⟨p1, p2, p3, p4⟩ := hPl y hy1
          obtain ⟨hk5, -⟩ := us_B_k hB (Nat.le_trans (ut_r2_len (k := y) hI hi0 (by omega)) (by omega))
          have hq5 := hB.2.2.2.2
          have hl5 : ((ut_r2 f i y) : List Nat).length ≤ (14 + 5 * y) := (ut_r2_len (k := y) hI hi0 (by omega))
          refine lv_iload hx hb dL_ropes_109 (lv_at hl 0 rfl) ?_
          refine lv_aload_n hx hb dL_ropes_111 rfl (lv_at hl 6 rfl) ?_
          refine lv_iconst (v := 1) hx hb dL_ropes_112 (by decide) ?_
          have hpm : List.Perm (([(b, .inr (1, [.ref v, .int 0, .int 0, .int (nI (ut_r2 f i y).length)])), (v, .inl (g.2.2.2.1, cap, .inl a)), (q2, .inl (g.2.1, 4, .inl s4))] ++ Wo) : va_W) (Wo ++ [(b, .inr (1, [.ref v, .int 0, .int 0, .int (nI (ut_r2 f i y).length)])), (v, .inl (g.2.2.2.1, cap, .inl a)), (q2, .inl (g.2.1, 4, .inl s4))]) := List.perm_append_comm
          have hFc := ub_freeP hD hS hA hpm
          obtain ⟨hPc, hDc⟩ := ub_subP hP hD hpm
          refine us_calli (va_runV (As := [.int 1]) (rest := [.int (nI y)]) ⟨hx, hb, hml, hown, hts⟩ (uo_account l g hR (x := 1)) (cwV 1 hts gu_RL_34 rfl rfl rfl ⟨rfl, uhX8_account⟩ ⟨Nat.le_of_ble_eq_true rfl, Nat.le_of_ble_eq_true rfl⟩) (us_preO hR hZ hS hFc hPc hDc hK hN) rfl rfl hl.1 rfl (lv_room (Nat.le_of_ble_eq_true rfl)) dL_ropes_113 ⟨Nat.le_trans (Nat.le_of_eq (Nat.add_zero _)) (by show ((3 + 252 * i + 14 * y) + k0) ≤ 3100; omega), Nat.le_trans (Nat.le_of_eq (Nat.add_zero _)) (by show ((24 + 2688 * i + 81 * y) + 2 * cap) ≤ 35000; omega)⟩) hP hD hS hA hpm (fun r Wo36 H locs hpost hP hD hS => ?_)
          have hP : va_P g.1 vwCl ([(b, .inr (1, [.ref v, .int 0, .int 0, .int (nI (ut_r2 f i y).length)])), (v, .inl (g.2.2.2.1, cap, .inl a)), (q2, .inl (g.2.1, 4, .inl s4))] ++ Wo36) H := ub_P_perm List.perm_append_comm hP
          have hD : va_D A ([(b, .inr (1, [.ref v, .int 0, .int 0, .int (nI (ut_r2 f i y).length)])), (v, .inl (g.2.2.2.1, cap, .inl a)), (q2, .inl (g.2.1, 4, .inl s4))] ++ Wo36) := ub_D_perm List.perm_append_comm hD
          obtain ⟨hr, hR⟩ := hpost
          have er : r = nI (f 1) := by rw [hr]; rfl
          rw [er]
          refine lv_icmp_ge (tgt := 215) hx hb dL_ropes_116 (by decide) (fun cc => absurd cc (nI_ge (by omega) (by omega))) (fun _ => ?_)
          refine lv_aload_n hx hb dL_ropes_119 rfl (lv_at hl 6 rfl) ?_
          refine lv_iload hx hb dL_ropes_120 (lv_at hl 0 rfl) ?_
          refine lv_iconst (v := 0) hx hb dL_ropes_122 (by decide) ?_
          have hpm : List.Perm (([(b, .inr (1, [.ref v, .int 0, .int 0, .int (nI (ut_r2 f i y).length)])), (v, .inl (g.2.2.2.1, cap, .inl a)), (q2, .inl (g.2.1, 4, .inl s4))] ++ Wo36) : va_W) (Wo36 ++ [(b, .inr (1, [.ref v, .int 0, .int 0, .int (nI (ut_r2 f i y).length)])), (v, .inl (g.2.2.2.1, cap, .inl a)), (q2, .inl (g.2.1, 4, .inl s4))]) := List.perm_append_comm
          have hFc := ub_freeP hD hS hA hpm
          obtain ⟨hPc, hDc⟩ := ub_subP hP hD hpm
          refine us_calli (va_runV (As := [.int (nI y), .int 0]) (rest := []) ⟨hx, hb, hml, hown, hts⟩ (uo_waiting l g hR (x := (nI y)) (v := 0)) (cwV 2 hts gu_RL_109 rfl rfl rfl ⟨rfl, uhX8_waiting⟩ ⟨Nat.le_of_ble_eq_true rfl, Nat.le_of_ble_eq_true rfl⟩) (us_preO hR hZ hS hFc hPc hDc hK hN) rfl rfl hl.1 rfl (lv_room (Nat.le_of_ble_eq_true rfl)) dL_ropes_123 ⟨Nat.le_trans (Nat.le_of_eq (Nat.add_zero _)) (by show ((3 + 252 * i + 14 * y) + k0) ≤ 3100; omega), Nat.le_trans (Nat.le_of_eq (Nat.add_zero _)) (by show ((24 + 2688 * i + 81 * y) + 2 * cap) ≤ 35000; omega)⟩) hP hD hS hA hpm (fun r Wo37 H locs hpost hP hD hS => ?_)
          have hP : va_P g.1 vwCl ([(b, .inr (1, [.ref v, .int 0, .int 0, .int (nI (ut_r2 f i y).length)])), (v, .inl (g.2.2.2.1, cap, .inl a)), (q2, .inl (g.2.1, 4, .inl s4))] ++ Wo37) H := ub_P_perm List.perm_append_comm hP
          have hD : va_D A ([(b, .inr (1, [.ref v, .int 0, .int 0, .int (nI (ut_r2 f i y).length)])), (v, .inl (g.2.2.2.1, cap, .inl a)), (q2, .inl (g.2.1, 4, .inl s4))] ++ Wo37) := ub_D_perm List.perm_append_comm hD
          obtain ⟨hr, hR⟩ := hpost
          have er : r = nI (f (83 + 3 * y)) := hr.trans ((uw_waiting (i := 0) hI hy1 (by decide)).trans (congrArg nI (congrArg f (by omega))))
          rw [er]
          refine lv_iload hx hb dL_ropes_126 (lv_at hl 3 rfl) ?_
          have hcs : ∀ n, um_cnt (fun k => decide (f (83 + 3 * k) = i)) (n + 1) = um_cnt (fun k => decide (f (83 + 3 * k) = i)) n + um_b2n (decide (f (83 + 3 * n) = i)) := fun n => rfl
          have hl2 := ut_r2_len (k := y + 1) hI hi0 (by omega)
          by_cases ho : f (83 + 3 * y) = i
          · refine lv_icmp_ne (tgt := 135) hx hb dL_ropes_128 (by decide) (fun cc => absurd (by rw [ho]) cc) (fun _ => ?_)
            refine lv_iconst (v := 1) hx hb dL_ropes_131 (by decide) ?_
            refine lv_goto (tgt := 136) hx hb dL_ropes_132 (by decide) ?_
            refine lv_istore (lv' := [(9, .int 1), (8, .int (nI y)), (7, .int (nI (um_cnt (fun k => decide (f (83 + 3 * k) = i)) y))), (6, .ref b), (5, .int (nI i)), (4, .int la), (3, .int (nI (um_sum (fun r => f (13 + 6 * r)) i))), (0, .ref h0), (1, .int (nI (f 0))), (2, .ref q2)]) hx hb dL_ropes_136 hl (by decide) rfl (fun ls hl => ?_)
            refine lv_iload hx hb dL_ropes_138 (lv_at hl 2 rfl) ?_
            refine lv_iload hx hb dL_ropes_140 (lv_at hl 0 rfl) ?_
            refine lv_if_eq (tgt := 149) hx hb dL_ropes_142 (by decide) (fun cc => absurd cc (show ¬ (1 : Int32) = 0 by decide)) (fun _ => ?_)
            refine lv_iconst (v := 1) hx hb dL_ropes_145 (by decide) ?_
            refine lv_goto (tgt := 150) hx hb dL_ropes_146 (by decide) ?_
            refine lv_iadd hx hb dL_ropes_150 ?_
            refine us_topi (x := nI (um_cnt (fun k => decide (f (83 + 3 * k) = i)) y + 1)) (nI_1 _) ?_
            have e7 : um_cnt (fun k => decide (f (83 + 3 * k) = i)) y + 1 = um_cnt (fun k => decide (f (83 + 3 * k) = i)) (y + 1) := by rw [hcs, decide_eq_true ho]; rfl
            rw [e7]
            refine lv_istore (lv' := [(7, .int (nI (um_cnt (fun k => decide (f (83 + 3 * k) = i)) (y + 1)))), (9, .int 1), (8, .int (nI y)), (6, .ref b), (5, .int (nI i)), (4, .int la), (3, .int (nI (um_sum (fun r => f (13 + 6 * r)) i))), (0, .ref h0), (1, .int (nI (f 0))), (2, .ref q2)]) hx hb dL_ropes_151 hl (by decide) rfl (fun ls hl => ?_)
            refine lv_aload hx hb dL_ropes_153 (lv_at hl 3 rfl) ?_
            refine lv_iload hx hb dL_ropes_155 (lv_at hl 1 rfl) ?_
            refine lv_if_eq (tgt := 203) hx hb dL_ropes_157 (by decide) (fun cc => absurd cc (show ¬ (1 : Int32) = 0 by decide)) (fun _ => ?_)
            refine us_sbN K0 hl.1 hP hD hS (Nat.le_of_ble_eq_true rfl) (Nat.le_of_ble_eq_true rfl) (by show ((3 + 252 * i + 14 * y) + k0) + 2 ≤ 3100; omega) (by show ((24 + 2688 * i + 81 * y) + 2 * cap) + 20 ≤ 35000; omega) (Nat.le_of_ble_eq_true rfl) dL_ropes_160 dL_ropes_163 dL_ropes_164 (fun b2 v2 H locs hP hD hS => ?_)
            refine W.widen (k := (((3 + 252 * i + 14 * y) + k0) + 2) + 0) (n := (((24 + 2688 * i + 81 * y) + 2 * cap) + 20) + 2 * 16) (by omega) (by omega) ?_
            have hP : va_P g.1 vwCl ([(b2, .inr (1, [.ref v2, .int 0, .int 0, .int (nI ([]).length)])), (v2, .inl (g.2.2.2.1, 16, .inl (fun _ => 0))), (b, .inr (1, [.ref v, .int 0, .int 0, .int (nI (ut_r2 f i y).length)])), (v, .inl (g.2.2.2.1, cap, .inl a)), (q2, .inl (g.2.1, 4, .inl s4))] ++ Wo37) H := hP
            have hD : va_D A ([(b2, .inr (1, [.ref v2, .int 0, .int 0, .int (nI ([]).length)])), (v2, .inl (g.2.2.2.1, 16, .inl (fun _ => 0))), (b, .inr (1, [.ref v, .int 0, .int 0, .int (nI (ut_r2 f i y).length)])), (v, .inl (g.2.2.2.1, cap, .inl a)), (q2, .inl (g.2.1, 4, .inl s4))] ++ Wo37) := hD
            refine va_ldcS (q := g.2.2.2.2.1 11) hx hb hown (hZ.2.2.2.2.1 2 (by decide)) dL_ropes_167 ?_
            have hm6 : ([64] : List Nat).length ≤ 1 := Nat.le_refl 1
            have ht6 : ([] : List Nat).length ≤ 0 := (Nat.le_refl 0)
            have hn6 : ([] ++ [64]).length ≤ 0 + 1 := by rw [List.length_append]; omega
            refine us_sbK (base := (((3 + 252 * i + 14 * y) + k0) + 2)) (bs := (((24 + 2688 * i + 81 * y) + 2 * cap) + 20)) K0 hl.1 hP hD hS (List.Perm.refl _) us_B0 (by omega) (i0 := 11) (by decide) (t0 := [64]) rfl (fun y hy => by rcases (show y = 0 by have : y < 1 := hy; omega) with rfl; rfl) (Nat.le_of_ble_eq_true rfl) (Nat.le_of_ble_eq_true rfl) (by show (((3 + 252 * i + 14 * y) + k0) + 2) + 10 ≤ 3100; omega) (by show (((24 + 2688 * i + 81 * y) + 2 * cap) + 20) + 4 * (_ + _) + 32 ≤ 35000; have hz6 : us_len.getD 11 0 = 1 := rfl; omega) (Nat.le_of_ble_eq_true rfl) dL_ropes_169 (fun v6 cap6 k6 a6 H locs hB6 hP hD hS => ?_)
            have hP : va_P g.1 vwCl ([(b2, .inr (1, [.ref v6, .int 0, .int 0, .int (nI ([] ++ [64]).length)])), (v6, .inl (g.2.2.2.1, cap6, .inl a6)), (b, .inr (1, [.ref v, .int 0, .int 0, .int (nI (ut_r2 f i y).length)])), (v, .inl (g.2.2.2.1, cap, .inl a)), (q2, .inl (g.2.1, 4, .inl s4))] ++ Wo37) H := hP
            have hD : va_D A ([(b2, .inr (1, [.ref v6, .int 0, .int 0, .int (nI ([] ++ [64]).length)])), (v6, .inl (g.2.2.2.1, cap6, .inl a6)), (b, .inr (1, [.ref v, .int 0, .int 0, .int (nI (ut_r2 f i y).length)])), (v, .inl (g.2.2.2.1, cap, .inl a)), (q2, .inl (g.2.1, 4, .inl s4))] ++ Wo37) := hD
            refine lv_aload_n hx hb dL_ropes_172 rfl (lv_at hl 7 rfl) ?_
            refine lv_iload hx hb dL_ropes_173 (lv_at hl 2 rfl) ?_
            refine lv_iconst (v := 1) hx hb dL_ropes_175 (by decide) ?_
            obtain ⟨hk7, -⟩ := us_B_k hB6 (Nat.le_trans hn6 (by omega))
            have hq7 := hB6.2.2.2.2
            have hl7 : (([] ++ [64]) : List Nat).length ≤ (0 + 1) := hn6
            have hpm : List.Perm (([(b2, .inr (1, [.ref v6, .int 0, .int 0, .int (nI ([] ++ [64]).length)])), (v6, .inl (g.2.2.2.1, cap6, .inl a6)), (b, .inr (1, [.ref v, .int 0, .int 0, .int (nI (ut_r2 f i y).length)])), (v, .inl (g.2.2.2.1, cap, .inl a)), (q2, .inl (g.2.1, 4, .inl s4))] ++ Wo37) : va_W) (Wo37 ++ [(b2, .inr (1, [.ref v6, .int 0, .int 0, .int (nI ([] ++ [64]).length)])), (v6, .inl (g.2.2.2.1, cap6, .inl a6)), (b, .inr (1, [.ref v, .int 0, .int 0, .int (nI (ut_r2 f i y).length)])), (v, .inl (g.2.2.2.1, cap, .inl a)), (q2, .inl (g.2.1, 4, .inl s4))]) := List.perm_append_comm
            have hFc := ub_freeP hD hS hA hpm
            obtain ⟨hPc, hDc⟩ := ub_subP hP hD hpm
            refine us_calli (va_runV (As := [.int (nI y), .int 1]) (rest := [.ref b2, .ref b]) ⟨hx, hb, hml, hown, hts⟩ (uo_waiting l g hR (x := (nI y)) (v := 1)) (cwV 2 hts gu_RL_109 rfl rfl rfl ⟨rfl, uhX8_waiting⟩ ⟨Nat.le_of_ble_eq_true rfl, Nat.le_of_ble_eq_true rfl⟩) (us_preO hR hZ hS hFc hPc hDc hK hN) rfl rfl hl.1 rfl (lv_room (Nat.le_of_ble_eq_true rfl)) dL_ropes_176 ⟨Nat.le_trans (Nat.le_of_eq (Nat.add_zero _)) (by show ((((3 + 252 * i + 14 * y) + k0) + 2) + k6) ≤ 3100; omega), Nat.le_trans (Nat.le_of_eq (Nat.add_zero _)) (by show ((((24 + 2688 * i + 81 * y) + 2 * cap) + 20) + 2 * cap6) ≤ 35000; omega)⟩) hP hD hS hA hpm (fun r Wo38 H locs hpost hP hD hS => ?_)
            have hP : va_P g.1 vwCl ([(b2, .inr (1, [.ref v6, .int 0, .int 0, .int (nI ([] ++ [64]).length)])), (v6, .inl (g.2.2.2.1, cap6, .inl a6)), (b, .inr (1, [.ref v, .int 0, .int 0, .int (nI (ut_r2 f i y).length)])), (v, .inl (g.2.2.2.1, cap, .inl a)), (q2, .inl (g.2.1, 4, .inl s4))] ++ Wo38) H := ub_P_perm List.perm_append_comm hP
            have hD : va_D A ([(b2, .inr (1, [.ref v6, .int 0, .int 0, .int (nI ([] ++ [64]).length)])), (v6, .inl (g.2.2.2.1, cap6, .inl a6)), (b, .inr (1, [.ref v, .int 0, .int 0, .int (nI (ut_r2 f i y).length)])), (v, .inl (g.2.2.2.1, cap, .inl a)), (q2, .inl (g.2.1, 4, .inl s4))] ++ Wo38) := ub_D_perm List.perm_append_comm hD
            obtain ⟨hr, hR⟩ := hpost
            have er : r = nI (f (84 + 3 * y)) := hr.trans ((uw_waiting (i := 1) hI hy1 (by decide)).trans (congrArg nI (congrArg f (by omega))))
            rw [er]
            have hm8 : (us_il_list (nI (f (84 + 3 * y))) : List Nat).length ≤ 2 := by rw [us_il_num _ (by omega)]; exact (ut_num_len _).2.1
            have ht8 : (([] ++ [64]) : List Nat).length ≤ (0 + 1) := hn6
            have hn8 : (([] ++ [64]) ++ us_il_list (nI (f (84 + 3 * y)))).length ≤ (0 + 1) + 2 := by rw [List.length_append]; omega
            refine us_sbI (base := (((3 + 252 * i + 14 * y) + k0) + 2)) (bs := (((24 + 2688 * i + 81 * y) + 2 * cap) + 20)) K0 hl.1 hP hD hS (List.Perm.refl _) hB6 (by omega) (x := nI (f (84 + 3 * y))) (us_nI_ok (by omega)) (Nat.le_of_ble_eq_true rfl) (Nat.le_of_ble_eq_true rfl) (by show (((3 + 252 * i + 14 * y) + k0) + 2) + 10 ≤ 3100; omega) (by show (((24 + 2688 * i + 81 * y) + 2 * cap) + 20) + 4 * (_ + _) + 32 ≤ 35000; rw [us_il_len] at hm8; omega) (Nat.le_of_ble_eq_true rfl) dL_ropes_179 (fun v8 cap8 k8 a8 H locs hB8 hP hD hS => ?_)
            have hP : va_P g.1 vwCl ([(b2, .inr (1, [.ref v8, .int 0, .int 0, .int (nI (([] ++ [64]) ++ us_il_list (nI (f (84 + 3 * y)))).length)])), (v8, .inl (g.2.2.2.1, cap8, .inl a8)), (b, .inr (1, [.ref v, .int 0, .int 0, .int (nI (ut_r2 f i y).length)])), (v, .inl (g.2.2.2.1, cap, .inl a)), (q2, .inl (g.2.1, 4, .inl s4))] ++ Wo38) H := hP
            have hD : va_D A ([(b2, .inr (1, [.ref v8, .int 0, .int 0, .int (nI (([] ++ [64]) ++ us_il_list (nI (f (84 + 3 * y)))).length)])), (v8, .inl (g.2.2.2.1, cap8, .inl a8)), (b, .inr (1, [.ref v, .int 0, .int 0, .int (nI (ut_r2 f i y).length)])), (v, .inl (g.2.2.2.1, cap, .inl a)), (q2, .inl (g.2.1, 4, .inl s4))] ++ Wo38) := hD
            refine va_ldcS (q := g.2.2.2.2.1 12) hx hb hown (hZ.2.2.2.2.1 3 (by decide)) dL_ropes_182 ?_
            have hm9 : ([42] : List Nat).length ≤ 1 := Nat.le_refl 1
            have ht9 : ((([] ++ [64]) ++ us_il_list (nI (f (84 + 3 * y)))) : List Nat).length ≤ ((0 + 1) + 2) := hn8
            have hn9 : ((([] ++ [64]) ++ us_il_list (nI (f (84 + 3 * y)))) ++ [42]).length ≤ ((0 + 1) + 2) + 1 := by rw [List.length_append]; omega
            refine us_sbK (base := (((3 + 252 * i + 14 * y) + k0) + 2)) (bs := (((24 + 2688 * i + 81 * y) + 2 * cap) + 20)) K0 hl.1 hP hD hS (List.Perm.refl _) hB8 (by omega) (i0 := 12) (by decide) (t0 := [42]) rfl (fun y hy => by rcases (show y = 0 by have : y < 1 := hy; omega) with rfl; rfl) (Nat.le_of_ble_eq_true rfl) (Nat.le_of_ble_eq_true rfl) (by show (((3 + 252 * i + 14 * y) + k0) + 2) + 10 ≤ 3100; omega) (by show (((24 + 2688 * i + 81 * y) + 2 * cap) + 20) + 4 * (_ + _) + 32 ≤ 35000; have hz9 : us_len.getD 12 0 = 1 := rfl; omega) (Nat.le_of_ble_eq_true rfl) dL_ropes_184 (fun v9 cap9 k9 a9 H locs hB9 hP hD hS => ?_)
            have hP : va_P g.1 vwCl ([(b2, .inr (1, [.ref v9, .int 0, .int 0, .int (nI ((([] ++ [64]) ++ us_il_list (nI (f (84 + 3 * y)))) ++ [42]).length)])), (v9, .inl (g.2.2.2.1, cap9, .inl a9)), (b, .inr (1, [.ref v, .int 0, .int 0, .int (nI (ut_r2 f i y).length)])), (v, .inl (g.2.2.2.1, cap, .inl a)), (q2, .inl (g.2.1, 4, .inl s4))] ++ Wo38) H := hP
            have hD : va_D A ([(b2, .inr (1, [.ref v9, .int 0, .int 0, .int (nI ((([] ++ [64]) ++ us_il_list (nI (f (84 + 3 * y)))) ++ [42]).length)])), (v9, .inl (g.2.2.2.1, cap9, .inl a9)), (b, .inr (1, [.ref v, .int 0, .int 0, .int (nI (ut_r2 f i y).length)])), (v, .inl (g.2.2.2.1, cap, .inl a)), (q2, .inl (g.2.1, 4, .inl s4))] ++ Wo38) := hD
            refine lv_aload_n hx hb dL_ropes_187 rfl (lv_at hl 7 rfl) ?_
            refine lv_iload hx hb dL_ropes_188 (lv_at hl 2 rfl) ?_
            refine lv_iconst (v := 2) hx hb dL_ropes_190 (by decide) ?_
            obtain ⟨hk10, -⟩ := us_B_k hB9 (Nat.le_trans hn9 (by omega))
            have hq10 := hB9.2.2.2.2
            have hl10 : (((([] ++ [64]) ++ us_il_list (nI (f (84 + 3 * y)))) ++ [42]) : List Nat).length ≤ (((0 + 1) + 2) + 1) := hn9
            have hpm : List.Perm (([(b2, .inr (1, [.ref v9, .int 0, .int 0, .int (nI ((([] ++ [64]) ++ us_il_list (nI (f (84 + 3 * y)))) ++ [42]).length)])), (v9, .inl (g.2.2.2.1, cap9, .inl a9)), (b, .inr (1, [.ref v, .int 0, .int 0, .int (nI (ut_r2 f i y).length)])), (v, .inl (g.2.2.2.1, cap, .inl a)), (q2, .inl (g.2.1, 4, .inl s4))] ++ Wo38) : va_W) (Wo38 ++ [(b2, .inr (1, [.ref v9, .int 0, .int 0, .int (nI ((([] ++ [64]) ++ us_il_list (nI (f (84 + 3 * y)))) ++ [42]).length)])), (v9, .inl (g.2.2.2.1, cap9, .inl a9)), (b, .inr (1, [.ref v, .int 0, .int 0, .int (nI (ut_r2 f i y).length)])), (v, .inl (g.2.2.2.1, cap, .inl a)), (q2, .inl (g.2.1, 4, .inl s4))]) := List.perm_append_comm
            have hFc := ub_freeP hD hS hA hpm
            obtain ⟨hPc, hDc⟩ := ub_subP hP hD hpm
            refine us_calli (va_runV (As := [.int (nI y), .int 2]) (rest := [.ref b2, .ref b]) ⟨hx, hb, hml, hown, hts⟩ (uo_waiting l g hR (x := (nI y)) (v := 2)) (cwV 2 hts gu_RL_109 rfl rfl rfl ⟨rfl, uhX8_waiting⟩ ⟨Nat.le_of_ble_eq_true rfl, Nat.le_of_ble_eq_true rfl⟩) (us_preO hR hZ hS hFc hPc hDc hK hN) rfl rfl hl.1 rfl (lv_room (Nat.le_of_ble_eq_true rfl)) dL_ropes_191 ⟨Nat.le_trans (Nat.le_of_eq (Nat.add_zero _)) (by show ((((3 + 252 * i + 14 * y) + k0) + 2) + k9) ≤ 3100; omega), Nat.le_trans (Nat.le_of_eq (Nat.add_zero _)) (by show ((((24 + 2688 * i + 81 * y) + 2 * cap) + 20) + 2 * cap9) ≤ 35000; omega)⟩) hP hD hS hA hpm (fun r Wo39 H locs hpost hP hD hS => ?_)
            have hP : va_P g.1 vwCl ([(b2, .inr (1, [.ref v9, .int 0, .int 0, .int (nI ((([] ++ [64]) ++ us_il_list (nI (f (84 + 3 * y)))) ++ [42]).length)])), (v9, .inl (g.2.2.2.1, cap9, .inl a9)), (b, .inr (1, [.ref v, .int 0, .int 0, .int (nI (ut_r2 f i y).length)])), (v, .inl (g.2.2.2.1, cap, .inl a)), (q2, .inl (g.2.1, 4, .inl s4))] ++ Wo39) H := ub_P_perm List.perm_append_comm hP
            have hD : va_D A ([(b2, .inr (1, [.ref v9, .int 0, .int 0, .int (nI ((([] ++ [64]) ++ us_il_list (nI (f (84 + 3 * y)))) ++ [42]).length)])), (v9, .inl (g.2.2.2.1, cap9, .inl a9)), (b, .inr (1, [.ref v, .int 0, .int 0, .int (nI (ut_r2 f i y).length)])), (v, .inl (g.2.2.2.1, cap, .inl a)), (q2, .inl (g.2.1, 4, .inl s4))] ++ Wo39) := ub_D_perm List.perm_append_comm hD
            obtain ⟨hr, hR⟩ := hpost
            have er : r = nI (f (85 + 3 * y)) := hr.trans ((uw_waiting (i := 2) hI hy1 (by decide)).trans (congrArg nI (congrArg f (by omega))))
            rw [er]
            have hm11 : (us_il_list (nI (f (85 + 3 * y))) : List Nat).length ≤ 1 := by rw [us_il_num _ (by omega)]; exact Nat.le_of_eq ((ut_num_len _).2.2 (by omega))
            have ht11 : (((([] ++ [64]) ++ us_il_list (nI (f (84 + 3 * y)))) ++ [42]) : List Nat).length ≤ (((0 + 1) + 2) + 1) := hn9
            have hn11 : (((([] ++ [64]) ++ us_il_list (nI (f (84 + 3 * y)))) ++ [42]) ++ us_il_list (nI (f (85 + 3 * y)))).length ≤ (((0 + 1) + 2) + 1) + 1 := by rw [List.length_append]; omega
            refine us_sbI (base := (((3 + 252 * i + 14 * y) + k0) + 2)) (bs := (((24 + 2688 * i + 81 * y) + 2 * cap) + 20)) K0 hl.1 hP hD hS (List.Perm.refl _) hB9 (by omega) (x := nI (f (85 + 3 * y))) (us_nI_ok (by omega)) (Nat.le_of_ble_eq_true rfl) (Nat.le_of_ble_eq_true rfl) (by show (((3 + 252 * i + 14 * y) + k0) + 2) + 10 ≤ 3100; omega) (by show (((24 + 2688 * i + 81 * y) + 2 * cap) + 20) + 4 * (_ + _) + 32 ≤ 35000; rw [us_il_len] at hm11; omega) (Nat.le_of_ble_eq_true rfl) dL_ropes_194 (fun v11 cap11 k11 a11 H locs hB11 hP hD hS => ?_)
            have hP : va_P g.1 vwCl ([(b2, .inr (1, [.ref v11, .int 0, .int 0, .int (nI (((([] ++ [64]) ++ us_il_list (nI (f (84 + 3 * y)))) ++ [42]) ++ us_il_list (nI (f (85 + 3 * y)))).length)])), (v11, .inl (g.2.2.2.1, cap11, .inl a11)), (b, .inr (1, [.ref v, .int 0, .int 0, .int (nI (ut_r2 f i y).length)])), (v, .inl (g.2.2.2.1, cap, .inl a)), (q2, .inl (g.2.1, 4, .inl s4))] ++ Wo39) H := hP
            have hD : va_D A ([(b2, .inr (1, [.ref v11, .int 0, .int 0, .int (nI (((([] ++ [64]) ++ us_il_list (nI (f (84 + 3 * y)))) ++ [42]) ++ us_il_list (nI (f (85 + 3 * y)))).length)])), (v11, .inl (g.2.2.2.1, cap11, .inl a11)), (b, .inr (1, [.ref v, .int 0, .int 0, .int (nI (ut_r2 f i y).length)])), (v, .inl (g.2.2.2.1, cap, .inl a)), (q2, .inl (g.2.1, 4, .inl s4))] ++ Wo39) := hD
            have hn9 := hn11
            refine us_sbT (base := (((3 + 252 * i + 14 * y) + k0) + 2)) (bs := (((24 + 2688 * i + 81 * y) + 2 * cap) + 20)) K0 hl.1 hP hD hS (List.Perm.refl _) hB11 (by omega) (Nat.le_of_ble_eq_true rfl) (Nat.le_of_ble_eq_true rfl) (by show (((3 + 252 * i + 14 * y) + k0) + 2) + 12 ≤ 3100; omega) (by show (((24 + 2688 * i + 81 * y) + 2 * cap) + 20) + 5 * _ + 36 ≤ 35000; omega) (Nat.le_of_ble_eq_true rfl) dL_ropes_197 (fun r9 v9 a9 H locs hT9 hP hD hS => ?_)
            have hP : va_P g.1 vwCl ([(r9, .inr (0, [.ref v9, .int 0, .int 0, .int 0])), (v9, .inl (g.2.2.2.1, ((((([] ++ [64]) ++ us_il_list (nI (f (84 + 3 * y)))) ++ [42]) ++ us_il_list (nI (f (85 + 3 * y)))).length), .inl a9)), (b, .inr (1, [.ref v, .int 0, .int 0, .int (nI (ut_r2 f i y).length)])), (v, .inl (g.2.2.2.1, cap, .inl a)), (q2, .inl (g.2.1, 4, .inl s4))] ++ Wo39) H := hP
            have hD : va_D A ([(r9, .inr (0, [.ref v9, .int 0, .int 0, .int 0])), (v9, .inl (g.2.2.2.1, ((((([] ++ [64]) ++ us_il_list (nI (f (84 + 3 * y)))) ++ [42]) ++ us_il_list (nI (f (85 + 3 * y)))).length), .inl a9)), (b, .inr (1, [.ref v, .int 0, .int 0, .int (nI (ut_r2 f i y).length)])), (v, .inl (g.2.2.2.1, cap, .inl a)), (q2, .inl (g.2.1, 4, .inl s4))] ++ Wo39) := hD
            refine lv_goto (tgt := 205) hx hb dL_ropes_200 (by decide) ?_
            refine W.widen (k := ((3 + 252 * i + 14 * y) + 14) + k0) (n := ((24 + 2688 * i + 81 * y) + 81) + 2 * cap) (by omega) (by omega) ?_
            have hm12 : ((((([] ++ [64]) ++ us_il_list (nI (f (84 + 3 * y)))) ++ [42]) ++ us_il_list (nI (f (85 + 3 * y)))) : List Nat).length ≤ 5 := by omega
            have ht12 : ((ut_r2 f i y) : List Nat).length ≤ (14 + 5 * y) := (ut_r2_len (k := y) hI hi0 (by omega))
            have hn12 : ((ut_r2 f i y) ++ (((([] ++ [64]) ++ us_il_list (nI (f (84 + 3 * y)))) ++ [42]) ++ us_il_list (nI (f (85 + 3 * y))))).length ≤ (14 + 5 * y) + 5 := by rw [List.length_append]; omega
            refine us_sbS (base := ((3 + 252 * i + 14 * y) + 14)) (bs := ((24 + 2688 * i + 81 * y) + 81)) K0 hl.1 hP hD hS (uo_P0 (ub_permN (ws := [(r9, .inr (0, [.ref v9, .int 0, .int 0, .int 0])), (v9, .inl (g.2.2.2.1, ((((([] ++ [64]) ++ us_il_list (nI (f (84 + 3 * y)))) ++ [42]) ++ us_il_list (nI (f (85 + 3 * y)))).length), .inl a9)), (b, .inr (1, [.ref v, .int 0, .int 0, .int (nI (ut_r2 f i y).length)])), (v, .inl (g.2.2.2.1, cap, .inl a)), (q2, .inl (g.2.1, 4, .inl s4))]) (ws' := [(b, .inr (1, [.ref v, .int 0, .int 0, .int (nI (ut_r2 f i y).length)])), (v, .inl (g.2.2.2.1, cap, .inl a)), (r9, .inr (0, [.ref v9, .int 0, .int 0, .int 0])), (v9, .inl (g.2.2.2.1, ((((([] ++ [64]) ++ us_il_list (nI (f (84 + 3 * y)))) ++ [42]) ++ us_il_list (nI (f (85 + 3 * y)))).length), .inl a9))] ++ [(q2, .inl (g.2.1, 4, .inl s4))]) 5 rfl [2, 3, 0, 1, 4] (by decide) rfl)) hB (by omega) hT9 (by omega) (Nat.le_of_ble_eq_true rfl) (Nat.le_of_ble_eq_true rfl) (by show ((3 + 252 * i + 14 * y) + 14) + 10 ≤ 3100; omega) (by show ((24 + 2688 * i + 81 * y) + 81) + 4 * (_ + _) + 32 ≤ 35000; omega) (Nat.le_of_ble_eq_true rfl) dL_ropes_205 (fun v12 cap12 k12 a12 H locs hB12 hP hD hS => ?_)
            have hP : va_P g.1 vwCl ([(b, .inr (1, [.ref v12, .int 0, .int 0, .int (nI ((ut_r2 f i y) ++ (((([] ++ [64]) ++ us_il_list (nI (f (84 + 3 * y)))) ++ [42]) ++ us_il_list (nI (f (85 + 3 * y))))).length)])), (v12, .inl (g.2.2.2.1, cap12, .inl a12)), (r9, .inr (0, [.ref v9, .int 0, .int 0, .int 0])), (v9, .inl (g.2.2.2.1, ((((([] ++ [64]) ++ us_il_list (nI (f (84 + 3 * y)))) ++ [42]) ++ us_il_list (nI (f (85 + 3 * y)))).length), .inl a9)), (q2, .inl (g.2.1, 4, .inl s4))] ++ Wo39) H := hP
            have hD : va_D A ([(b, .inr (1, [.ref v12, .int 0, .int 0, .int (nI ((ut_r2 f i y) ++ (((([] ++ [64]) ++ us_il_list (nI (f (84 + 3 * y)))) ++ [42]) ++ us_il_list (nI (f (85 + 3 * y))))).length)])), (v12, .inl (g.2.2.2.1, cap12, .inl a12)), (r9, .inr (0, [.ref v9, .int 0, .int 0, .int 0])), (v9, .inl (g.2.2.2.1, ((((([] ++ [64]) ++ us_il_list (nI (f (84 + 3 * y)))) ++ [42]) ++ us_il_list (nI (f (85 + 3 * y)))).length), .inl a9)), (q2, .inl (g.2.1, 4, .inl s4))] ++ Wo39) := hD
            have ed : ((ut_r2 f i y) ++ (((([] ++ [64]) ++ us_il_list (nI (f (84 + 3 * y)))) ++ [42]) ++ us_il_list (nI (f (85 + 3 * y))))) = ut_r2 f i (y + 1) := by unfold ut_r2; rw [ut_pl]; unfold ut_pp; rw [if_pos ho, us_il_num _ (by omega), us_il_num _ (by omega)]; simp only [List.append_assoc, List.singleton_append, List.nil_append, List.cons_append]
            have et13 : ((ut_r2 f i y) ++ (((([] ++ [64]) ++ us_il_list (nI (f (84 + 3 * y)))) ++ [42]) ++ us_il_list (nI (f (85 + 3 * y))))) = (ut_r2 f i (y + 1)) := ed
            rw [et13] at hB12 hP hD
            have hn13 : ((ut_r2 f i (y + 1)) : List Nat).length ≤ (14 + 5 * (y + 1)) := hl2
            obtain ⟨hk14, -⟩ := us_B_k hB12 (Nat.le_trans hn13 (by omega))
            have hq14 := hB12.2.2.2.2
            have hl14 : ((ut_r2 f i (y + 1)) : List Nat).length ≤ (14 + 5 * (y + 1)) := hn13
            refine lv_pop hx hb dL_ropes_208 rfl ?_
            refine lv_iinc (v := nI y + 1) (lv' := [(8, .int (nI y + 1)), (7, .int (nI (um_cnt (fun k => decide (f (83 + 3 * k) = i)) (y + 1)))), (9, .int 1), (6, .ref b), (5, .int (nI i)), (4, .int la), (3, .int (nI (um_sum (fun r => f (13 + 6 * r)) i))), (0, .ref h0), (1, .int (nI (f 0))), (2, .ref q2)]) hx hb dL_ropes_209 hl (k := 2) rfl rfl (by decide) rfl (fun ls hl => ?_)
            refine lv_goto (tgt := 109) hx hb dL_ropes_212 (by decide) ?_
            rw [nI_1] at hl
            have hP : va_P g.1 vwCl ([(b, .inr (1, [.ref v12, .int 0, .int 0, .int (nI (ut_r2 f i (y + 1)).length)])), (v12, .inl (g.2.2.2.1, cap12, .inl a12)), (q2, .inl (g.2.1, 4, .inl s4))] ++ Wo39) H := us_keepP (List.Sublist.cons₂ _ (List.Sublist.cons₂ _ (List.Sublist.cons _ (List.Sublist.cons _ (List.Sublist.cons₂ _ List.Sublist.slnil))))) hP
            have hD : va_D A ([(b, .inr (1, [.ref v12, .int 0, .int 0, .int (nI (ut_r2 f i (y + 1)).length)])), (v12, .inl (g.2.2.2.1, cap12, .inl a12)), (q2, .inl (g.2.1, 4, .inl s4))] ++ Wo39) := us_keepD (List.Sublist.cons₂ _ (List.Sublist.cons₂ _ (List.Sublist.cons _ (List.Sublist.cons _ (List.Sublist.cons₂ _ List.Sublist.slnil))))) hD
            refine W.widen (k := 3 + 252 * i + 14 * (y + 1) + k12) (n := 24 + 2688 * i + 81 * (y + 1) + 2 * cap12) (by omega) (by omega) ?_
            exact ihy (y + 1) b v12 cap12 k12 a12 Wo39 _ _ ls (by omega) hB12 hR (lv_sub hl [0, 1, 3, 4, 5, 6, 7, 8, 9] rfl) hP hD hS
          · refine lv_icmp_ne (tgt := 135) hx hb dL_ropes_128 (by decide) (fun _ => ?_) (fun cc => absurd cc (fun z => ho ((nI_eq (by omega) (by omega)).mp z)))
            refine lv_iconst (v := 0) hx hb dL_ropes_135 (by decide) ?_
            refine lv_istore (lv' := [(9, .int 0), (8, .int (nI y)), (7, .int (nI (um_cnt (fun k => decide (f (83 + 3 * k) = i)) y))), (6, .ref b), (5, .int (nI i)), (4, .int la), (3, .int (nI (um_sum (fun r => f (13 + 6 * r)) i))), (0, .ref h0), (1, .int (nI (f 0))), (2, .ref q2)]) hx hb dL_ropes_136 hl (by decide) rfl (fun ls hl => ?_)
            refine lv_iload hx hb dL_ropes_138 (lv_at hl 2 rfl) ?_
            refine lv_iload hx hb dL_ropes_140 (lv_at hl 0 rfl) ?_
            refine lv_if_eq (tgt := 149) hx hb dL_ropes_142 (by decide) (fun _ => ?_) (fun cc => absurd rfl cc)
            refine lv_iconst (v := 0) hx hb dL_ropes_149 (by decide) ?_
            refine lv_iadd hx hb dL_ropes_150 ?_
            refine us_topi (x := nI (um_cnt (fun k => decide (f (83 + 3 * k) = i)) y + 0)) (nI_add (um_cnt (fun k => decide (f (83 + 3 * k) = i)) y) 0) ?_
            have e7 : um_cnt (fun k => decide (f (83 + 3 * k) = i)) y + 0 = um_cnt (fun k => decide (f (83 + 3 * k) = i)) (y + 1) := by rw [hcs, decide_eq_false ho]; rfl
            rw [e7]
            refine lv_istore (lv' := [(7, .int (nI (um_cnt (fun k => decide (f (83 + 3 * k) = i)) (y + 1)))), (9, .int 0), (8, .int (nI y)), (6, .ref b), (5, .int (nI i)), (4, .int la), (3, .int (nI (um_sum (fun r => f (13 + 6 * r)) i))), (0, .ref h0), (1, .int (nI (f 0))), (2, .ref q2)]) hx hb dL_ropes_151 hl (by decide) rfl (fun ls hl => ?_)
            refine lv_aload hx hb dL_ropes_153 (lv_at hl 3 rfl) ?_
            refine lv_iload hx hb dL_ropes_155 (lv_at hl 1 rfl) ?_
            refine lv_if_eq (tgt := 203) hx hb dL_ropes_157 (by decide) (fun _ => ?_) (fun cc => absurd rfl cc)
            refine va_ldcS (q := g.2.2.2.2.1 9) hx hb hown (hZ.2.2.2.2.1 0 (by decide)) dL_ropes_203 ?_
            have hm15 : ([] : List Nat).length ≤ 0 := Nat.le_refl _
            have ht15 : ((ut_r2 f i y) : List Nat).length ≤ (14 + 5 * y) := (ut_r2_len (k := y) hI hi0 (by omega))
            have hn15 : ((ut_r2 f i y) ++ []).length ≤ (14 + 5 * y) + 0 := by rw [List.length_append]; omega
            refine us_sbK (base := (3 + 252 * i + 14 * y)) (bs := (24 + 2688 * i + 81 * y)) K0 hl.1 hP hD hS (List.Perm.refl _) hB (by omega) (i0 := 9) (by decide) (t0 := []) rfl (fun y hy => absurd hy (Nat.not_lt_zero y)) (Nat.le_of_ble_eq_true rfl) (Nat.le_of_ble_eq_true rfl) (by show (3 + 252 * i + 14 * y) + 10 ≤ 3100; omega) (by show (24 + 2688 * i + 81 * y) + 4 * (_ + _) + 32 ≤ 35000; have hz15 : us_len.getD 9 0 = 0 := rfl; omega) (Nat.le_of_ble_eq_true rfl) dL_ropes_205 (fun v15 cap15 k15 a15 H locs hB15 hP hD hS => ?_)
            have hP : va_P g.1 vwCl ([(b, .inr (1, [.ref v15, .int 0, .int 0, .int (nI ((ut_r2 f i y) ++ []).length)])), (v15, .inl (g.2.2.2.1, cap15, .inl a15)), (q2, .inl (g.2.1, 4, .inl s4))] ++ Wo37) H := hP
            have hD : va_D A ([(b, .inr (1, [.ref v15, .int 0, .int 0, .int (nI ((ut_r2 f i y) ++ []).length)])), (v15, .inl (g.2.2.2.1, cap15, .inl a15)), (q2, .inl (g.2.1, 4, .inl s4))] ++ Wo37) := hD
            have ed : ((ut_r2 f i y) ++ []) = ut_r2 f i (y + 1) := by unfold ut_r2; rw [ut_pl]; unfold ut_pp; rw [if_neg ho, List.append_nil, List.append_nil]
            have et16 : ((ut_r2 f i y) ++ []) = (ut_r2 f i (y + 1)) := ed
            rw [et16] at hB15 hP hD
            have hn16 : ((ut_r2 f i (y + 1)) : List Nat).length ≤ (14 + 5 * (y + 1)) := hl2
            obtain ⟨hk17, -⟩ := us_B_k hB15 (Nat.le_trans hn16 (by omega))
            have hq17 := hB15.2.2.2.2
            have hl17 : ((ut_r2 f i (y + 1)) : List Nat).length ≤ (14 + 5 * (y + 1)) := hn16
            refine lv_pop hx hb dL_ropes_208 rfl ?_
            refine lv_iinc (v := nI y + 1) (lv' := [(8, .int (nI y + 1)), (7, .int (nI (um_cnt (fun k => decide (f (83 + 3 * k) = i)) (y + 1)))), (9, .int 0), (6, .ref b), (5, .int (nI i)), (4, .int la), (3, .int (nI (um_sum (fun r => f (13 + 6 * r)) i))), (0, .ref h0), (1, .int (nI (f 0))), (2, .ref q2)]) hx hb dL_ropes_209 hl (k := 2) rfl rfl (by decide) rfl (fun ls hl => ?_)
            refine lv_goto (tgt := 109) hx hb dL_ropes_212 (by decide) ?_
            rw [nI_1] at hl
            refine W.widen (k := 3 + 252 * i + 14 * (y + 1) + k15) (n := 24 + 2688 * i + 81 * (y + 1) + 2 * cap15) (by omega) (by omega) ?_
            exact ihy (y + 1) b v15 cap15 k15 a15 Wo37 _ _ ls (by omega) hB15 hR (lv_sub hl [0, 1, 3, 4, 5, 6, 7, 8, 9] rfl) hP hD hS
      have loopT : ∀ (qz z : Nat) (b : Nat) (v : Nat) (cap : Nat) (k0 : Nat) (a : Nat → Int32) (Wo : va_W) (H : Heap) (locs : List Loc) (ls : Array Slot), f (13 + 6 * i) = z + qz → us_B (ut_r1 f i z) cap k0 a → uo_W g h0 k f hist sv lr ld L Wo → lv_has ls 11 [(7, .int (nI z)), (6, .ref b), (5, .int (nI i)), (4, .int la), (3, .int (nI (um_sum (fun r => f (13 + 6 * r)) i))), (0, .ref h0), (1, .int (nI (f 0))), (2, .ref q2)] → va_P g.1 vwCl ([(b, .inr (1, [.ref v, .int 0, .int 0, .int (nI (ut_r1 f i z).length)])), (v, .inl (g.2.2.2.1, cap, .inl a)), (q2, .inl (g.2.1, 4, .inl s4))] ++ Wo) H → va_D A ([(b, .inr (1, [.ref v, .int 0, .int 0, .int (nI (ut_r1 f i z).length)])), (v, .inl (g.2.2.2.1, cap, .inl a)), (q2, .inl (g.2.1, 4, .inl s4))] ++ Wo) → va_S A s.heap H locs → W p l e ({ frames := 7, cells := 3100, slots := 35000, locals := 160 } : Room) s m args below meth c H locs ((3 + 252 * i) + k0) ((24 + 2688 * i) + 2 * cap) Q (F0 m 77 ls []) := by
        intro qz
        induction qz with
        | zero =>
          intro z b v cap k0 a Wo H locs ls hiqz hB hR hl hP hD hS
          have ez : z = f (13 + 6 * i) := by omega
          obtain ⟨hk18, -⟩ := us_B_k hB (Nat.le_trans (ut_r1_len hI hi0) (by omega))
          have hq18 := hB.2.2.2.2
          have hl18 : ((ut_r1 f i z) : List Nat).length ≤ (5 + z) := (ut_r1_len hI hi0)
          refine lv_iload hx hb dL_ropes_77 (lv_at hl 0 rfl) ?_
          refine lv_aload_n hx hb dL_ropes_79 rfl (lv_at hl 5 rfl) ?_
          refine lv_iload hx hb dL_ropes_80 (lv_at hl 2 rfl) ?_
          refine lv_iconst (v := 2) hx hb dL_ropes_82 (by decide) ?_
          have hpm : List.Perm (([(b, .inr (1, [.ref v, .int 0, .int 0, .int (nI (ut_r1 f i z).length)])), (v, .inl (g.2.2.2.1, cap, .inl a)), (q2, .inl (g.2.1, 4, .inl s4))] ++ Wo) : va_W) (Wo ++ [(b, .inr (1, [.ref v, .int 0, .int 0, .int (nI (ut_r1 f i z).length)])), (v, .inl (g.2.2.2.1, cap, .inl a)), (q2, .inl (g.2.1, 4, .inl s4))]) := List.perm_append_comm
          have hFc := ub_freeP hD hS hA hpm
          obtain ⟨hPc, hDc⟩ := ub_subP hP hD hpm
          refine us_calli (va_runV (As := [.int (nI i), .int 2]) (rest := [.int (nI z)]) ⟨hx, hb, hml, hown, hts⟩ (uo_ropeOf l g hR (x := (nI i)) (v := 2)) (cwV 2 hts gu_RL_100 rfl rfl rfl ⟨rfl, uhX8_ropeOf⟩ ⟨Nat.le_of_ble_eq_true rfl, Nat.le_of_ble_eq_true rfl⟩) (us_preO hR hZ hS hFc hPc hDc hK hN) rfl rfl hl.1 rfl (lv_room (Nat.le_of_ble_eq_true rfl)) dL_ropes_83 ⟨Nat.le_trans (Nat.le_of_eq (Nat.add_zero _)) (by show ((3 + 252 * i) + k0) ≤ 3100; omega), Nat.le_trans (Nat.le_of_eq (Nat.add_zero _)) (by show ((24 + 2688 * i) + 2 * cap) ≤ 35000; omega)⟩) hP hD hS hA hpm (fun r Wo40 H locs hpost hP hD hS => ?_)
          have hP : va_P g.1 vwCl ([(b, .inr (1, [.ref v, .int 0, .int 0, .int (nI (ut_r1 f i z).length)])), (v, .inl (g.2.2.2.1, cap, .inl a)), (q2, .inl (g.2.1, 4, .inl s4))] ++ Wo40) H := ub_P_perm List.perm_append_comm hP
          have hD : va_D A ([(b, .inr (1, [.ref v, .int 0, .int 0, .int (nI (ut_r1 f i z).length)])), (v, .inl (g.2.2.2.1, cap, .inl a)), (q2, .inl (g.2.1, 4, .inl s4))] ++ Wo40) := ub_D_perm List.perm_append_comm hD
          obtain ⟨hr, hR⟩ := hpost
          have er : r = nI (f (13 + 6 * i)) := hr.trans ((uw_ropeOf (i := 2) hI hi0 (by decide)).trans (congrArg nI (congrArg f (by omega))))
          rw [er]
          refine lv_icmp_ge (tgt := 103) hx hb dL_ropes_86 (by decide) (fun _ => ?_) (fun cc => absurd (nI_le (by omega) (by omega)) cc)
          rw [ez] at hB hP hD
          have et19 : (ut_r1 f i (f (13 + 6 * i))) = (ut_r2 f i 0) := (by unfold ut_r2; rw [ut_pl, List.append_nil])
          rw [et19] at hB hP hD
          have hn19 : ((ut_r2 f i 0) : List Nat).length ≤ 14 := ut_r2_len hI hi0 (Nat.zero_le _)
          refine lv_iconst (v := 0) hx hb dL_ropes_103 (by decide) ?_
          refine lv_istore (lv' := [(7, .int 0), (6, .ref b), (5, .int (nI i)), (4, .int la), (3, .int (nI (um_sum (fun r => f (13 + 6 * r)) i))), (0, .ref h0), (1, .int (nI (f 0))), (2, .ref q2)]) hx hb dL_ropes_104 hl (by decide) rfl (fun ls hl => ?_)
          refine lv_iconst (v := 0) hx hb dL_ropes_106 (by decide) ?_
          refine lv_istore (lv' := [(8, .int 0), (7, .int 0), (6, .ref b), (5, .int (nI i)), (4, .int la), (3, .int (nI (um_sum (fun r => f (13 + 6 * r)) i))), (0, .ref h0), (1, .int (nI (f 0))), (2, .ref q2)]) hx hb dL_ropes_107 hl (by decide) rfl (fun ls hl => ?_)
          refine W.widen (k := 3 + 252 * i + 14 * 0 + k0) (n := 24 + 2688 * i + 81 * 0 + 2 * cap) (by omega) (by omega) ?_
          exact loopP (f 1) 0 b v cap k0 a Wo40 _ _ ls (by omega) hB hR (lv_sub hl [0, 1, 2, 3, 4, 5, 6, 7, 8] rfl) hP hD hS
        | succ qz ihz =>
          intro z b v cap k0 a Wo H locs ls hiqz hB hR hl hP hD hS
          obtain ⟨hk20, -⟩ := us_B_k hB (Nat.le_trans (ut_r1_len hI hi0) (by omega))
          have hq20 := hB.2.2.2.2
          have hl20 : ((ut_r1 f i z) : List Nat).length ≤ (5 + z) := (ut_r1_len hI hi0)
          refine lv_iload hx hb dL_ropes_77 (lv_at hl 0 rfl) ?_
          refine lv_aload_n hx hb dL_ropes_79 rfl (lv_at hl 5 rfl) ?_
          refine lv_iload hx hb dL_ropes_80 (lv_at hl 2 rfl) ?_
          refine lv_iconst (v := 2) hx hb dL_ropes_82 (by decide) ?_
          have hpm : List.Perm (([(b, .inr (1, [.ref v, .int 0, .int 0, .int (nI (ut_r1 f i z).length)])), (v, .inl (g.2.2.2.1, cap, .inl a)), (q2, .inl (g.2.1, 4, .inl s4))] ++ Wo) : va_W) (Wo ++ [(b, .inr (1, [.ref v, .int 0, .int 0, .int (nI (ut_r1 f i z).length)])), (v, .inl (g.2.2.2.1, cap, .inl a)), (q2, .inl (g.2.1, 4, .inl s4))]) := List.perm_append_comm
          have hFc := ub_freeP hD hS hA hpm
          obtain ⟨hPc, hDc⟩ := ub_subP hP hD hpm
          refine us_calli (va_runV (As := [.int (nI i), .int 2]) (rest := [.int (nI z)]) ⟨hx, hb, hml, hown, hts⟩ (uo_ropeOf l g hR (x := (nI i)) (v := 2)) (cwV 2 hts gu_RL_100 rfl rfl rfl ⟨rfl, uhX8_ropeOf⟩ ⟨Nat.le_of_ble_eq_true rfl, Nat.le_of_ble_eq_true rfl⟩) (us_preO hR hZ hS hFc hPc hDc hK hN) rfl rfl hl.1 rfl (lv_room (Nat.le_of_ble_eq_true rfl)) dL_ropes_83 ⟨Nat.le_trans (Nat.le_of_eq (Nat.add_zero _)) (by show ((3 + 252 * i) + k0) ≤ 3100; omega), Nat.le_trans (Nat.le_of_eq (Nat.add_zero _)) (by show ((24 + 2688 * i) + 2 * cap) ≤ 35000; omega)⟩) hP hD hS hA hpm (fun r Wo41 H locs hpost hP hD hS => ?_)
          have hP : va_P g.1 vwCl ([(b, .inr (1, [.ref v, .int 0, .int 0, .int (nI (ut_r1 f i z).length)])), (v, .inl (g.2.2.2.1, cap, .inl a)), (q2, .inl (g.2.1, 4, .inl s4))] ++ Wo41) H := ub_P_perm List.perm_append_comm hP
          have hD : va_D A ([(b, .inr (1, [.ref v, .int 0, .int 0, .int (nI (ut_r1 f i z).length)])), (v, .inl (g.2.2.2.1, cap, .inl a)), (q2, .inl (g.2.1, 4, .inl s4))] ++ Wo41) := ub_D_perm List.perm_append_comm hD
          obtain ⟨hr, hR⟩ := hpost
          have er : r = nI (f (13 + 6 * i)) := hr.trans ((uw_ropeOf (i := 2) hI hi0 (by decide)).trans (congrArg nI (congrArg f (by omega))))
          rw [er]
          refine lv_icmp_ge (tgt := 103) hx hb dL_ropes_86 (by decide) (fun cc => absurd cc (nI_ge (by omega) (by omega))) (fun _ => ?_)
          refine lv_aload hx hb dL_ropes_89 (lv_at hl 1 rfl) ?_
          refine lv_bipush (v := 126) hx hb dL_ropes_91 (by decide) ?_
          have hm21 : ([126] : List Nat).length ≤ 1 := Nat.le_refl 1
          have ht21 : ((ut_r1 f i z) : List Nat).length ≤ (5 + z) := (ut_r1_len hI hi0)
          have hn21 : ((ut_r1 f i z) ++ [126]).length ≤ (5 + z) + 1 := by rw [List.length_append]; omega
          refine us_sbC (base := (3 + 252 * i)) (bs := (24 + 2688 * i)) K0 hl.1 hP hD hS (List.Perm.refl _) hB (by omega) (c0 := 126) (by decide) (Nat.le_of_ble_eq_true rfl) (Nat.le_of_ble_eq_true rfl) (by show (3 + 252 * i) + 10 ≤ 3100; omega) (by show (24 + 2688 * i) + 4 * (_ + _) + 32 ≤ 35000; omega) (Nat.le_of_ble_eq_true rfl) dL_ropes_93 (fun v21 cap21 k21 a21 H locs hB21 hP hD hS => ?_)
          have hP : va_P g.1 vwCl ([(b, .inr (1, [.ref v21, .int 0, .int 0, .int (nI ((ut_r1 f i z) ++ [126]).length)])), (v21, .inl (g.2.2.2.1, cap21, .inl a21)), (q2, .inl (g.2.1, 4, .inl s4))] ++ Wo41) H := hP
          have hD : va_D A ([(b, .inr (1, [.ref v21, .int 0, .int 0, .int (nI ((ut_r1 f i z) ++ [126]).length)])), (v21, .inl (g.2.2.2.1, cap21, .inl a21)), (q2, .inl (g.2.1, 4, .inl s4))] ++ Wo41) := hD
          have ed : ((ut_r1 f i z) ++ [126]) = ut_r1 f i (z + 1) := by unfold ut_r1; rw [List.append_assoc]; congr 1; exact List.replicate_succ'.symm
          have et22 : ((ut_r1 f i z) ++ [126]) = (ut_r1 f i (z + 1)) := ed
          rw [et22] at hB21 hP hD
          have hn22 : ((ut_r1 f i (z + 1)) : List Nat).length ≤ (5 + (z + 1)) := ut_r1_len hI hi0
          refine lv_pop hx hb dL_ropes_96 rfl ?_
          refine lv_iinc (v := nI z + 1) (lv' := [(7, .int (nI z + 1)), (6, .ref b), (5, .int (nI i)), (4, .int la), (3, .int (nI (um_sum (fun r => f (13 + 6 * r)) i))), (0, .ref h0), (1, .int (nI (f 0))), (2, .ref q2)]) hx hb dL_ropes_97 hl (k := 0) rfl rfl (by decide) rfl (fun ls hl => ?_)
          refine lv_goto (tgt := 77) hx hb dL_ropes_100 (by decide) ?_
          rw [nI_1] at hl
          exact ihz (z + 1) b v21 cap21 k21 a21 Wo41 _ _ ls (by omega) hB21 hR (lv_sub hl [0, 1, 2, 3, 4, 5, 6, 7] rfl) hP hD hS
      refine lv_iload hx hb dL_ropes_18 (lv_at hl 0 rfl) ?_
      refine lv_iload_n hx hb dL_ropes_20 rfl (lv_at hl 4 rfl) ?_
      refine lv_icmp_ge (tgt := 452) hx hb dL_ropes_21 (by decide) (fun cc => absurd cc (nI_ge (by omega) (by omega))) (fun _ => ?_)
      refine us_sbN K0 hl.1 hP hD hS (Nat.le_of_ble_eq_true rfl) (Nat.le_of_ble_eq_true rfl) (by show (1 + 252 * i) + 2 ≤ 3100; omega) (by show (4 + 2688 * i) + 20 ≤ 35000; omega) (Nat.le_of_ble_eq_true rfl) dL_ropes_24 dL_ropes_27 dL_ropes_28 (fun b v H locs hP hD hS => ?_)
      refine W.widen (k := (3 + 252 * i) + 0) (n := (24 + 2688 * i) + 2 * 16) (by omega) (by omega) ?_
      have hP : va_P g.1 vwCl ([(b, .inr (1, [.ref v, .int 0, .int 0, .int (nI ([]).length)])), (v, .inl (g.2.2.2.1, 16, .inl (fun _ => 0))), (q2, .inl (g.2.1, 4, .inl s4))] ++ Wo) H := hP
      have hD : va_D A ([(b, .inr (1, [.ref v, .int 0, .int 0, .int (nI ([]).length)])), (v, .inl (g.2.2.2.1, 16, .inl (fun _ => 0))), (q2, .inl (g.2.1, 4, .inl s4))] ++ Wo) := hD
      refine lv_iload hx hb dL_ropes_31 (lv_at hl 0 rfl) ?_
      have hm23 : (us_il_list (nI i) : List Nat).length ≤ 2 := by rw [us_il_num i (by omega)]; exact (ut_num_len i).2.1
      have ht23 : ([] : List Nat).length ≤ 0 := (Nat.le_refl 0)
      have hn23 : ([] ++ us_il_list (nI i)).length ≤ 0 + 2 := by rw [List.length_append]; omega
      refine us_sbI (base := (3 + 252 * i)) (bs := (24 + 2688 * i)) K0 hl.1 hP hD hS (List.Perm.refl _) us_B0 (by omega) (x := nI i) (us_nI_ok (by omega)) (Nat.le_of_ble_eq_true rfl) (Nat.le_of_ble_eq_true rfl) (by show (3 + 252 * i) + 10 ≤ 3100; omega) (by show (24 + 2688 * i) + 4 * (_ + _) + 32 ≤ 35000; rw [us_il_len] at hm23; omega) (Nat.le_of_ble_eq_true rfl) dL_ropes_33 (fun v23 cap23 k23 a23 H locs hB23 hP hD hS => ?_)
      have hP : va_P g.1 vwCl ([(b, .inr (1, [.ref v23, .int 0, .int 0, .int (nI ([] ++ us_il_list (nI i)).length)])), (v23, .inl (g.2.2.2.1, cap23, .inl a23)), (q2, .inl (g.2.1, 4, .inl s4))] ++ Wo) H := hP
      have hD : va_D A ([(b, .inr (1, [.ref v23, .int 0, .int 0, .int (nI ([] ++ us_il_list (nI i)).length)])), (v23, .inl (g.2.2.2.1, cap23, .inl a23)), (q2, .inl (g.2.1, 4, .inl s4))] ++ Wo) := hD
      refine lv_bipush (v := 58) hx hb dL_ropes_36 (by decide) ?_
      have hm24 : ([58] : List Nat).length ≤ 1 := Nat.le_refl 1
      have ht24 : (([] ++ us_il_list (nI i)) : List Nat).length ≤ (0 + 2) := hn23
      have hn24 : (([] ++ us_il_list (nI i)) ++ [58]).length ≤ (0 + 2) + 1 := by rw [List.length_append]; omega
      refine us_sbC (base := (3 + 252 * i)) (bs := (24 + 2688 * i)) K0 hl.1 hP hD hS (List.Perm.refl _) hB23 (by omega) (c0 := 58) (by decide) (Nat.le_of_ble_eq_true rfl) (Nat.le_of_ble_eq_true rfl) (by show (3 + 252 * i) + 10 ≤ 3100; omega) (by show (24 + 2688 * i) + 4 * (_ + _) + 32 ≤ 35000; omega) (Nat.le_of_ble_eq_true rfl) dL_ropes_38 (fun v24 cap24 k24 a24 H locs hB24 hP hD hS => ?_)
      have hP : va_P g.1 vwCl ([(b, .inr (1, [.ref v24, .int 0, .int 0, .int (nI (([] ++ us_il_list (nI i)) ++ [58]).length)])), (v24, .inl (g.2.2.2.1, cap24, .inl a24)), (q2, .inl (g.2.1, 4, .inl s4))] ++ Wo) H := hP
      have hD : va_D A ([(b, .inr (1, [.ref v24, .int 0, .int 0, .int (nI (([] ++ us_il_list (nI i)) ++ [58]).length)])), (v24, .inl (g.2.2.2.1, cap24, .inl a24)), (q2, .inl (g.2.1, 4, .inl s4))] ++ Wo) := hD
      refine lv_aload_n hx hb dL_ropes_41 rfl (lv_at hl 3 rfl) ?_
      refine lv_iload hx hb dL_ropes_42 (lv_at hl 0 rfl) ?_
      refine lv_iconst (v := 0) hx hb dL_ropes_44 (by decide) ?_
      obtain ⟨hk25, -⟩ := us_B_k hB24 (Nat.le_trans hn24 (by omega))
      have hq25 := hB24.2.2.2.2
      have hl25 : ((([] ++ us_il_list (nI i)) ++ [58]) : List Nat).length ≤ ((0 + 2) + 1) := hn24
      have hpm : List.Perm (([(b, .inr (1, [.ref v24, .int 0, .int 0, .int (nI (([] ++ us_il_list (nI i)) ++ [58]).length)])), (v24, .inl (g.2.2.2.1, cap24, .inl a24)), (q2, .inl (g.2.1, 4, .inl s4))] ++ Wo) : va_W) (Wo ++ [(b, .inr (1, [.ref v24, .int 0, .int 0, .int (nI (([] ++ us_il_list (nI i)) ++ [58]).length)])), (v24, .inl (g.2.2.2.1, cap24, .inl a24)), (q2, .inl (g.2.1, 4, .inl s4))]) := List.perm_append_comm
      have hFc := ub_freeP hD hS hA hpm
      obtain ⟨hPc, hDc⟩ := ub_subP hP hD hpm
      refine us_calli (va_runV (As := [.int (nI i), .int 0]) (rest := [.ref b]) ⟨hx, hb, hml, hown, hts⟩ (uo_ropeOf l g hR (x := (nI i)) (v := 0)) (cwV 2 hts gu_RL_100 rfl rfl rfl ⟨rfl, uhX8_ropeOf⟩ ⟨Nat.le_of_ble_eq_true rfl, Nat.le_of_ble_eq_true rfl⟩) (us_preO hR hZ hS hFc hPc hDc hK hN) rfl rfl hl.1 rfl (lv_room (Nat.le_of_ble_eq_true rfl)) dL_ropes_45 ⟨Nat.le_trans (Nat.le_of_eq (Nat.add_zero _)) (by show ((3 + 252 * i) + k24) ≤ 3100; omega), Nat.le_trans (Nat.le_of_eq (Nat.add_zero _)) (by show ((24 + 2688 * i) + 2 * cap24) ≤ 35000; omega)⟩) hP hD hS hA hpm (fun r Wo42 H locs hpost hP hD hS => ?_)
      have hP : va_P g.1 vwCl ([(b, .inr (1, [.ref v24, .int 0, .int 0, .int (nI (([] ++ us_il_list (nI i)) ++ [58]).length)])), (v24, .inl (g.2.2.2.1, cap24, .inl a24)), (q2, .inl (g.2.1, 4, .inl s4))] ++ Wo42) H := ub_P_perm List.perm_append_comm hP
      have hD : va_D A ([(b, .inr (1, [.ref v24, .int 0, .int 0, .int (nI (([] ++ us_il_list (nI i)) ++ [58]).length)])), (v24, .inl (g.2.2.2.1, cap24, .inl a24)), (q2, .inl (g.2.1, 4, .inl s4))] ++ Wo42) := ub_D_perm List.perm_append_comm hD
      obtain ⟨hr, hR⟩ := hpost
      have er : r = nI (f (11 + 6 * i)) := hr.trans ((uw_ropeOf (i := 0) hI hi0 (by decide)).trans (congrArg nI (congrArg f (by omega))))
      rw [er]
      have hm26 : (us_il_list (nI (f (11 + 6 * i))) : List Nat).length ≤ 1 := by rw [us_il_num _ (by omega)]; exact Nat.le_of_eq ((ut_num_len _).2.2 (by omega))
      have ht26 : ((([] ++ us_il_list (nI i)) ++ [58]) : List Nat).length ≤ ((0 + 2) + 1) := hn24
      have hn26 : ((([] ++ us_il_list (nI i)) ++ [58]) ++ us_il_list (nI (f (11 + 6 * i)))).length ≤ ((0 + 2) + 1) + 1 := by rw [List.length_append]; omega
      refine us_sbI (base := (3 + 252 * i)) (bs := (24 + 2688 * i)) K0 hl.1 hP hD hS (List.Perm.refl _) hB24 (by omega) (x := nI (f (11 + 6 * i))) (us_nI_ok (by omega)) (Nat.le_of_ble_eq_true rfl) (Nat.le_of_ble_eq_true rfl) (by show (3 + 252 * i) + 10 ≤ 3100; omega) (by show (24 + 2688 * i) + 4 * (_ + _) + 32 ≤ 35000; rw [us_il_len] at hm26; omega) (Nat.le_of_ble_eq_true rfl) dL_ropes_48 (fun v26 cap26 k26 a26 H locs hB26 hP hD hS => ?_)
      have hP : va_P g.1 vwCl ([(b, .inr (1, [.ref v26, .int 0, .int 0, .int (nI ((([] ++ us_il_list (nI i)) ++ [58]) ++ us_il_list (nI (f (11 + 6 * i)))).length)])), (v26, .inl (g.2.2.2.1, cap26, .inl a26)), (q2, .inl (g.2.1, 4, .inl s4))] ++ Wo42) H := hP
      have hD : va_D A ([(b, .inr (1, [.ref v26, .int 0, .int 0, .int (nI ((([] ++ us_il_list (nI i)) ++ [58]) ++ us_il_list (nI (f (11 + 6 * i)))).length)])), (v26, .inl (g.2.2.2.1, cap26, .inl a26)), (q2, .inl (g.2.1, 4, .inl s4))] ++ Wo42) := hD
      refine lv_aload_n hx hb dL_ropes_51 rfl (lv_at hl 3 rfl) ?_
      refine lv_iload hx hb dL_ropes_52 (lv_at hl 0 rfl) ?_
      refine lv_iconst (v := 1) hx hb dL_ropes_54 (by decide) ?_
      obtain ⟨hk27, -⟩ := us_B_k hB26 (Nat.le_trans hn26 (by omega))
      have hq27 := hB26.2.2.2.2
      have hl27 : (((([] ++ us_il_list (nI i)) ++ [58]) ++ us_il_list (nI (f (11 + 6 * i)))) : List Nat).length ≤ (((0 + 2) + 1) + 1) := hn26
      have hpm : List.Perm (([(b, .inr (1, [.ref v26, .int 0, .int 0, .int (nI ((([] ++ us_il_list (nI i)) ++ [58]) ++ us_il_list (nI (f (11 + 6 * i)))).length)])), (v26, .inl (g.2.2.2.1, cap26, .inl a26)), (q2, .inl (g.2.1, 4, .inl s4))] ++ Wo42) : va_W) (Wo42 ++ [(b, .inr (1, [.ref v26, .int 0, .int 0, .int (nI ((([] ++ us_il_list (nI i)) ++ [58]) ++ us_il_list (nI (f (11 + 6 * i)))).length)])), (v26, .inl (g.2.2.2.1, cap26, .inl a26)), (q2, .inl (g.2.1, 4, .inl s4))]) := List.perm_append_comm
      have hFc := ub_freeP hD hS hA hpm
      obtain ⟨hPc, hDc⟩ := ub_subP hP hD hpm
      refine us_calli (va_runV (As := [.int (nI i), .int 1]) (rest := [.ref b]) ⟨hx, hb, hml, hown, hts⟩ (uo_ropeOf l g hR (x := (nI i)) (v := 1)) (cwV 2 hts gu_RL_100 rfl rfl rfl ⟨rfl, uhX8_ropeOf⟩ ⟨Nat.le_of_ble_eq_true rfl, Nat.le_of_ble_eq_true rfl⟩) (us_preO hR hZ hS hFc hPc hDc hK hN) rfl rfl hl.1 rfl (lv_room (Nat.le_of_ble_eq_true rfl)) dL_ropes_55 ⟨Nat.le_trans (Nat.le_of_eq (Nat.add_zero _)) (by show ((3 + 252 * i) + k26) ≤ 3100; omega), Nat.le_trans (Nat.le_of_eq (Nat.add_zero _)) (by show ((24 + 2688 * i) + 2 * cap26) ≤ 35000; omega)⟩) hP hD hS hA hpm (fun r Wo43 H locs hpost hP hD hS => ?_)
      have hP : va_P g.1 vwCl ([(b, .inr (1, [.ref v26, .int 0, .int 0, .int (nI ((([] ++ us_il_list (nI i)) ++ [58]) ++ us_il_list (nI (f (11 + 6 * i)))).length)])), (v26, .inl (g.2.2.2.1, cap26, .inl a26)), (q2, .inl (g.2.1, 4, .inl s4))] ++ Wo43) H := ub_P_perm List.perm_append_comm hP
      have hD : va_D A ([(b, .inr (1, [.ref v26, .int 0, .int 0, .int (nI ((([] ++ us_il_list (nI i)) ++ [58]) ++ us_il_list (nI (f (11 + 6 * i)))).length)])), (v26, .inl (g.2.2.2.1, cap26, .inl a26)), (q2, .inl (g.2.1, 4, .inl s4))] ++ Wo43) := ub_D_perm List.perm_append_comm hD
      obtain ⟨hr, hR⟩ := hpost
      have er : r = nI (f (12 + 6 * i)) := hr.trans ((uw_ropeOf (i := 1) hI hi0 (by decide)).trans (congrArg nI (congrArg f (by omega))))
      rw [er]
      refine lv_iconst (v := 1) hx hb dL_ropes_58 (by decide) ?_
      by_cases hs0 : f (12 + 6 * i) = 0
      · refine lv_icmp_ne (tgt := 67) hx hb dL_ropes_59 (by decide) (fun _ => ?_) (fun cc => absurd cc (by rw [hs0]; decide))
        refine va_ldcS (q := g.2.2.2.2.1 10) hx hb hown (hZ.2.2.2.2.1 1 (by decide)) dL_ropes_67 ?_
        have hm28 : ([35] : List Nat).length ≤ 1 := Nat.le_refl 1
        have ht28 : (((([] ++ us_il_list (nI i)) ++ [58]) ++ us_il_list (nI (f (11 + 6 * i)))) : List Nat).length ≤ (((0 + 2) + 1) + 1) := hn26
        have hn28 : (((([] ++ us_il_list (nI i)) ++ [58]) ++ us_il_list (nI (f (11 + 6 * i)))) ++ [35]).length ≤ (((0 + 2) + 1) + 1) + 1 := by rw [List.length_append]; omega
        refine us_sbK (base := (3 + 252 * i)) (bs := (24 + 2688 * i)) K0 hl.1 hP hD hS (List.Perm.refl _) hB26 (by omega) (i0 := 10) (by decide) (t0 := [35]) rfl (fun y hy => by rcases (show y = 0 by have : y < 1 := hy; omega) with rfl; rfl) (Nat.le_of_ble_eq_true rfl) (Nat.le_of_ble_eq_true rfl) (by show (3 + 252 * i) + 10 ≤ 3100; omega) (by show (24 + 2688 * i) + 4 * (_ + _) + 32 ≤ 35000; have hz28 : us_len.getD 10 0 = 1 := rfl; omega) (Nat.le_of_ble_eq_true rfl) dL_ropes_69 (fun v28 cap28 k28 a28 H locs hB28 hP hD hS => ?_)
        have hP : va_P g.1 vwCl ([(b, .inr (1, [.ref v28, .int 0, .int 0, .int (nI (((([] ++ us_il_list (nI i)) ++ [58]) ++ us_il_list (nI (f (11 + 6 * i)))) ++ [35]).length)])), (v28, .inl (g.2.2.2.1, cap28, .inl a28)), (q2, .inl (g.2.1, 4, .inl s4))] ++ Wo43) H := hP
        have hD : va_D A ([(b, .inr (1, [.ref v28, .int 0, .int 0, .int (nI (((([] ++ us_il_list (nI i)) ++ [58]) ++ us_il_list (nI (f (11 + 6 * i)))) ++ [35]).length)])), (v28, .inl (g.2.2.2.1, cap28, .inl a28)), (q2, .inl (g.2.1, 4, .inl s4))] ++ Wo43) := hD
        have ed : (((([] ++ us_il_list (nI i)) ++ [58]) ++ us_il_list (nI (f (11 + 6 * i)))) ++ [35]) = ut_r1 f i 0 := by unfold ut_r1 ut_r0; rw [if_pos hs0, us_il_num i (by omega), us_il_num _ (by omega)]; simp only [List.append_assoc, List.singleton_append, List.nil_append, List.cons_append, List.append_nil, List.replicate_zero]
        have et29 : (((([] ++ us_il_list (nI i)) ++ [58]) ++ us_il_list (nI (f (11 + 6 * i)))) ++ [35]) = (ut_r1 f i 0) := ed
        rw [et29] at hB28 hP hD
        have hn29 : ((ut_r1 f i 0) : List Nat).length ≤ (5 + 0) := ut_r1_len hI hi0
        refine lv_astore (lv' := [(6, .ref b), (5, .int (nI i)), (4, .int la), (3, .int (nI (um_sum (fun r => f (13 + 6 * r)) i))), (0, .ref h0), (1, .int (nI (f 0))), (2, .ref q2)]) hx hb dL_ropes_72 hl (by decide) rfl (fun ls hl => ?_)
        refine lv_iconst (v := 0) hx hb dL_ropes_74 (by decide) ?_
        refine lv_istore (lv' := [(7, .int 0), (6, .ref b), (5, .int (nI i)), (4, .int la), (3, .int (nI (um_sum (fun r => f (13 + 6 * r)) i))), (0, .ref h0), (1, .int (nI (f 0))), (2, .ref q2)]) hx hb dL_ropes_75 hl (by decide) rfl (fun ls hl => ?_)
        exact loopT (f (13 + 6 * i)) 0 b v28 cap28 k28 a28 Wo43 _ _ ls (by omega) hB28 hR (lv_sub hl [0, 1, 2, 3, 4, 5, 6, 7] rfl) hP hD hS
      · refine lv_icmp_ne (tgt := 67) hx hb dL_ropes_59 (by decide) (fun cc => absurd (show nI (f (12 + 6 * i)) = 1 by rw [show f (12 + 6 * i) = 1 by omega]; rfl) cc) (fun _ => ?_)
        refine va_ldcS (q := g.2.2.2.2.1 9) hx hb hown (hZ.2.2.2.2.1 0 (by decide)) dL_ropes_62 ?_
        refine lv_goto (tgt := 69) hx hb dL_ropes_64 (by decide) ?_
        have hm30 : ([] : List Nat).length ≤ 0 := Nat.le_refl _
        have ht30 : (((([] ++ us_il_list (nI i)) ++ [58]) ++ us_il_list (nI (f (11 + 6 * i)))) : List Nat).length ≤ (((0 + 2) + 1) + 1) := hn26
        have hn30 : (((([] ++ us_il_list (nI i)) ++ [58]) ++ us_il_list (nI (f (11 + 6 * i)))) ++ []).length ≤ (((0 + 2) + 1) + 1) + 0 := by rw [List.length_append]; omega
        refine us_sbK (base := (3 + 252 * i)) (bs := (24 + 2688 * i)) K0 hl.1 hP hD hS (List.Perm.refl _) hB26 (by omega) (i0 := 9) (by decide) (t0 := []) rfl (fun y hy => absurd hy (Nat.not_lt_zero y)) (Nat.le_of_ble_eq_true rfl) (Nat.le_of_ble_eq_true rfl) (by show (3 + 252 * i) + 10 ≤ 3100; omega) (by show (24 + 2688 * i) + 4 * (_ + _) + 32 ≤ 35000; have hz30 : us_len.getD 9 0 = 0 := rfl; omega) (Nat.le_of_ble_eq_true rfl) dL_ropes_69 (fun v30 cap30 k30 a30 H locs hB30 hP hD hS => ?_)
        have hP : va_P g.1 vwCl ([(b, .inr (1, [.ref v30, .int 0, .int 0, .int (nI (((([] ++ us_il_list (nI i)) ++ [58]) ++ us_il_list (nI (f (11 + 6 * i)))) ++ []).length)])), (v30, .inl (g.2.2.2.1, cap30, .inl a30)), (q2, .inl (g.2.1, 4, .inl s4))] ++ Wo43) H := hP
        have hD : va_D A ([(b, .inr (1, [.ref v30, .int 0, .int 0, .int (nI (((([] ++ us_il_list (nI i)) ++ [58]) ++ us_il_list (nI (f (11 + 6 * i)))) ++ []).length)])), (v30, .inl (g.2.2.2.1, cap30, .inl a30)), (q2, .inl (g.2.1, 4, .inl s4))] ++ Wo43) := hD
        have ed : (((([] ++ us_il_list (nI i)) ++ [58]) ++ us_il_list (nI (f (11 + 6 * i)))) ++ []) = ut_r1 f i 0 := by unfold ut_r1 ut_r0; rw [if_neg hs0, us_il_num i (by omega), us_il_num _ (by omega)]; simp only [List.append_assoc, List.singleton_append, List.nil_append, List.cons_append, List.append_nil, List.replicate_zero]
        have et31 : (((([] ++ us_il_list (nI i)) ++ [58]) ++ us_il_list (nI (f (11 + 6 * i)))) ++ []) = (ut_r1 f i 0) := ed
        rw [et31] at hB30 hP hD
        have hn31 : ((ut_r1 f i 0) : List Nat).length ≤ (5 + 0) := ut_r1_len hI hi0
        refine lv_astore (lv' := [(6, .ref b), (5, .int (nI i)), (4, .int la), (3, .int (nI (um_sum (fun r => f (13 + 6 * r)) i))), (0, .ref h0), (1, .int (nI (f 0))), (2, .ref q2)]) hx hb dL_ropes_72 hl (by decide) rfl (fun ls hl => ?_)
        refine lv_iconst (v := 0) hx hb dL_ropes_74 (by decide) ?_
        refine lv_istore (lv' := [(7, .int 0), (6, .ref b), (5, .int (nI i)), (4, .int la), (3, .int (nI (um_sum (fun r => f (13 + 6 * r)) i))), (0, .ref h0), (1, .int (nI (f 0))), (2, .ref q2)]) hx hb dL_ropes_75 hl (by decide) rfl (fun ls hl => ?_)
        exact loopT (f (13 + 6 * i)) 0 b v30 cap30 k30 a30 Wo43 _ _ ls (by omega) hB30 hR (lv_sub hl [0, 1, 2, 3, 4, 5, 6, 7] rfl) hP hD hS
  refine W.widen (k := 1 + 252 * 0) (n := 4 + 2688 * 0) (by omega) (by omega) ?_
  exact loopR (f 0) 0 (fun _ => 0) (-1) L Wo1 _ _ ls (by omega) (fun y hy => rfl) (Or.inl ⟨rfl, rfl⟩) hR (lv_sub hl [0, 1, 2, 5, 4, 3] rfl) hP hD hS

