/-! ===== answers are remembered ===== -/
theorem uy_min {x : Nat} (h : x < 2 ^ 31) : nI (min 20 x) = (if nI x < 20 then nI x else 20) := by
  by_cases e : x < 20
  · rw [if_pos (show nI x < (20 : Int32) from nI_lt (a := x) (b := 20) e (by decide))]
    congr 1
    omega
  · rw [if_neg (show ¬ nI x < (20 : Int32) from nI_nlt (a := x) (b := 20) (by omega) h), show min 20 x = 20 by omega]
    rfl
theorem us_hL_answers : yL_answers.cls ≠ "java/lang/invoke/MethodHandle" ∧ yL_answers.cls ≠ "java/lang/invoke/VarHandle" ∧ (parseMethodDescriptor yL_answers.desc).map (fun d => d.parameters.length) = some 1 := by decide +kernel
set_option maxHeartbeats 4000000 in
set_option maxRecDepth 100000 in
theorem ul_answers (l : Launch) (g : us_G) {sz : Nat} {h0 k : Nat} {f : Nat → Nat} {hist : List (Nat → Nat)} {sv : Option (Nat → Nat)} {lr ld : Int32} {L : List Nat} {Wo : va_W} (hR : uo_W g h0 k f hist sv lr ld L Wo) (hJ : uJ f) : Met l yL_answers wsL_answers ({ frames := 3, cells := 0, slots := 0, locals := 66 } : Room) (va_Pc [.ref h0] (us_pc g Wo sz)) (va_Qi (fun (r : Int32) (u : va_W) => r = 1 ∧ uo_W g h0 k f hist sv lr ld L u) (fun u t => ub_pq g.1 u (va_A Wo sz) t) (va_A Wo sz)) 0 0 (va_A Wo sz) := by
  refine us_met_i (y := yL_answers) (cc := cL_answers) (nL := 7) (av := [.ref h0]) (post := (fun (r : Int32) (u : va_W) => r = 1 ∧ uo_W g h0 k f hist sv lr ld L u)) (by decide +kernel) (Nat.le_of_ble_eq_true rfl) fun p e s m args below meth c Q A K hret ls hl hP hD hS => ?_
  obtain ⟨hx, hb, hml, hown, hts, hK, hN, hA, hZ⟩ := K
  have hl : lv_has ls 7 [(0, .ref h0)] := hl
  have hI := (uo_W_len hR).2
  have q1 : f 0 ≤ 12 := hI.2.1
  have q2 : f 1 ≤ 16 := hI.2.2.1
  have q9 : f 9 ≤ 20 := hI.2.2.2.2.2.2.2.2.1
  have q3 := hI.2.2.2.2.1
  have q0 := hI.1
  have q5 := hI.2.2.2.2.2.1
  have q6 := hI.2.2.2.2.2.2.1
  obtain ⟨-, -, j3, j4, j5, -⟩ := hJ
  refine lv_aload_n hx hb dL_answers_0 rfl (lv_at hl 0 rfl) ?_
  refine lv_bipush (v := 10) hx hb dL_answers_1 (by decide) ?_
  have hpm : (Wo : va_W).Perm (Wo ++ ([] : va_W)) := List.Perm.of_eq (List.append_nil _).symm
  have hFc := ub_freeP hD hS hA hpm
  obtain ⟨hPc, hDc⟩ := ub_subP hP hD hpm
  refine us_calli (va_runV (As := [.int 10]) (rest := []) ⟨hx, hb, hml, hown, hts⟩ (uo_account l g hR (x := 10)) (cwV 1 hts gu_RL_34 rfl rfl rfl ⟨rfl, uhX8_account⟩ ⟨Nat.le_of_ble_eq_true rfl, Nat.le_of_ble_eq_true rfl⟩) (us_preO hR hZ hS hFc hPc hDc hK hN) rfl rfl hl.1 rfl (lv_room (Nat.le_of_ble_eq_true rfl)) dL_answers_3 ⟨Nat.le_of_ble_eq_true rfl, Nat.le_of_ble_eq_true rfl⟩) hP hD hS hA hpm (fun r Wo1 H locs hpost hP hD hS => ?_)
  have hP : va_P g.1 vwCl Wo1 H := by have h9 := hP; rw [List.append_nil] at h9; exact h9
  have hD : va_D A Wo1 := by have h9 := hD; rw [List.append_nil] at h9; exact h9
  obtain ⟨hr, hR⟩ := hpost
  have er : r = nI (f 9) := by rw [hr]; rfl
  rw [er]
  refine lv_istore_n (lv' := [(1, .int (nI (f 9))), (0, .ref h0)]) hx hb dL_answers_6 rfl hl (by decide) rfl (fun ls hl => ?_)
  refine lv_iconst (v := 0) hx hb dL_answers_7 (by decide) ?_
  refine lv_istore_n (lv' := [(2, .int 0), (1, .int (nI (f 9))), (0, .ref h0)]) hx hb dL_answers_8 rfl hl (by decide) rfl (fun ls hl => ?_)
  have loopA : ∀ (q i : Nat) (Wo : va_W) (H : Heap) (locs : List Loc) (ls : Array Slot), f 9 = i + q → uo_W g h0 k f hist sv lr ld L Wo → lv_has ls 7 [(2, .int (nI i)), (0, .ref h0), (1, .int (nI (f 9)))] → va_P g.1 vwCl Wo H → va_D A Wo → va_S A s.heap H locs → W p l e ({ frames := 3, cells := 0, slots := 0, locals := 66 } : Room) s m args below meth c H locs 0 0 Q (F0 m 9 ls []) := by
    intro q
    induction q with
    | zero =>
      intro i Wo H locs ls hiq hR hl hP hD hS
      have ei : i = f 9 := by omega
      refine lv_iload_n hx hb dL_answers_9 rfl (lv_at hl 0 rfl) ?_
      refine lv_iload_n hx hb dL_answers_10 rfl (lv_at hl 2 rfl) ?_
      refine lv_icmp_ge (tgt := 145) hx hb dL_answers_11 (by decide) (fun _ => ?_) (fun cc => absurd (nI_le (by omega) (by omega)) cc)
      refine lv_iload_n hx hb dL_answers_145 rfl (lv_at hl 2 rfl) ?_
      refine lv_bipush (v := 20) hx hb dL_answers_146 (by decide) ?_
      refine lv_aload_n hx hb dL_answers_148 rfl (lv_at hl 1 rfl) ?_
      refine lv_iconst (v := 5) hx hb dL_answers_149 (by decide) ?_
      have hpm : (Wo : va_W).Perm (Wo ++ ([] : va_W)) := List.Perm.of_eq (List.append_nil _).symm
      have hFc := ub_freeP hD hS hA hpm
      obtain ⟨hPc, hDc⟩ := ub_subP hP hD hpm
      refine us_calli (va_runV (As := [.int 5]) (rest := [.int 20, .int (nI (f 9))]) ⟨hx, hb, hml, hown, hts⟩ (uo_account l g hR (x := 5)) (cwV 1 hts gu_RL_34 rfl rfl rfl ⟨rfl, uhX8_account⟩ ⟨Nat.le_of_ble_eq_true rfl, Nat.le_of_ble_eq_true rfl⟩) (us_preO hR hZ hS hFc hPc hDc hK hN) rfl rfl hl.1 rfl (lv_room (Nat.le_of_ble_eq_true rfl)) dL_answers_150 ⟨Nat.le_of_ble_eq_true rfl, Nat.le_of_ble_eq_true rfl⟩) hP hD hS hA hpm (fun r Wo2 H locs hpost hP hD hS => ?_)
      have hP : va_P g.1 vwCl Wo2 H := by have h9 := hP; rw [List.append_nil] at h9; exact h9
      have hD : va_D A Wo2 := by have h9 := hD; rw [List.append_nil] at h9; exact h9
      obtain ⟨hr, hR⟩ := hpost
      have er : r = nI (f 5) := by rw [hr]; rfl
      rw [er]
      refine va_mmin hx hb (hml.trans hl.1.symm) hown (hts _ us_m806) (hts _ us_m348) (hts _ us_m49) (hts _ us_m349) (Nat.le_of_ble_eq_true rfl) (Nat.le_of_ble_eq_true rfl) (Nat.le_of_ble_eq_true rfl) (Nat.le_of_ble_eq_true rfl) dL_answers_153 ?_
      refine lv_icmp_ne (tgt := 175) hx hb dL_answers_156 (by decide) (fun cc => absurd (by rw [j3]; exact uy_min (by omega)) cc) (fun _ => ?_)
      refine lv_aload_n hx hb dL_answers_159 rfl (lv_at hl 1 rfl) ?_
      refine lv_iload_n hx hb dL_answers_160 rfl (lv_at hl 2 rfl) ?_
      refine lv_iconst (v := 0) hx hb dL_answers_161 (by decide) ?_
      have hpm : (Wo2 : va_W).Perm (Wo2 ++ ([] : va_W)) := List.Perm.of_eq (List.append_nil _).symm
      have hFc := ub_freeP hD hS hA hpm
      obtain ⟨hPc, hDc⟩ := ub_subP hP hD hpm
      refine us_calli (va_runV (As := [.int (nI (f 9)), .int 0]) (rest := []) ⟨hx, hb, hml, hown, hts⟩ (uo_answerOf l g hR (x := (nI (f 9))) (v := 0)) (cwV 2 hts gu_RL_106 rfl rfl rfl ⟨rfl, uhX8_answerOf⟩ ⟨Nat.le_of_ble_eq_true rfl, Nat.le_of_ble_eq_true rfl⟩) (us_preO hR hZ hS hFc hPc hDc hK hN) rfl rfl hl.1 rfl (lv_room (Nat.le_of_ble_eq_true rfl)) dL_answers_162 ⟨Nat.le_of_ble_eq_true rfl, Nat.le_of_ble_eq_true rfl⟩) hP hD hS hA hpm (fun r Wo3 H locs hpost hP hD hS => ?_)
      have hP : va_P g.1 vwCl Wo3 H := by have h9 := hP; rw [List.append_nil] at h9; exact h9
      have hD : va_D A Wo3 := by have h9 := hD; rw [List.append_nil] at h9; exact h9
      obtain ⟨hr, hR⟩ := hpost
      have er : r = (-1011) := hr.trans (uw_answerOfNo hI (Nat.lt_irrefl _) (by omega))
      rw [er]
      refine lv_sipush (v := (-1011)) hx hb dL_answers_165 (by decide) ?_
      refine lv_icmp_ne (tgt := 175) hx hb dL_answers_168 (by decide) (fun cc => absurd rfl cc) (fun _ => ?_)
      refine lv_iconst (v := 1) hx hb dL_answers_171 (by decide) ?_
      refine lv_goto (tgt := 176) hx hb dL_answers_172 (by decide) ?_
      exact hret _ _ H locs _ ls ⟨rfl, hR⟩ dL_answers_176 rfl hP hD hS
    | succ q ih =>
      intro i Wo H locs ls hiq hR hl hP hD hS
      have hi1 : i < f 9 := by omega
      obtain ⟨a1, a2, a3, a4, a5, a6⟩ := j4 i hi1
      have J113 : ∀ (Wo : va_W) (H : Heap) (locs : List Loc) (ls : Array Slot), uo_W g h0 k f hist sv lr ld L Wo → lv_has ls 7 [(4, .int (nI (f (132 + 4 * i)))), (3, .int (nI (f (131 + 4 * i)))), (2, .int (nI i)), (0, .ref h0), (1, .int (nI (f 9)))] → va_P g.1 vwCl Wo H → va_D A Wo → va_S A s.heap H locs → W p l e ({ frames := 3, cells := 0, slots := 0, locals := 66 } : Room) s m args below meth c H locs 0 0 Q (F0 m 113 ls []) := by
        intro Wo H locs ls hR hl hP hD hS
        refine lv_aload_n hx hb dL_answers_113 rfl (lv_at hl 3 rfl) ?_
        refine lv_iload_n hx hb dL_answers_114 rfl (lv_at hl 2 rfl) ?_
        refine lv_iconst (v := 2) hx hb dL_answers_115 (by decide) ?_
        have hpm : (Wo : va_W).Perm (Wo ++ ([] : va_W)) := List.Perm.of_eq (List.append_nil _).symm
        have hFc := ub_freeP hD hS hA hpm
        obtain ⟨hPc, hDc⟩ := ub_subP hP hD hpm
        refine us_calli (va_runV (As := [.int (nI i), .int 2]) (rest := []) ⟨hx, hb, hml, hown, hts⟩ (uo_answerOf l g hR (x := (nI i)) (v := 2)) (cwV 2 hts gu_RL_106 rfl rfl rfl ⟨rfl, uhX8_answerOf⟩ ⟨Nat.le_of_ble_eq_true rfl, Nat.le_of_ble_eq_true rfl⟩) (us_preO hR hZ hS hFc hPc hDc hK hN) rfl rfl hl.1 rfl (lv_room (Nat.le_of_ble_eq_true rfl)) dL_answers_116 ⟨Nat.le_of_ble_eq_true rfl, Nat.le_of_ble_eq_true rfl⟩) hP hD hS hA hpm (fun r Wo4 H locs hpost hP hD hS => ?_)
        have hP : va_P g.1 vwCl Wo4 H := by have h9 := hP; rw [List.append_nil] at h9; exact h9
        have hD : va_D A Wo4 := by have h9 := hD; rw [List.append_nil] at h9; exact h9
        obtain ⟨hr, hR⟩ := hpost
        have er : r = nI (f (133 + 4 * i)) := hr.trans ((uw_answerOf (i := 2) hI (by omega) (by decide)).trans (congrArg nI (congrArg f (by omega))))
        rw [er]
        refine lv_aload_n hx hb dL_answers_119 rfl (lv_at hl 3 rfl) ?_
        refine lv_iconst (v := 3) hx hb dL_answers_120 (by decide) ?_
        have hpm : (Wo4 : va_W).Perm (Wo4 ++ ([] : va_W)) := List.Perm.of_eq (List.append_nil _).symm
        have hFc := ub_freeP hD hS hA hpm
        obtain ⟨hPc, hDc⟩ := ub_subP hP hD hpm
        refine us_calli (va_runV (As := [.int 3]) (rest := [.int (nI (f (133 + 4 * i)))]) ⟨hx, hb, hml, hown, hts⟩ (uo_account l g hR (x := 3)) (cwV 1 hts gu_RL_34 rfl rfl rfl ⟨rfl, uhX8_account⟩ ⟨Nat.le_of_ble_eq_true rfl, Nat.le_of_ble_eq_true rfl⟩) (us_preO hR hZ hS hFc hPc hDc hK hN) rfl rfl hl.1 rfl (lv_room (Nat.le_of_ble_eq_true rfl)) dL_answers_121 ⟨Nat.le_of_ble_eq_true rfl, Nat.le_of_ble_eq_true rfl⟩) hP hD hS hA hpm (fun r Wo5 H locs hpost hP hD hS => ?_)
        have hP : va_P g.1 vwCl Wo5 H := by have h9 := hP; rw [List.append_nil] at h9; exact h9
        have hD : va_D A Wo5 := by have h9 := hD; rw [List.append_nil] at h9; exact h9
        obtain ⟨hr, hR⟩ := hpost
        have er : r = nI (f 3) := by rw [hr]; rfl
        rw [er]
        refine lv_icmp_gt (tgt := 137) hx hb dL_answers_124 (by decide) (fun cc => absurd cc (nI_nlt (by omega) (by omega))) (fun _ => ?_)
        refine lv_aload_n hx hb dL_answers_127 rfl (lv_at hl 3 rfl) ?_
        refine lv_iload_n hx hb dL_answers_128 rfl (lv_at hl 2 rfl) ?_
        refine lv_iconst (v := 3) hx hb dL_answers_129 (by decide) ?_
        have hpm : (Wo5 : va_W).Perm (Wo5 ++ ([] : va_W)) := List.Perm.of_eq (List.append_nil _).symm
        have hFc := ub_freeP hD hS hA hpm
        obtain ⟨hPc, hDc⟩ := ub_subP hP hD hpm
        refine us_calli (va_runV (As := [.int (nI i), .int 3]) (rest := []) ⟨hx, hb, hml, hown, hts⟩ (uo_answerOf l g hR (x := (nI i)) (v := 3)) (cwV 2 hts gu_RL_106 rfl rfl rfl ⟨rfl, uhX8_answerOf⟩ ⟨Nat.le_of_ble_eq_true rfl, Nat.le_of_ble_eq_true rfl⟩) (us_preO hR hZ hS hFc hPc hDc hK hN) rfl rfl hl.1 rfl (lv_room (Nat.le_of_ble_eq_true rfl)) dL_answers_130 ⟨Nat.le_of_ble_eq_true rfl, Nat.le_of_ble_eq_true rfl⟩) hP hD hS hA hpm (fun r Wo6 H locs hpost hP hD hS => ?_)
        have hP : va_P g.1 vwCl Wo6 H := by have h9 := hP; rw [List.append_nil] at h9; exact h9
        have hD : va_D A Wo6 := by have h9 := hD; rw [List.append_nil] at h9; exact h9
        obtain ⟨hr, hR⟩ := hpost
        have er : r = nI (f (134 + 4 * i)) := hr.trans ((uw_answerOf (i := 3) hI (by omega) (by decide)).trans (congrArg nI (congrArg f (by omega))))
        rw [er]
        refine lv_iconst (v := 1) hx hb dL_answers_133 (by decide) ?_
        refine lv_icmp_ge (tgt := 139) hx hb dL_answers_134 (by decide) (fun _ => ?_) (fun cc => absurd (nI_le (a := 1) (by omega) (by omega)) cc)
        refine lv_iinc (v := nI i + 1) (lv' := [(2, .int (nI i + 1)), (4, .int (nI (f (132 + 4 * i)))), (3, .int (nI (f (131 + 4 * i)))), (0, .ref h0), (1, .int (nI (f 9)))]) hx hb dL_answers_139 hl (k := 2) rfl rfl (by decide) rfl (fun ls hl => ?_)
        refine lv_goto (tgt := 9) hx hb dL_answers_142 (by decide) ?_
        rw [nI_1] at hl
        exact ih (i + 1) Wo6 _ _ ls (by omega) hR (lv_sub hl [0, 3, 4] rfl) hP hD hS
      have J90 : ∀ (by0 : Int32) (td : Int32) (Wo : va_W) (H : Heap) (locs : List Loc) (ls : Array Slot), ¬ by0 < 0 → (td = 0 ∨ f (133 + 4 * i) = f 3) → uo_W g h0 k f hist sv lr ld L Wo → lv_has ls 7 [(6, .int by0), (5, .int td), (4, .int (nI (f (132 + 4 * i)))), (3, .int (nI (f (131 + 4 * i)))), (2, .int (nI i)), (0, .ref h0), (1, .int (nI (f 9)))] → va_P g.1 vwCl Wo H → va_D A Wo → va_S A s.heap H locs → W p l e ({ frames := 3, cells := 0, slots := 0, locals := 66 } : Room) s m args below meth c H locs 0 0 Q (F0 m 90 ls []) := by
        intro by0 td Wo H locs ls hby htd hR hl hP hD hS
        refine lv_iload hx hb dL_answers_90 (lv_at hl 0 rfl) ?_
        refine lv_if_lt (tgt := 137) hx hb dL_answers_92 (by decide) (fun cc => absurd cc hby) (fun _ => ?_)
        refine lv_iload hx hb dL_answers_95 (lv_at hl 1 rfl) ?_
        by_cases htz : td = 0
        · refine lv_if_eq (tgt := 113) hx hb dL_answers_97 (by decide) (fun _ => ?_) (fun cc => absurd htz cc)
          exact J113 Wo _ _ ls hR (lv_sub hl [2, 3, 4, 5, 6] rfl) hP hD hS
        · refine lv_if_eq (tgt := 113) hx hb dL_answers_97 (by decide) (fun cc => absurd cc htz) (fun _ => ?_)
          have hd : f (133 + 4 * i) = f 3 := by rcases htd with y | y; exact absurd y htz; exact y
          have hbt := (a6 hd).1
          refine lv_aload_n hx hb dL_answers_100 rfl (lv_at hl 5 rfl) ?_
          refine lv_iload hx hb dL_answers_101 (lv_at hl 2 rfl) ?_
          have fH := um_I_set hI a2
          have hpm : (Wo : va_W).Perm (Wo ++ ([] : va_W)) := List.Perm.of_eq (List.append_nil _).symm
          have hFc := ub_freeP hD hS hA hpm
          obtain ⟨hPc, hDc⟩ := ub_subP hP hD hpm
          refine us_calli (va_runV (As := [.int (nI (f (132 + 4 * i)))]) (rest := []) ⟨hx, hb, hml, hown, hts⟩ (uo_answered l g hR (x := (nI (f (132 + 4 * i))))) (cwV 1 hts gu_RL_103 rfl rfl rfl ⟨rfl, uhX8_answered⟩ ⟨Nat.le_of_ble_eq_true rfl, Nat.le_of_ble_eq_true rfl⟩) (us_preO hR hZ hS hFc hPc hDc hK hN) rfl rfl hl.1 rfl (lv_room (Nat.le_of_ble_eq_true rfl)) dL_answers_103 ⟨Nat.le_of_ble_eq_true rfl, Nat.le_of_ble_eq_true rfl⟩) hP hD hS hA hpm (fun r Wo7 H locs hpost hP hD hS => ?_)
          have hP : va_P g.1 vwCl Wo7 H := by have h9 := hP; rw [List.append_nil] at h9; exact h9
          have hD : va_D A Wo7 := by have h9 := hD; rw [List.append_nil] at h9; exact h9
          obtain ⟨hr, hR⟩ := hpost
          have er : r = nI (f (211 + f (132 + 4 * i))) := hr.trans (uw_answered a2)
          rw [er]
          refine lv_iload_n hx hb dL_answers_106 rfl (lv_at hl 3 rfl) ?_
          refine lv_ishr hx hb dL_answers_107 ?_
          refine lv_iconst (v := 1) hx hb dL_answers_108 (by decide) ?_
          refine lv_iand hx hb dL_answers_109 ?_
          refine us_topi (x := nI (um_b2n ((f (211 + f (132 + 4 * i))).testBit (f (131 + 4 * i))))) (um_bit1 (by omega) (by omega)) ?_
          refine lv_if_eq (tgt := 137) hx hb dL_answers_110 (by decide) (fun cc => absurd cc (by rw [hbt]; decide)) (fun _ => ?_)
          exact J113 Wo7 _ _ ls hR (lv_sub hl [2, 3, 4, 5, 6] rfl) hP hD hS
      have J50 : ∀ (td : Int32) (Wo : va_W) (H : Heap) (locs : List Loc) (ls : Array Slot), (td = 0 ∨ f (133 + 4 * i) = f 3) → uo_W g h0 k f hist sv lr ld L Wo → lv_has ls 7 [(5, .int td), (4, .int (nI (f (132 + 4 * i)))), (3, .int (nI (f (131 + 4 * i)))), (2, .int (nI i)), (0, .ref h0), (1, .int (nI (f 9)))] → va_P g.1 vwCl Wo H → va_D A Wo → va_S A s.heap H locs → W p l e ({ frames := 3, cells := 0, slots := 0, locals := 66 } : Room) s m args below meth c H locs 0 0 Q (F0 m 50 ls []) := by
        intro td Wo H locs ls htd hR hl hP hD hS
        refine lv_iload_n hx hb dL_answers_50 rfl (lv_at hl 3 rfl) ?_
        by_cases hk0 : i = 0
        · refine lv_if_ne (tgt := 58) hx hb dL_answers_51 (by decide) (fun cc => absurd (by rw [hk0]; rfl) cc) (fun _ => ?_)
          refine lv_iconst (v := 0) hx hb dL_answers_54 (by decide) ?_
          refine lv_goto (tgt := 88) hx hb dL_answers_55 (by decide) ?_
          refine lv_istore (lv' := [(6, .int 0), (5, .int td), (4, .int (nI (f (132 + 4 * i)))), (3, .int (nI (f (131 + 4 * i)))), (2, .int (nI i)), (0, .ref h0), (1, .int (nI (f 9)))]) hx hb dL_answers_88 hl (by decide) rfl (fun ls hl => ?_)
          exact J90 0 td Wo _ _ ls (by decide) htd hR (lv_sub hl [0, 1, 2, 3, 4, 5, 6] rfl) hP hD hS
        · refine lv_if_ne (tgt := 58) hx hb dL_answers_51 (by decide) (fun _ => ?_) (fun cc => absurd cc (nI_ne0 (by omega) (by omega)))
          obtain ⟨c1, c2, c3, c4, c5, c6⟩ := j4 (i - 1) (by omega)
          have hK9 := j5 (i - 1) (by omega)
          rw [show i - 1 + 1 = i by omega] at hK9
          refine lv_bipush (v := 24) hx hb dL_answers_58 (by decide) ?_
          refine lv_aload_n hx hb dL_answers_60 rfl (lv_at hl 4 rfl) ?_
          refine lv_iload_n hx hb dL_answers_61 rfl (lv_at hl 3 rfl) ?_
          refine lv_iconst (v := 1) hx hb dL_answers_62 (by decide) ?_
          refine lv_isub hx hb dL_answers_63 ?_
          refine us_topi (x := nI (i - 1)) (pk_sub (a := i) (b := 1) (by omega)) ?_
          refine lv_iconst (v := 2) hx hb dL_answers_64 (by decide) ?_
          have hpm : (Wo : va_W).Perm (Wo ++ ([] : va_W)) := List.Perm.of_eq (List.append_nil _).symm
          have hFc := ub_freeP hD hS hA hpm
          obtain ⟨hPc, hDc⟩ := ub_subP hP hD hpm
          refine us_calli (va_runV (As := [.int (nI (i - 1)), .int 2]) (rest := [.int 24]) ⟨hx, hb, hml, hown, hts⟩ (uo_answerOf l g hR (x := (nI (i - 1))) (v := 2)) (cwV 2 hts gu_RL_106 rfl rfl rfl ⟨rfl, uhX8_answerOf⟩ ⟨Nat.le_of_ble_eq_true rfl, Nat.le_of_ble_eq_true rfl⟩) (us_preO hR hZ hS hFc hPc hDc hK hN) rfl rfl hl.1 rfl (lv_room (Nat.le_of_ble_eq_true rfl)) dL_answers_65 ⟨Nat.le_of_ble_eq_true rfl, Nat.le_of_ble_eq_true rfl⟩) hP hD hS hA hpm (fun r Wo8 H locs hpost hP hD hS => ?_)
          have hP : va_P g.1 vwCl Wo8 H := by have h9 := hP; rw [List.append_nil] at h9; exact h9
          have hD : va_D A Wo8 := by have h9 := hD; rw [List.append_nil] at h9; exact h9
          obtain ⟨hr, hR⟩ := hpost
          have er : r = nI (f (133 + 4 * (i - 1))) := hr.trans ((uw_answerOf (i := 2) hI (by omega) (by decide)).trans (congrArg nI (congrArg f (by omega))))
          rw [er]
          refine lv_aload_n hx hb dL_answers_68 rfl (lv_at hl 4 rfl) ?_
          refine lv_iload_n hx hb dL_answers_69 rfl (lv_at hl 3 rfl) ?_
          refine lv_iconst (v := 2) hx hb dL_answers_70 (by decide) ?_
          have hpm : (Wo8 : va_W).Perm (Wo8 ++ ([] : va_W)) := List.Perm.of_eq (List.append_nil _).symm
          have hFc := ub_freeP hD hS hA hpm
          obtain ⟨hPc, hDc⟩ := ub_subP hP hD hpm
          refine us_calli (va_runV (As := [.int (nI i), .int 2]) (rest := [.int (nI (f (133 + 4 * (i - 1)))), .int 24]) ⟨hx, hb, hml, hown, hts⟩ (uo_answerOf l g hR (x := (nI i)) (v := 2)) (cwV 2 hts gu_RL_106 rfl rfl rfl ⟨rfl, uhX8_answerOf⟩ ⟨Nat.le_of_ble_eq_true rfl, Nat.le_of_ble_eq_true rfl⟩) (us_preO hR hZ hS hFc hPc hDc hK hN) rfl rfl hl.1 rfl (lv_room (Nat.le_of_ble_eq_true rfl)) dL_answers_71 ⟨Nat.le_of_ble_eq_true rfl, Nat.le_of_ble_eq_true rfl⟩) hP hD hS hA hpm (fun r Wo9 H locs hpost hP hD hS => ?_)
          have hP : va_P g.1 vwCl Wo9 H := by have h9 := hP; rw [List.append_nil] at h9; exact h9
          have hD : va_D A Wo9 := by have h9 := hD; rw [List.append_nil] at h9; exact h9
          obtain ⟨hr, hR⟩ := hpost
          have er : r = nI (f (133 + 4 * i)) := hr.trans ((uw_answerOf (i := 2) hI (by omega) (by decide)).trans (congrArg nI (congrArg f (by omega))))
          rw [er]
          refine lv_isub hx hb dL_answers_74 ?_
          refine us_topi (x := nI (f (133 + 4 * (i - 1)) - f (133 + 4 * i))) (pk_sub (by omega)) ?_
          refine lv_imul hx hb dL_answers_75 ?_
          refine us_topi (x := nI (24 * (f (133 + 4 * (i - 1)) - f (133 + 4 * i)))) (pk_mul 24 _) ?_
          refine lv_aload_n hx hb dL_answers_76 rfl (lv_at hl 4 rfl) ?_
          refine lv_iload_n hx hb dL_answers_77 rfl (lv_at hl 3 rfl) ?_
          refine lv_iconst (v := 1) hx hb dL_answers_78 (by decide) ?_
          refine lv_isub hx hb dL_answers_79 ?_
          refine us_topi (x := nI (i - 1)) (pk_sub (a := i) (b := 1) (by omega)) ?_
          refine lv_iconst (v := 1) hx hb dL_answers_80 (by decide) ?_
          have hpm : (Wo9 : va_W).Perm (Wo9 ++ ([] : va_W)) := List.Perm.of_eq (List.append_nil _).symm
          have hFc := ub_freeP hD hS hA hpm
          obtain ⟨hPc, hDc⟩ := ub_subP hP hD hpm
          refine us_calli (va_runV (As := [.int (nI (i - 1)), .int 1]) (rest := [.int (nI (24 * (f (133 + 4 * (i - 1)) - f (133 + 4 * i))))]) ⟨hx, hb, hml, hown, hts⟩ (uo_answerOf l g hR (x := (nI (i - 1))) (v := 1)) (cwV 2 hts gu_RL_106 rfl rfl rfl ⟨rfl, uhX8_answerOf⟩ ⟨Nat.le_of_ble_eq_true rfl, Nat.le_of_ble_eq_true rfl⟩) (us_preO hR hZ hS hFc hPc hDc hK hN) rfl rfl hl.1 rfl (lv_room (Nat.le_of_ble_eq_true rfl)) dL_answers_81 ⟨Nat.le_of_ble_eq_true rfl, Nat.le_of_ble_eq_true rfl⟩) hP hD hS hA hpm (fun r Wo10 H locs hpost hP hD hS => ?_)
          have hP : va_P g.1 vwCl Wo10 H := by have h9 := hP; rw [List.append_nil] at h9; exact h9
          have hD : va_D A Wo10 := by have h9 := hD; rw [List.append_nil] at h9; exact h9
          obtain ⟨hr, hR⟩ := hpost
          have er : r = nI (f (132 + 4 * (i - 1))) := hr.trans ((uw_answerOf (i := 1) hI (by omega) (by decide)).trans (congrArg nI (congrArg f (by omega))))
          rw [er]
          refine lv_iadd hx hb dL_answers_84 ?_
          refine us_topi (x := nI (24 * (f (133 + 4 * (i - 1)) - f (133 + 4 * i)) + f (132 + 4 * (i - 1)))) (nI_add _ _) ?_
          refine lv_iload hx hb dL_answers_85 (lv_at hl 1 rfl) ?_
          refine lv_isub hx hb dL_answers_87 ?_
          refine lv_istore (lv' := [(6, .int ((nI (24 * (f (133 + 4 * (i - 1)) - f (133 + 4 * i)) + f (132 + 4 * (i - 1)))) - (nI (f (132 + 4 * i))))), (5, .int td), (4, .int (nI (f (132 + 4 * i)))), (3, .int (nI (f (131 + 4 * i)))), (2, .int (nI i)), (0, .ref h0), (1, .int (nI (f 9)))]) hx hb dL_answers_88 hl (by decide) rfl (fun ls hl => ?_)
          exact J90 (nI (24 * (f (133 + 4 * (i - 1)) - f (133 + 4 * i)) + f (132 + 4 * (i - 1))) - nI (f (132 + 4 * i))) td Wo10 _ _ ls (fun z => by have := (um_sub_lt0 (by omega) (by omega)).mp z; omega) htd hR (lv_sub hl [0, 1, 2, 3, 4, 5, 6] rfl) hP hD hS
      refine lv_iload_n hx hb dL_answers_9 rfl (lv_at hl 0 rfl) ?_
      refine lv_iload_n hx hb dL_answers_10 rfl (lv_at hl 2 rfl) ?_
      refine lv_icmp_ge (tgt := 145) hx hb dL_answers_11 (by decide) (fun cc => absurd cc (nI_ge (by omega) (by omega))) (fun _ => ?_)
      refine lv_aload_n hx hb dL_answers_14 rfl (lv_at hl 1 rfl) ?_
      refine lv_iload_n hx hb dL_answers_15 rfl (lv_at hl 0 rfl) ?_
      refine lv_iconst (v := 0) hx hb dL_answers_16 (by decide) ?_
      have hpm : (Wo : va_W).Perm (Wo ++ ([] : va_W)) := List.Perm.of_eq (List.append_nil _).symm
      have hFc := ub_freeP hD hS hA hpm
      obtain ⟨hPc, hDc⟩ := ub_subP hP hD hpm
      refine us_calli (va_runV (As := [.int (nI i), .int 0]) (rest := []) ⟨hx, hb, hml, hown, hts⟩ (uo_answerOf l g hR (x := (nI i)) (v := 0)) (cwV 2 hts gu_RL_106 rfl rfl rfl ⟨rfl, uhX8_answerOf⟩ ⟨Nat.le_of_ble_eq_true rfl, Nat.le_of_ble_eq_true rfl⟩) (us_preO hR hZ hS hFc hPc hDc hK hN) rfl rfl hl.1 rfl (lv_room (Nat.le_of_ble_eq_true rfl)) dL_answers_17 ⟨Nat.le_of_ble_eq_true rfl, Nat.le_of_ble_eq_true rfl⟩) hP hD hS hA hpm (fun r Wo11 H locs hpost hP hD hS => ?_)
      have hP : va_P g.1 vwCl Wo11 H := by have h9 := hP; rw [List.append_nil] at h9; exact h9
      have hD : va_D A Wo11 := by have h9 := hD; rw [List.append_nil] at h9; exact h9
      obtain ⟨hr, hR⟩ := hpost
      have er : r = nI (f (131 + 4 * i)) := hr.trans ((uw_answerOf (i := 0) hI (by omega) (by decide)).trans (congrArg nI (congrArg f (by omega))))
      rw [er]
      refine lv_istore_n (lv' := [(3, .int (nI (f (131 + 4 * i)))), (2, .int (nI i)), (0, .ref h0), (1, .int (nI (f 9)))]) hx hb dL_answers_20 rfl hl (by decide) rfl (fun ls hl => ?_)
      refine lv_aload_n hx hb dL_answers_21 rfl (lv_at hl 2 rfl) ?_
      refine lv_iload_n hx hb dL_answers_22 rfl (lv_at hl 1 rfl) ?_
      refine lv_iconst (v := 1) hx hb dL_answers_23 (by decide) ?_
      have hpm : (Wo11 : va_W).Perm (Wo11 ++ ([] : va_W)) := List.Perm.of_eq (List.append_nil _).symm
      have hFc := ub_freeP hD hS hA hpm
      obtain ⟨hPc, hDc⟩ := ub_subP hP hD hpm
      refine us_calli (va_runV (As := [.int (nI i), .int 1]) (rest := []) ⟨hx, hb, hml, hown, hts⟩ (uo_answerOf l g hR (x := (nI i)) (v := 1)) (cwV 2 hts gu_RL_106 rfl rfl rfl ⟨rfl, uhX8_answerOf⟩ ⟨Nat.le_of_ble_eq_true rfl, Nat.le_of_ble_eq_true rfl⟩) (us_preO hR hZ hS hFc hPc hDc hK hN) rfl rfl hl.1 rfl (lv_room (Nat.le_of_ble_eq_true rfl)) dL_answers_24 ⟨Nat.le_of_ble_eq_true rfl, Nat.le_of_ble_eq_true rfl⟩) hP hD hS hA hpm (fun r Wo12 H locs hpost hP hD hS => ?_)
      have hP : va_P g.1 vwCl Wo12 H := by have h9 := hP; rw [List.append_nil] at h9; exact h9
      have hD : va_D A Wo12 := by have h9 := hD; rw [List.append_nil] at h9; exact h9
      obtain ⟨hr, hR⟩ := hpost
      have er : r = nI (f (132 + 4 * i)) := hr.trans ((uw_answerOf (i := 1) hI (by omega) (by decide)).trans (congrArg nI (congrArg f (by omega))))
      rw [er]
      refine lv_istore (lv' := [(4, .int (nI (f (132 + 4 * i)))), (3, .int (nI (f (131 + 4 * i)))), (2, .int (nI i)), (0, .ref h0), (1, .int (nI (f 9)))]) hx hb dL_answers_27 hl (by decide) rfl (fun ls hl => ?_)
      refine lv_aload_n hx hb dL_answers_29 rfl (lv_at hl 3 rfl) ?_
      refine lv_iload_n hx hb dL_answers_30 rfl (lv_at hl 2 rfl) ?_
      refine lv_iconst (v := 2) hx hb dL_answers_31 (by decide) ?_
      have hpm : (Wo12 : va_W).Perm (Wo12 ++ ([] : va_W)) := List.Perm.of_eq (List.append_nil _).symm
      have hFc := ub_freeP hD hS hA hpm
      obtain ⟨hPc, hDc⟩ := ub_subP hP hD hpm
      refine us_calli (va_runV (As := [.int (nI i), .int 2]) (rest := []) ⟨hx, hb, hml, hown, hts⟩ (uo_answerOf l g hR (x := (nI i)) (v := 2)) (cwV 2 hts gu_RL_106 rfl rfl rfl ⟨rfl, uhX8_answerOf⟩ ⟨Nat.le_of_ble_eq_true rfl, Nat.le_of_ble_eq_true rfl⟩) (us_preO hR hZ hS hFc hPc hDc hK hN) rfl rfl hl.1 rfl (lv_room (Nat.le_of_ble_eq_true rfl)) dL_answers_32 ⟨Nat.le_of_ble_eq_true rfl, Nat.le_of_ble_eq_true rfl⟩) hP hD hS hA hpm (fun r Wo13 H locs hpost hP hD hS => ?_)
      have hP : va_P g.1 vwCl Wo13 H := by have h9 := hP; rw [List.append_nil] at h9; exact h9
      have hD : va_D A Wo13 := by have h9 := hD; rw [List.append_nil] at h9; exact h9
      obtain ⟨hr, hR⟩ := hpost
      have er : r = nI (f (133 + 4 * i)) := hr.trans ((uw_answerOf (i := 2) hI (by omega) (by decide)).trans (congrArg nI (congrArg f (by omega))))
      rw [er]
      refine lv_aload_n hx hb dL_answers_35 rfl (lv_at hl 3 rfl) ?_
      refine lv_iconst (v := 3) hx hb dL_answers_36 (by decide) ?_
      have hpm : (Wo13 : va_W).Perm (Wo13 ++ ([] : va_W)) := List.Perm.of_eq (List.append_nil _).symm
      have hFc := ub_freeP hD hS hA hpm
      obtain ⟨hPc, hDc⟩ := ub_subP hP hD hpm
      refine us_calli (va_runV (As := [.int 3]) (rest := [.int (nI (f (133 + 4 * i)))]) ⟨hx, hb, hml, hown, hts⟩ (uo_account l g hR (x := 3)) (cwV 1 hts gu_RL_34 rfl rfl rfl ⟨rfl, uhX8_account⟩ ⟨Nat.le_of_ble_eq_true rfl, Nat.le_of_ble_eq_true rfl⟩) (us_preO hR hZ hS hFc hPc hDc hK hN) rfl rfl hl.1 rfl (lv_room (Nat.le_of_ble_eq_true rfl)) dL_answers_37 ⟨Nat.le_of_ble_eq_true rfl, Nat.le_of_ble_eq_true rfl⟩) hP hD hS hA hpm (fun r Wo14 H locs hpost hP hD hS => ?_)
      have hP : va_P g.1 vwCl Wo14 H := by have h9 := hP; rw [List.append_nil] at h9; exact h9
      have hD : va_D A Wo14 := by have h9 := hD; rw [List.append_nil] at h9; exact h9
      obtain ⟨hr, hR⟩ := hpost
      have er : r = nI (f 3) := by rw [hr]; rfl
      rw [er]
      by_cases htd : f (133 + 4 * i) = f 3
      · refine lv_icmp_ne (tgt := 47) hx hb dL_answers_40 (by decide) (fun cc => absurd (by rw [htd]) cc) (fun _ => ?_)
        refine lv_iconst (v := 1) hx hb dL_answers_43 (by decide) ?_
        refine lv_goto (tgt := 48) hx hb dL_answers_44 (by decide) ?_
        refine lv_istore (lv' := [(5, .int 1), (4, .int (nI (f (132 + 4 * i)))), (3, .int (nI (f (131 + 4 * i)))), (2, .int (nI i)), (0, .ref h0), (1, .int (nI (f 9)))]) hx hb dL_answers_48 hl (by decide) rfl (fun ls hl => ?_)
        exact J50 1 Wo14 _ _ ls (Or.inr htd) hR (lv_sub hl [0, 1, 2, 3, 4, 5] rfl) hP hD hS
      · refine lv_icmp_ne (tgt := 47) hx hb dL_answers_40 (by decide) (fun _ => ?_) (fun cc => absurd cc (fun z => htd ((nI_eq (by omega) (by omega)).mp z)))
        refine lv_iconst (v := 0) hx hb dL_answers_47 (by decide) ?_
        refine lv_istore (lv' := [(5, .int 0), (4, .int (nI (f (132 + 4 * i)))), (3, .int (nI (f (131 + 4 * i)))), (2, .int (nI i)), (0, .ref h0), (1, .int (nI (f 9)))]) hx hb dL_answers_48 hl (by decide) rfl (fun ls hl => ?_)
        exact J50 0 Wo14 _ _ ls (Or.inl rfl) hR (lv_sub hl [0, 1, 2, 3, 4, 5] rfl) hP hD hS
  exact loopA (f 9) 0 Wo1 _ _ ls (by omega) hR (lv_sub hl [0, 2, 1] rfl) hP hD hS

