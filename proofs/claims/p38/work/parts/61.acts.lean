/-! ===== something that is done ===== -/
def ua_post (f : Nat → Nat) (hist : List (Nat → Nat)) (r : Int32) (f' : Nat → Nat) (hist' : List (Nat → Nat)) : Prop := ((r ≤ -1011 ∧ f' = f ∧ hist' = hist) ∨ (¬ r ≤ -1011 ∧ hist' = (f :: hist).take 8)) ∧ uJ f'
theorem ua_no {f : Nat → Nat} {hist : List (Nat → Nat)} {r : Int32} (hJ : uJ f) (h : r = -1011 ∨ r = -1012 ∨ r = -1014) : ua_post f hist r f (uo_h r f hist) := by
  refine ⟨Or.inl ?_, hJ⟩
  unfold uo_h
  rcases h with rfl | rfl | rfl
  · exact ⟨by decide, rfl, if_pos (by decide)⟩
  · exact ⟨by decide, rfl, if_pos (by decide)⟩
  · exact ⟨by decide, rfl, if_pos (by decide)⟩
theorem ua_yes {f f' : Nat → Nat} {hist : List (Nat → Nat)} {n : Nat} (hJ : uJ f') (h : n < 2 ^ 31) : ua_post f hist (nI n) f' (uo_h (nI n) f hist) := by
  refine ⟨Or.inr ⟨fun h2 => ?_, ?_⟩, hJ⟩
  · have h3 := Int32.le_iff_toInt_le.mp h2
    rw [nI_toInt h] at h3
    have e : ((-1011 : Int32)).toInt = -1011 := by decide
    omega
  · unfold uo_h
    rw [if_neg (nI_pos h)]
theorem ua_rope {f f' : Nat → Nat} {hist : List (Nat → Nat)} {c : Nat} {x y : Int32} (hI : um_I f c) (hJ : uJ f) (hU : uq_rope f f' x y) : ua_post f hist y f' (uo_h y f hist) := by
  have h12 := hI.2.1
  have hJ2 := uJ_rope hJ h12 hU
  rcases hU with ⟨-, rfl, rfl⟩ | ⟨p, hp, -, ⟨-, rfl, rfl⟩ | ⟨hn, rfl, rfl⟩⟩
  · exact ua_no hJ (by decide)
  · exact ua_no hJ (by decide)
  · exact ua_yes hJ2 (by omega)
theorem ua_move {f f' : Nat → Nat} {hist : List (Nat → Nat)} {c : Nat} {x p y : Int32} (hI : um_I f c) (hJ : uJ f) (hU : uq_move f f' x p y) : ua_post f hist y f' (uo_h y f hist) := by
  have h12 := hI.2.1
  have hJ2 := uJ_move hJ h12 hU
  rcases hU with ⟨-, rfl, rfl⟩ | ⟨r, hr, -, ⟨-, rfl, rfl⟩ | ⟨k, -, -, ⟨-, rfl, rfl⟩ | ⟨-, rfl, rfl⟩⟩⟩
  · exact ua_no hJ (by decide)
  · exact ua_no hJ (by decide)
  · exact ua_no hJ (by decide)
  · have := hI.2.2.2.2.2.2.2.2.2.1 r (by omega)
    exact ua_yes hJ2 (by omega)
theorem ua_sensor {f f' : Nat → Nat} {hist : List (Nat → Nat)} {c : Nat} {x p y : Int32} (hI : um_I f c) (hJ : uJ f) (hU : uq_sensor f f' x p y) : ua_post f hist y f' (uo_h y f hist) := by
  have h12 := hI.2.1
  have hJ2 := uJ_sensor hJ h12 hU
  rcases hU with ⟨-, rfl, rfl⟩ | ⟨r, hr, -, ⟨-, rfl, rfl⟩ | ⟨k, hk, -, ⟨-, rfl, rfl⟩ | ⟨-, rfl, rfl⟩⟩⟩
  · exact ua_no hJ (by decide)
  · exact ua_no hJ (by decide)
  · exact ua_no hJ (by decide)
  · have h1 : um_sum (fun r' => um_up f (12 + 6 * r) k (12 + 6 * r')) (f 0) ≤ f 0 * 1 := um_sum_le (fun i hi => by
      have := hI.2.2.2.2.2.2.2.2.2.1 i (by omega)
      by_cases e : i = r
      · rw [um_up_eq (by omega)]
        omega
      · rw [um_up_ne (by omega)]
        exact this.2.1)
    exact ua_yes hJ2 (by omega)
theorem ua_oil {f f' : Nat → Nat} {hist : List (Nat → Nat)} {c : Nat} {x p y : Int32} (hI : um_I f c) (hJ : uJ f) (hU : uq_oil f f' x p y) : ua_post f hist y f' (uo_h y f hist) := by
  have h12 := hI.2.1
  have hJ2 := uJ_oil hJ h12 hU
  rcases hU with ⟨-, rfl, rfl⟩ | ⟨r, hr, -, ⟨-, rfl, rfl⟩ | ⟨k, -, -, -, ⟨-, rfl, rfl⟩ | ⟨-, rfl, rfl⟩⟩⟩
  · exact ua_no hJ (by decide)
  · exact ua_no hJ (by decide)
  · exact ua_no hJ (by decide)
  · have := hI.2.2.2.2.2.2.2.2.2.1 r (by omega)
    exact ua_yes hJ2 (by omega)
theorem ua_pull {f f' : Nat → Nat} {hist : List (Nat → Nat)} {c : Nat} {x h s y : Int32} (hI : um_I f c) (hJ : uJ f) (hU : uq_pull f f' x h s y) : ua_post f hist y f' (uo_h y f hist) := by
  have hJ2 := uJ_pull hI hJ hU
  have h16 := hI.2.2.1
  rcases hU with ⟨-, rfl, rfl⟩ | ⟨r, hr, -, ⟨-, rfl, rfl⟩ | ⟨t, ht, -, ⟨-, rfl, rfl⟩ | ⟨k, hk, hk9, -, ⟨-, rfl, rfl⟩ | ⟨h2, hh, rfl, rfl⟩⟩⟩⟩
  · exact ua_no hJ (by decide)
  · exact ua_no hJ (by decide)
  · exact ua_no hJ (by decide)
  · exact ua_no hJ (by decide)
  · have := um_pos_le (f := f) (r := r) (h := t) (s := k) (f 1)
    exact ua_yes hJ2 (by omega)
theorem ua_cancel {f f' : Nat → Nat} {hist : List (Nat → Nat)} {c : Nat} {x y : Int32} (hI : um_I f c) (hJ : uJ f) (hU : uq_cancel f f' x y) : ua_post f hist y f' (uo_h y f hist) := by
  have hJ2 := uJ_cancel hI hJ hU
  rcases hU with ⟨-, rfl, rfl⟩ | ⟨r, hr, -, ⟨rfl, rfl⟩ | ⟨rfl, rfl⟩⟩
  · exact ua_no hJ (by decide)
  · exact ua_no hJ (by decide)
  · have h16 := hI.2.2.1
    obtain ⟨-, -, e3, -⟩ := um_canF_lst (f := f) (r := r) h16
    exact ua_yes hJ2 (by omega)
theorem ua_ring {f f' : Nat → Nat} {hist : List (Nat → Nat)} {c : Nat} {y lr ld lr' ld' : Int32} (hI : um_I f c) (hJ : uJ f) (hU : uq_ring f f' y lr ld lr' ld') : ua_post f hist y f' (uo_h y f hist) := by
  have hJ2 := uJ_ring hI hJ hU
  rcases hU with ⟨-, rfl, rfl, -⟩ | ⟨h1, rfl, rfl, -⟩
  · exact ua_no hJ (by decide)
  · have h3 : um_ringR f ≤ 2 := by
      unfold um_ringR
      split
      · omega
      · split <;> omega
    exact ua_yes hJ2 (by omega)
theorem ua_hr_le {h : Nat} : ∀ (k : Nat) (f : Nat → Nat), (uq_hr h k f).2 ≤ k
  | 0, _ => Nat.le_refl _
  | k + 1, f => by
    have := ua_hr_le (h := h) k (um_ringF f)
    rw [uq_hr]
    split
    · show (uq_hr h k (um_ringF f)).2 + (if um_ringR f = 1 then 1 else 0) ≤ k + 1
      split <;> omega
    · exact Nat.zero_le _
theorem ua_hour {f f' : Nat → Nat} {hist : List (Nat → Nat)} {c : Nat} {y : Int32} (hI : um_I f c) (hJ : uJ f) (hU : uq_hour f f' y) : ua_post f hist y f' (uo_h y f hist) := by
  have hJ2 := uJ_hour hI hJ hU
  have h16 := hI.2.2.1
  rcases hU with ⟨-, rfl, rfl⟩ | ⟨h1, rfl, rfl⟩
  · exact ua_no hJ (by decide)
  · have := ua_hr_le (h := f 84) (f 1) f
    exact ua_yes hJ2 (by omega)
theorem ua_end {f : Nat → Nat} {hist : List (Nat → Nat)} {c : Nat} (hI : um_I f c) (hJ : uJ f) : ua_post f hist (nI (f 1)) (um_endF f) (uo_h (nI (f 1)) f hist) := by
  have h16 := hI.2.2.1
  exact ua_yes (uJ_end hI hJ) (by omega)
theorem ua_tab (z : Int32) : (∃ n : Nat, n < 26 ∧ z = nI n) ∨ (z.toInt < 0 ∨ 25 < z.toInt) := by
  by_cases h : z < 0
  · have h2 := Int32.lt_iff_toInt_lt.mp h
    have e : ((0 : Int32)).toInt = 0 := by decide
    exact Or.inr (Or.inl (by omega))
  · obtain ⟨n, hn, rfl⟩ := nI_of h
    by_cases hh : n < 26
    · exact Or.inl ⟨n, hh, rfl⟩
    · exact Or.inr (Or.inr (by rw [nI_toInt hn]; omega))
theorem ua_max {many : Int32} : ¬ (if (1 : Int32) < many then many else 1) = 0 := by
  split
  · rename_i h
    intro e
    rw [e] at h
    exact absurd h (by decide)
  · decide
theorem us_hL_some : yL_some.cls ≠ "java/lang/invoke/MethodHandle" ∧ yL_some.cls ≠ "java/lang/invoke/VarHandle" ∧ (parseMethodDescriptor yL_some.desc).map (fun d => d.parameters.length) = some 2 := by decide +kernel
set_option maxHeartbeats 4000000 in
set_option maxRecDepth 100000 in
theorem ul_some (l : Launch) (g : us_G) {sz : Nat} {b0 : Nat} {x many : Int32} : Met l yL_some wsL_some ({ frames := 1, cells := 0, slots := 0, locals := 21 } : Room) (va_Pc [.ref b0, .int many] (us_pc g [(b0, .inr (11, [.int x]))] sz)) (va_Qi (fun (_ : Int32) (u : va_W) => ∃ x1 : Int32, u = [(b0, .inr (11, [.int x1]))]) (fun u t => ub_pq g.1 u (va_A [(b0, .inr (11, [.int x]))] sz) t) (va_A [(b0, .inr (11, [.int x]))] sz)) 0 0 (va_A [(b0, .inr (11, [.int x]))] sz) := by
  refine us_met_i (y := yL_some) (cc := cL_some) (nL := 2) (av := [.ref b0, .int many]) (post := (fun (_ : Int32) (u : va_W) => ∃ x1 : Int32, u = [(b0, .inr (11, [.int x1]))])) (by decide +kernel) (Nat.le_of_ble_eq_true rfl) fun p e s m args below meth c Q A K hret ls hl hP hD hS => ?_
  obtain ⟨hx, hb, hml, hown, hts, hK, hN, hA, hZ⟩ := K
  have hl : lv_has ls 2 [(0, .ref b0), (1, .int many)] := hl
  refine lv_aload_n hx hb dL_some_0 rfl (lv_at hl 0 rfl) ?_
  refine lv_bipush (v := 25) hx hb dL_some_1 (by decide) ?_
  have hpm : ([(b0, .inr (11, [.int x]))] : va_W).Perm ([(b0, .inr (11, [.int x]))] ++ ([] : va_W)) := List.Perm.of_eq (List.append_nil _).symm
  have hFc := ub_freeP hD hS hA hpm
  obtain ⟨hPc, hDc⟩ := ub_subP hP hD hpm
  refine us_calli (va_runV (As := [.int 25]) (rest := []) ⟨hx, hb, hml, hown, hts⟩ (ul_next l g (x := x) (n := 25) (by decide)) (cwV 1 hts gu_RL_23 rfl rfl rfl ⟨rfl, us_hX9_next⟩ ⟨Nat.le_of_ble_eq_true rfl, Nat.le_of_ble_eq_true rfl⟩) (us_preV hZ hS hFc hPc hDc hK hN 0 (ci := 11) rfl rfl rfl) rfl rfl hl.1 rfl (lv_room (Nat.le_of_ble_eq_true rfl)) dL_some_3 ⟨Nat.le_of_ble_eq_true rfl, Nat.le_of_ble_eq_true rfl⟩) hP hD hS hA hpm (fun r u H locs hpost hP hD hS => ?_)
  obtain ⟨x1, rfl⟩ := hpost
  have hP : va_P g.1 vwCl [(b0, .inr (11, [.int x1]))] H := by
      have h9 := hP
      rw [List.append_nil] at h9
      exact h9
  have hD : va_D A [(b0, .inr (11, [.int x1]))] := by
      have h9 := hD
      rw [List.append_nil] at h9
      exact h9
  by_cases hz0 : r = 0
  · refine lv_if_ne (tgt := 13) hx hb dL_some_6 (by decide) (fun cc => absurd hz0 cc) (fun _ => ?_)
    refine lv_iload_n hx hb dL_some_9 rfl (lv_at hl 1 rfl) ?_
    refine lv_goto (tgt := 22) hx hb dL_some_10 (by decide) ?_
    exact hret _ _ _ _ _ ls ⟨x1, rfl⟩ dL_some_22 rfl hP hD hS
  · refine lv_if_ne (tgt := 13) hx hb dL_some_6 (by decide) (fun _ => ?_) (fun cc => absurd cc hz0)
    refine lv_aload_n hx hb dL_some_13 rfl (lv_at hl 0 rfl) ?_
    refine lv_iconst (v := 1) hx hb dL_some_14 (by decide) ?_
    refine lv_iload_n hx hb dL_some_15 rfl (lv_at hl 1 rfl) ?_
    refine va_mmax hx hb (hml.trans hl.1.symm) hown (hts _ us_m801) (hts _ us_m464) (hts _ us_m49) (hts _ us_m465) (Nat.le_of_ble_eq_true rfl) (Nat.le_of_ble_eq_true rfl) (Nat.le_of_ble_eq_true rfl) (Nat.le_of_ble_eq_true rfl) dL_some_16 ?_
    have hpm : ([(b0, .inr (11, [.int x1]))] : va_W).Perm ([(b0, .inr (11, [.int x1]))] ++ ([] : va_W)) := List.Perm.of_eq (List.append_nil _).symm
    have hFc := ub_freeP hD hS hA hpm
    obtain ⟨hPc, hDc⟩ := ub_subP hP hD hpm
    refine us_calli (va_runV (As := [.int (if 1 < many then many else 1)]) (rest := []) ⟨hx, hb, hml, hown, hts⟩ (ul_next l g (x := x1) (n := (if 1 < many then many else 1)) ua_max) (cwV 1 hts gu_RL_23 rfl rfl rfl ⟨rfl, us_hX9_next⟩ ⟨Nat.le_of_ble_eq_true rfl, Nat.le_of_ble_eq_true rfl⟩) (us_preV hZ hS hFc hPc hDc hK hN 0 (ci := 11) rfl rfl rfl) rfl rfl hl.1 rfl (lv_room (Nat.le_of_ble_eq_true rfl)) dL_some_19 ⟨Nat.le_of_ble_eq_true rfl, Nat.le_of_ble_eq_true rfl⟩) hP hD hS hA hpm (fun r u H locs hpost hP hD hS => ?_)
    obtain ⟨x2, rfl⟩ := hpost
    have hP : va_P g.1 vwCl [(b0, .inr (11, [.int x2]))] H := by
      have h9 := hP
      rw [List.append_nil] at h9
      exact h9
    have hD : va_D A [(b0, .inr (11, [.int x2]))] := by
      have h9 := hD
      rw [List.append_nil] at h9
      exact h9
    exact hret _ _ _ _ _ ls ⟨x2, rfl⟩ dL_some_22 rfl hP hD hS

theorem us_hL_acts : yL_acts.cls ≠ "java/lang/invoke/MethodHandle" ∧ yL_acts.cls ≠ "java/lang/invoke/VarHandle" ∧ (parseMethodDescriptor yL_acts.desc).map (fun d => d.parameters.length) = some 3 := by decide +kernel
set_option maxHeartbeats 4000000 in
set_option maxRecDepth 100000 in
theorem ul_acts (l : Launch) (g : us_G) {sz : Nat} {h0 k b0 : Nat} {f : Nat → Nat} {hist : List (Nat → Nat)} {sv : Option (Nat → Nat)} {lr ld x y : Int32} {L : List Nat} {Wo : va_W} (hR : uo_W g h0 k f hist sv lr ld L Wo) (hJ : uJ f) (hk : k + 1 ≤ 2 ^ 20) : Met l yL_acts wsL_acts ({ frames := 6, cells := 18, slots := 253, locals := 133 } : Room) (va_Pc [.ref h0, .int y, .ref b0] (us_pc g ([(b0, .inr (11, [.int x]))] ++ Wo) sz)) (va_Qi (fun (r : Int32) (u : va_W) => ∃ (x1 : Int32) (W2 : va_W) (f2 : Nat → Nat) (hist2 : List (Nat → Nat)) (lr2 ld2 : Int32), u = [(b0, .inr (11, [.int x1]))] ++ W2 ∧ uo_W g h0 (k + 1) f2 hist2 sv lr2 ld2 L W2 ∧ ua_post f hist r f2 hist2) (fun u t => ub_pq g.1 u (va_A ([(b0, .inr (11, [.int x]))] ++ Wo) sz) t) (va_A ([(b0, .inr (11, [.int x]))] ++ Wo) sz)) 18 253 (va_A ([(b0, .inr (11, [.int x]))] ++ Wo) sz) := by
  refine us_met_i (y := yL_acts) (cc := cL_acts) (nL := 4) (av := [.ref h0, .int y, .ref b0]) (post := (fun (r : Int32) (u : va_W) => ∃ (x1 : Int32) (W2 : va_W) (f2 : Nat → Nat) (hist2 : List (Nat → Nat)) (lr2 ld2 : Int32), u = [(b0, .inr (11, [.int x1]))] ++ W2 ∧ uo_W g h0 (k + 1) f2 hist2 sv lr2 ld2 L W2 ∧ ua_post f hist r f2 hist2)) (by decide +kernel) (Nat.le_of_ble_eq_true rfl) fun p e s m args below meth c Q A K hret ls hl hP hD hS => ?_
  obtain ⟨hx, hb, hml, hown, hts, hK, hN, hA, hZ⟩ := K
  have hl : lv_has ls 4 [(0, .ref h0), (1, .int y), (2, .ref b0)] := hl
  refine lv_aload_n hx hb dL_acts_0 rfl (lv_at hl 2 rfl) ?_
  refine lv_aload_n hx hb dL_acts_1 rfl (lv_at hl 0 rfl) ?_
  refine lv_iconst (v := 0) hx hb dL_acts_2 (by decide) ?_
  have hpm : List.Perm (([(b0, .inr (11, [.int x]))] ++ Wo) : va_W) (Wo ++ [(b0, .inr (11, [.int x]))]) := List.perm_append_comm
  have hFc := ub_freeP hD hS hA hpm
  obtain ⟨hPc, hDc⟩ := ub_subP hP hD hpm
  refine us_calli (va_runV (As := [.int 0]) (rest := [.ref b0]) ⟨hx, hb, hml, hown, hts⟩ (uo_account l g hR (x := 0)) (cwV 1 hts gu_RL_34 rfl rfl rfl ⟨rfl, uhX8_account⟩ ⟨Nat.le_of_ble_eq_true rfl, Nat.le_of_ble_eq_true rfl⟩) (us_preO hR hZ hS hFc hPc hDc hK hN) rfl rfl hl.1 rfl (lv_room (Nat.le_of_ble_eq_true rfl)) dL_acts_3 ⟨Nat.le_of_ble_eq_true rfl, Nat.le_of_ble_eq_true rfl⟩) hP hD hS hA hpm (fun r Wo1 H locs hpost hP hD hS => ?_)
  have hP : va_P g.1 vwCl ([(b0, .inr (11, [.int x]))] ++ Wo1) H := ub_P_perm List.perm_append_comm hP
  have hD : va_D A ([(b0, .inr (11, [.int x]))] ++ Wo1) := ub_D_perm List.perm_append_comm hD
  obtain ⟨rfl, hR⟩ := hpost
  have hpm : List.Perm (([(b0, .inr (11, [.int x]))] ++ Wo1) : va_W) ([(b0, .inr (11, [.int x]))] ++ ([] ++ Wo1)) := uo_P0 (ub_permN (ws := [(b0, .inr (11, [.int x]))]) (ws' := [(b0, .inr (11, [.int x]))] ++ []) 1 rfl [0] (by decide) rfl)
  have hFc := ub_freeP hD hS hA hpm
  obtain ⟨hPc, hDc⟩ := ub_subP hP hD hpm
  refine us_calli (va_runS (As := [.ref b0, .int (ut_acc f hist.length 0)]) (rest := []) ⟨hx, hb, hml, hown, hts⟩ (ul_some l g) (va_cwS 2 hts gu_RL_37 rfl rfl rfl us_hL_some ⟨Nat.le_of_ble_eq_true rfl, Nat.le_of_ble_eq_true rfl⟩) (us_preS hZ hS hFc hPc hDc hK hN) rfl rfl hl.1 rfl (lv_room (Nat.le_of_ble_eq_true rfl)) dL_acts_6 ⟨Nat.le_of_ble_eq_true rfl, Nat.le_of_ble_eq_true rfl⟩) hP hD hS hA hpm (fun r0 u H locs hpost hP hD hS => ?_)
  obtain ⟨x1, rfl⟩ := hpost
  have hP : va_P g.1 vwCl ([(b0, .inr (11, [.int x1]))] ++ Wo1) _ := hP
  have hD : va_D A ([(b0, .inr (11, [.int x1]))] ++ Wo1) := hD
  refine lv_istore_n (lv' := [(3, .int r0), (0, .ref h0), (1, .int y), (2, .ref b0)]) hx hb dL_acts_9 rfl hl (by decide) rfl (fun ls hl => ?_)
  have j151 : ∀ (v x : Int32) (Wo : va_W) (H : Heap) (locs : List Loc), uo_W g h0 k f hist sv lr ld L Wo → va_P g.1 vwCl ([(b0, .inr (11, [.int x]))] ++ Wo) H → va_D A ([(b0, .inr (11, [.int x]))] ++ Wo) → va_S A s.heap H locs → W p l e ({ frames := 6, cells := 18, slots := 253, locals := 133 } : Room) s m args below meth c H locs 0 0 Q (F0 m 151 ls [.int v, .ref h0]) := by
    intro v x Wo H locs hR hP hD hS
    have hpm : List.Perm (([(b0, .inr (11, [.int x]))] ++ Wo) : va_W) (Wo ++ [(b0, .inr (11, [.int x]))]) := List.perm_append_comm
    have hFc := ub_freeP hD hS hA hpm
    obtain ⟨hPc, hDc⟩ := ub_subP hP hD hpm
    refine us_calli (va_runV (As := [.int v]) (rest := []) ⟨hx, hb, hml, hown, hts⟩ (uo_rope l g hR (x1 := v) hk) (cwV 1 hts gu_RL_43 rfl rfl rfl ⟨rfl, uhX8_rope⟩ ⟨Nat.le_of_ble_eq_true rfl, Nat.le_of_ble_eq_true rfl⟩) (us_preO hR hZ hS hFc hPc hDc hK hN) rfl rfl hl.1 rfl (lv_room (Nat.le_of_ble_eq_true rfl)) dL_acts_151 ⟨Nat.le_of_ble_eq_true rfl, Nat.le_of_ble_eq_true rfl⟩) hP hD hS hA hpm (fun r Wo1 H locs hpost hP hD hS => ?_)
    have hP : va_P g.1 vwCl ([(b0, .inr (11, [.int x]))] ++ Wo1) H := ub_P_perm List.perm_append_comm hP
    have hD : va_D A ([(b0, .inr (11, [.int x]))] ++ Wo1) := ub_D_perm List.perm_append_comm hD
    obtain ⟨f2, lr2, ld2, hU, hR2⟩ := hpost
    exact hret _ _ H locs _ ls ⟨x, Wo1, f2, _, lr2, ld2, rfl, hR2, ua_rope (uo_W_len hR).2 hJ hU⟩ dL_acts_154 rfl hP hD hS
  have j132 : ∀ (x : Int32) (Wo : va_W) (H : Heap) (locs : List Loc), uo_W g h0 k f hist sv lr ld L Wo → va_P g.1 vwCl ([(b0, .inr (11, [.int x]))] ++ Wo) H → va_D A ([(b0, .inr (11, [.int x]))] ++ Wo) → va_S A s.heap H locs → W p l e ({ frames := 6, cells := 18, slots := 253, locals := 133 } : Room) s m args below meth c H locs 0 0 Q (F0 m 132 ls []) := by
    intro x Wo H locs hR hP hD hS
    refine lv_aload_n hx hb dL_acts_132 rfl (lv_at hl 1 rfl) ?_
    refine lv_aload_n hx hb dL_acts_133 rfl (lv_at hl 3 rfl) ?_
    refine lv_bipush (v := 20) hx hb dL_acts_134 (by decide) ?_
    have hpm : ([(b0, .inr (11, [.int x]))] ++ Wo : va_W).Perm ([(b0, .inr (11, [.int x]))] ++ Wo) := List.Perm.refl _
    have hFc := ub_freeP hD hS hA hpm
    obtain ⟨hPc, hDc⟩ := ub_subP hP hD hpm
    refine us_calli (va_runV (As := [.int 20]) (rest := [.ref h0]) ⟨hx, hb, hml, hown, hts⟩ (ul_next l g (x := x) (n := 20) (by decide)) (cwV 1 hts gu_RL_23 rfl rfl rfl ⟨rfl, us_hX9_next⟩ ⟨Nat.le_of_ble_eq_true rfl, Nat.le_of_ble_eq_true rfl⟩) (us_preV hZ hS hFc hPc hDc hK hN 0 (ci := 11) rfl rfl rfl) rfl rfl hl.1 rfl (lv_room (Nat.le_of_ble_eq_true rfl)) dL_acts_136 ⟨Nat.le_of_ble_eq_true rfl, Nat.le_of_ble_eq_true rfl⟩) hP hD hS hA hpm (fun r u H locs hpost hP hD hS => ?_)
    obtain ⟨x1, rfl⟩ := hpost
    have hP : va_P g.1 vwCl ([(b0, .inr (11, [.int x1]))] ++ Wo) _ := hP
    have hD : va_D A ([(b0, .inr (11, [.int x1]))] ++ Wo) := hD
    by_cases hz0 : r = 0
    · refine lv_if_ne (tgt := 146) hx hb dL_acts_139 (by decide) (fun cc => absurd hz0 cc) (fun _ => ?_)
      refine lv_iconst (v := 4) hx hb dL_acts_142 (by decide) ?_
      refine lv_goto (tgt := 151) hx hb dL_acts_143 (by decide) ?_
      exact j151 4 x1 Wo H locs hR hP hD hS
    · refine lv_if_ne (tgt := 146) hx hb dL_acts_139 (by decide) (fun _ => ?_) (fun cc => absurd cc hz0)
      refine lv_aload_n hx hb dL_acts_146 rfl (lv_at hl 3 rfl) ?_
      refine lv_iconst (v := 4) hx hb dL_acts_147 (by decide) ?_
      have hpm : ([(b0, .inr (11, [.int x1]))] ++ Wo : va_W).Perm ([(b0, .inr (11, [.int x1]))] ++ Wo) := List.Perm.refl _
      have hFc := ub_freeP hD hS hA hpm
      obtain ⟨hPc, hDc⟩ := ub_subP hP hD hpm
      refine us_calli (va_runV (As := [.int 4]) (rest := [.ref h0]) ⟨hx, hb, hml, hown, hts⟩ (ul_next l g (x := x1) (n := 4) (by decide)) (cwV 1 hts gu_RL_23 rfl rfl rfl ⟨rfl, us_hX9_next⟩ ⟨Nat.le_of_ble_eq_true rfl, Nat.le_of_ble_eq_true rfl⟩) (us_preV hZ hS hFc hPc hDc hK hN 0 (ci := 11) rfl rfl rfl) rfl rfl hl.1 rfl (lv_room (Nat.le_of_ble_eq_true rfl)) dL_acts_148 ⟨Nat.le_of_ble_eq_true rfl, Nat.le_of_ble_eq_true rfl⟩) hP hD hS hA hpm (fun r u H locs hpost hP hD hS => ?_)
      obtain ⟨x2, rfl⟩ := hpost
      have hP : va_P g.1 vwCl ([(b0, .inr (11, [.int x2]))] ++ Wo) _ := hP
      have hD : va_D A ([(b0, .inr (11, [.int x2]))] ++ Wo) := hD
      exact j151 r x2 Wo H locs hR hP hD hS
  have j175 : ∀ (v x : Int32) (Wo : va_W) (H : Heap) (locs : List Loc), uo_W g h0 k f hist sv lr ld L Wo → va_P g.1 vwCl ([(b0, .inr (11, [.int x]))] ++ Wo) H → va_D A ([(b0, .inr (11, [.int x]))] ++ Wo) → va_S A s.heap H locs → W p l e ({ frames := 6, cells := 18, slots := 253, locals := 133 } : Room) s m args below meth c H locs 0 0 Q (F0 m 175 ls [.int v, .int r0, .ref h0]) := by
    intro v x Wo H locs hR hP hD hS
    have hpm : List.Perm (([(b0, .inr (11, [.int x]))] ++ Wo) : va_W) (Wo ++ [(b0, .inr (11, [.int x]))]) := List.perm_append_comm
    have hFc := ub_freeP hD hS hA hpm
    obtain ⟨hPc, hDc⟩ := ub_subP hP hD hpm
    refine us_calli (va_runV (As := [.int r0, .int v]) (rest := []) ⟨hx, hb, hml, hown, hts⟩ (uo_move l g hR (x1 := r0) (x2 := v) hk) (cwV 2 hts gu_RL_46 rfl rfl rfl ⟨rfl, uhX8_move⟩ ⟨Nat.le_of_ble_eq_true rfl, Nat.le_of_ble_eq_true rfl⟩) (us_preO hR hZ hS hFc hPc hDc hK hN) rfl rfl hl.1 rfl (lv_room (Nat.le_of_ble_eq_true rfl)) dL_acts_175 ⟨Nat.le_of_ble_eq_true rfl, Nat.le_of_ble_eq_true rfl⟩) hP hD hS hA hpm (fun r Wo1 H locs hpost hP hD hS => ?_)
    have hP : va_P g.1 vwCl ([(b0, .inr (11, [.int x]))] ++ Wo1) H := ub_P_perm List.perm_append_comm hP
    have hD : va_D A ([(b0, .inr (11, [.int x]))] ++ Wo1) := ub_D_perm List.perm_append_comm hD
    obtain ⟨f2, lr2, ld2, hU, hR2⟩ := hpost
    exact hret _ _ H locs _ ls ⟨x, Wo1, f2, _, lr2, ld2, rfl, hR2, ua_move (uo_W_len hR).2 hJ hU⟩ dL_acts_178 rfl hP hD hS
  have j155 : ∀ (x : Int32) (Wo : va_W) (H : Heap) (locs : List Loc), uo_W g h0 k f hist sv lr ld L Wo → va_P g.1 vwCl ([(b0, .inr (11, [.int x]))] ++ Wo) H → va_D A ([(b0, .inr (11, [.int x]))] ++ Wo) → va_S A s.heap H locs → W p l e ({ frames := 6, cells := 18, slots := 253, locals := 133 } : Room) s m args below meth c H locs 0 0 Q (F0 m 155 ls []) := by
    intro x Wo H locs hR hP hD hS
    refine lv_aload_n hx hb dL_acts_155 rfl (lv_at hl 1 rfl) ?_
    refine lv_iload_n hx hb dL_acts_156 rfl (lv_at hl 0 rfl) ?_
    refine lv_aload_n hx hb dL_acts_157 rfl (lv_at hl 3 rfl) ?_
    refine lv_bipush (v := 20) hx hb dL_acts_158 (by decide) ?_
    have hpm : ([(b0, .inr (11, [.int x]))] ++ Wo : va_W).Perm ([(b0, .inr (11, [.int x]))] ++ Wo) := List.Perm.refl _
    have hFc := ub_freeP hD hS hA hpm
    obtain ⟨hPc, hDc⟩ := ub_subP hP hD hpm
    refine us_calli (va_runV (As := [.int 20]) (rest := [.int r0, .ref h0]) ⟨hx, hb, hml, hown, hts⟩ (ul_next l g (x := x) (n := 20) (by decide)) (cwV 1 hts gu_RL_23 rfl rfl rfl ⟨rfl, us_hX9_next⟩ ⟨Nat.le_of_ble_eq_true rfl, Nat.le_of_ble_eq_true rfl⟩) (us_preV hZ hS hFc hPc hDc hK hN 0 (ci := 11) rfl rfl rfl) rfl rfl hl.1 rfl (lv_room (Nat.le_of_ble_eq_true rfl)) dL_acts_160 ⟨Nat.le_of_ble_eq_true rfl, Nat.le_of_ble_eq_true rfl⟩) hP hD hS hA hpm (fun r u H locs hpost hP hD hS => ?_)
    obtain ⟨x1, rfl⟩ := hpost
    have hP : va_P g.1 vwCl ([(b0, .inr (11, [.int x1]))] ++ Wo) _ := hP
    have hD : va_D A ([(b0, .inr (11, [.int x1]))] ++ Wo) := hD
    by_cases hz0 : r = 0
    · refine lv_if_ne (tgt := 170) hx hb dL_acts_163 (by decide) (fun cc => absurd hz0 cc) (fun _ => ?_)
      refine lv_iconst (v := 4) hx hb dL_acts_166 (by decide) ?_
      refine lv_goto (tgt := 175) hx hb dL_acts_167 (by decide) ?_
      exact j175 4 x1 Wo H locs hR hP hD hS
    · refine lv_if_ne (tgt := 170) hx hb dL_acts_163 (by decide) (fun _ => ?_) (fun cc => absurd cc hz0)
      refine lv_aload_n hx hb dL_acts_170 rfl (lv_at hl 3 rfl) ?_
      refine lv_iconst (v := 4) hx hb dL_acts_171 (by decide) ?_
      have hpm : ([(b0, .inr (11, [.int x1]))] ++ Wo : va_W).Perm ([(b0, .inr (11, [.int x1]))] ++ Wo) := List.Perm.refl _
      have hFc := ub_freeP hD hS hA hpm
      obtain ⟨hPc, hDc⟩ := ub_subP hP hD hpm
      refine us_calli (va_runV (As := [.int 4]) (rest := [.int r0, .ref h0]) ⟨hx, hb, hml, hown, hts⟩ (ul_next l g (x := x1) (n := 4) (by decide)) (cwV 1 hts gu_RL_23 rfl rfl rfl ⟨rfl, us_hX9_next⟩ ⟨Nat.le_of_ble_eq_true rfl, Nat.le_of_ble_eq_true rfl⟩) (us_preV hZ hS hFc hPc hDc hK hN 0 (ci := 11) rfl rfl rfl) rfl rfl hl.1 rfl (lv_room (Nat.le_of_ble_eq_true rfl)) dL_acts_172 ⟨Nat.le_of_ble_eq_true rfl, Nat.le_of_ble_eq_true rfl⟩) hP hD hS hA hpm (fun r u H locs hpost hP hD hS => ?_)
      obtain ⟨x2, rfl⟩ := hpost
      have hP : va_P g.1 vwCl ([(b0, .inr (11, [.int x2]))] ++ Wo) _ := hP
      have hD : va_D A ([(b0, .inr (11, [.int x2]))] ++ Wo) := hD
      exact j175 r x2 Wo H locs hR hP hD hS
  have j207 : ∀ (v x : Int32) (Wo : va_W) (H : Heap) (locs : List Loc), uo_W g h0 k f hist sv lr ld L Wo → va_P g.1 vwCl ([(b0, .inr (11, [.int x]))] ++ Wo) H → va_D A ([(b0, .inr (11, [.int x]))] ++ Wo) → va_S A s.heap H locs → W p l e ({ frames := 6, cells := 18, slots := 253, locals := 133 } : Room) s m args below meth c H locs 0 0 Q (F0 m 207 ls [.int v, .int r0, .ref h0]) := by
    intro v x Wo H locs hR hP hD hS
    have hpm : List.Perm (([(b0, .inr (11, [.int x]))] ++ Wo) : va_W) (Wo ++ [(b0, .inr (11, [.int x]))]) := List.perm_append_comm
    have hFc := ub_freeP hD hS hA hpm
    obtain ⟨hPc, hDc⟩ := ub_subP hP hD hpm
    refine us_calli (va_runV (As := [.int r0, .int v]) (rest := []) ⟨hx, hb, hml, hown, hts⟩ (uo_sensor l g hR (x1 := r0) (x2 := v) hk) (cwV 2 hts gu_RL_49 rfl rfl rfl ⟨rfl, uhX8_sensor⟩ ⟨Nat.le_of_ble_eq_true rfl, Nat.le_of_ble_eq_true rfl⟩) (us_preO hR hZ hS hFc hPc hDc hK hN) rfl rfl hl.1 rfl (lv_room (Nat.le_of_ble_eq_true rfl)) dL_acts_207 ⟨Nat.le_of_ble_eq_true rfl, Nat.le_of_ble_eq_true rfl⟩) hP hD hS hA hpm (fun r Wo1 H locs hpost hP hD hS => ?_)
    have hP : va_P g.1 vwCl ([(b0, .inr (11, [.int x]))] ++ Wo1) H := ub_P_perm List.perm_append_comm hP
    have hD : va_D A ([(b0, .inr (11, [.int x]))] ++ Wo1) := ub_D_perm List.perm_append_comm hD
    obtain ⟨f2, lr2, ld2, hU, hR2⟩ := hpost
    exact hret _ _ H locs _ ls ⟨x, Wo1, f2, _, lr2, ld2, rfl, hR2, ua_sensor (uo_W_len hR).2 hJ hU⟩ dL_acts_210 rfl hP hD hS
  have j179 : ∀ (x : Int32) (Wo : va_W) (H : Heap) (locs : List Loc), uo_W g h0 k f hist sv lr ld L Wo → va_P g.1 vwCl ([(b0, .inr (11, [.int x]))] ++ Wo) H → va_D A ([(b0, .inr (11, [.int x]))] ++ Wo) → va_S A s.heap H locs → W p l e ({ frames := 6, cells := 18, slots := 253, locals := 133 } : Room) s m args below meth c H locs 0 0 Q (F0 m 179 ls []) := by
    intro x Wo H locs hR hP hD hS
    refine lv_aload_n hx hb dL_acts_179 rfl (lv_at hl 1 rfl) ?_
    refine lv_iload_n hx hb dL_acts_180 rfl (lv_at hl 0 rfl) ?_
    refine lv_aload_n hx hb dL_acts_181 rfl (lv_at hl 3 rfl) ?_
    refine lv_bipush (v := 20) hx hb dL_acts_182 (by decide) ?_
    have hpm : ([(b0, .inr (11, [.int x]))] ++ Wo : va_W).Perm ([(b0, .inr (11, [.int x]))] ++ Wo) := List.Perm.refl _
    have hFc := ub_freeP hD hS hA hpm
    obtain ⟨hPc, hDc⟩ := ub_subP hP hD hpm
    refine us_calli (va_runV (As := [.int 20]) (rest := [.int r0, .ref h0]) ⟨hx, hb, hml, hown, hts⟩ (ul_next l g (x := x) (n := 20) (by decide)) (cwV 1 hts gu_RL_23 rfl rfl rfl ⟨rfl, us_hX9_next⟩ ⟨Nat.le_of_ble_eq_true rfl, Nat.le_of_ble_eq_true rfl⟩) (us_preV hZ hS hFc hPc hDc hK hN 0 (ci := 11) rfl rfl rfl) rfl rfl hl.1 rfl (lv_room (Nat.le_of_ble_eq_true rfl)) dL_acts_184 ⟨Nat.le_of_ble_eq_true rfl, Nat.le_of_ble_eq_true rfl⟩) hP hD hS hA hpm (fun r u H locs hpost hP hD hS => ?_)
    obtain ⟨x1, rfl⟩ := hpost
    have hP : va_P g.1 vwCl ([(b0, .inr (11, [.int x1]))] ++ Wo) _ := hP
    have hD : va_D A ([(b0, .inr (11, [.int x1]))] ++ Wo) := hD
    by_cases hz0 : r = 0
    · refine lv_if_ne (tgt := 194) hx hb dL_acts_187 (by decide) (fun cc => absurd hz0 cc) (fun _ => ?_)
      refine lv_iconst (v := 2) hx hb dL_acts_190 (by decide) ?_
      refine lv_goto (tgt := 207) hx hb dL_acts_191 (by decide) ?_
      exact j207 2 x1 Wo H locs hR hP hD hS
    · refine lv_if_ne (tgt := 194) hx hb dL_acts_187 (by decide) (fun _ => ?_) (fun cc => absurd cc hz0)
      refine lv_aload_n hx hb dL_acts_194 rfl (lv_at hl 3 rfl) ?_
      refine lv_iconst (v := 3) hx hb dL_acts_195 (by decide) ?_
      have hpm : ([(b0, .inr (11, [.int x1]))] ++ Wo : va_W).Perm ([(b0, .inr (11, [.int x1]))] ++ Wo) := List.Perm.refl _
      have hFc := ub_freeP hD hS hA hpm
      obtain ⟨hPc, hDc⟩ := ub_subP hP hD hpm
      refine us_calli (va_runV (As := [.int 3]) (rest := [.int r0, .ref h0]) ⟨hx, hb, hml, hown, hts⟩ (ul_next l g (x := x1) (n := 3) (by decide)) (cwV 1 hts gu_RL_23 rfl rfl rfl ⟨rfl, us_hX9_next⟩ ⟨Nat.le_of_ble_eq_true rfl, Nat.le_of_ble_eq_true rfl⟩) (us_preV hZ hS hFc hPc hDc hK hN 0 (ci := 11) rfl rfl rfl) rfl rfl hl.1 rfl (lv_room (Nat.le_of_ble_eq_true rfl)) dL_acts_196 ⟨Nat.le_of_ble_eq_true rfl, Nat.le_of_ble_eq_true rfl⟩) hP hD hS hA hpm (fun r u H locs hpost hP hD hS => ?_)
      obtain ⟨x2, rfl⟩ := hpost
      have hP : va_P g.1 vwCl ([(b0, .inr (11, [.int x2]))] ++ Wo) _ := hP
      have hD : va_D A ([(b0, .inr (11, [.int x2]))] ++ Wo) := hD
      by_cases hz0 : r = 0
      · refine lv_if_ne (tgt := 206) hx hb dL_acts_199 (by decide) (fun cc => absurd hz0 cc) (fun _ => ?_)
        refine lv_iconst (v := 0) hx hb dL_acts_202 (by decide) ?_
        refine lv_goto (tgt := 207) hx hb dL_acts_203 (by decide) ?_
        exact j207 0 x2 Wo H locs hR hP hD hS
      · refine lv_if_ne (tgt := 206) hx hb dL_acts_199 (by decide) (fun _ => ?_) (fun cc => absurd cc hz0)
        refine lv_iconst (v := 1) hx hb dL_acts_206 (by decide) ?_
        exact j207 1 x2 Wo H locs hR hP hD hS
  have j278 : ∀ (v t x : Int32) (Wo : va_W) (H : Heap) (locs : List Loc), uo_W g h0 k f hist sv lr ld L Wo → va_P g.1 vwCl ([(b0, .inr (11, [.int x]))] ++ Wo) H → va_D A ([(b0, .inr (11, [.int x]))] ++ Wo) → va_S A s.heap H locs → W p l e ({ frames := 6, cells := 18, slots := 253, locals := 133 } : Room) s m args below meth c H locs 0 0 Q (F0 m 278 ls [.int v, .int t, .int r0, .ref h0]) := by
    intro v t x Wo H locs hR hP hD hS
    have hpm : List.Perm (([(b0, .inr (11, [.int x]))] ++ Wo) : va_W) (Wo ++ [(b0, .inr (11, [.int x]))]) := List.perm_append_comm
    have hFc := ub_freeP hD hS hA hpm
    obtain ⟨hPc, hDc⟩ := ub_subP hP hD hpm
    refine us_calli (va_runV (As := [.int r0, .int t, .int v]) (rest := []) ⟨hx, hb, hml, hown, hts⟩ (uo_pull l g hR (x1 := r0) (x2 := t) (x3 := v) hk) (cwV 3 hts gu_RL_55 rfl rfl rfl ⟨rfl, uhX8_pull⟩ ⟨Nat.le_of_ble_eq_true rfl, Nat.le_of_ble_eq_true rfl⟩) (us_preO hR hZ hS hFc hPc hDc hK hN) rfl rfl hl.1 rfl (lv_room (Nat.le_of_ble_eq_true rfl)) dL_acts_278 ⟨Nat.le_of_ble_eq_true rfl, Nat.le_of_ble_eq_true rfl⟩) hP hD hS hA hpm (fun r Wo1 H locs hpost hP hD hS => ?_)
    have hP : va_P g.1 vwCl ([(b0, .inr (11, [.int x]))] ++ Wo1) H := ub_P_perm List.perm_append_comm hP
    have hD : va_D A ([(b0, .inr (11, [.int x]))] ++ Wo1) := ub_D_perm List.perm_append_comm hD
    obtain ⟨f2, lr2, ld2, hU, hR2⟩ := hpost
    exact hret _ _ H locs _ ls ⟨x, Wo1, f2, _, lr2, ld2, rfl, hR2, ua_pull (uo_W_len hR).2 hJ hU⟩ dL_acts_281 rfl hP hD hS
  have j256 : ∀ (t x : Int32) (Wo : va_W) (H : Heap) (locs : List Loc), uo_W g h0 k f hist sv lr ld L Wo → va_P g.1 vwCl ([(b0, .inr (11, [.int x]))] ++ Wo) H → va_D A ([(b0, .inr (11, [.int x]))] ++ Wo) → va_S A s.heap H locs → W p l e ({ frames := 6, cells := 18, slots := 253, locals := 133 } : Room) s m args below meth c H locs 0 0 Q (F0 m 256 ls [.int t, .int r0, .ref h0]) := by
    intro t x Wo H locs hR hP hD hS
    refine lv_aload_n hx hb dL_acts_256 rfl (lv_at hl 3 rfl) ?_
    refine lv_bipush (v := 20) hx hb dL_acts_257 (by decide) ?_
    have hpm : ([(b0, .inr (11, [.int x]))] ++ Wo : va_W).Perm ([(b0, .inr (11, [.int x]))] ++ Wo) := List.Perm.refl _
    have hFc := ub_freeP hD hS hA hpm
    obtain ⟨hPc, hDc⟩ := ub_subP hP hD hpm
    refine us_calli (va_runV (As := [.int 20]) (rest := [.int t, .int r0, .ref h0]) ⟨hx, hb, hml, hown, hts⟩ (ul_next l g (x := x) (n := 20) (by decide)) (cwV 1 hts gu_RL_23 rfl rfl rfl ⟨rfl, us_hX9_next⟩ ⟨Nat.le_of_ble_eq_true rfl, Nat.le_of_ble_eq_true rfl⟩) (us_preV hZ hS hFc hPc hDc hK hN 0 (ci := 11) rfl rfl rfl) rfl rfl hl.1 rfl (lv_room (Nat.le_of_ble_eq_true rfl)) dL_acts_259 ⟨Nat.le_of_ble_eq_true rfl, Nat.le_of_ble_eq_true rfl⟩) hP hD hS hA hpm (fun r u H locs hpost hP hD hS => ?_)
    obtain ⟨x1, rfl⟩ := hpost
    have hP : va_P g.1 vwCl ([(b0, .inr (11, [.int x1]))] ++ Wo) _ := hP
    have hD : va_D A ([(b0, .inr (11, [.int x1]))] ++ Wo) := hD
    by_cases hz0 : r = 0
    · refine lv_if_ne (tgt := 270) hx hb dL_acts_262 (by decide) (fun cc => absurd hz0 cc) (fun _ => ?_)
      refine lv_bipush (v := 10) hx hb dL_acts_265 (by decide) ?_
      refine lv_goto (tgt := 278) hx hb dL_acts_267 (by decide) ?_
      exact j278 10 t x1 Wo H locs hR hP hD hS
    · refine lv_if_ne (tgt := 270) hx hb dL_acts_262 (by decide) (fun _ => ?_) (fun cc => absurd cc hz0)
      refine lv_iconst (v := 1) hx hb dL_acts_270 (by decide) ?_
      refine lv_aload_n hx hb dL_acts_271 rfl (lv_at hl 3 rfl) ?_
      refine lv_bipush (v := 9) hx hb dL_acts_272 (by decide) ?_
      have hpm : ([(b0, .inr (11, [.int x1]))] ++ Wo : va_W).Perm ([(b0, .inr (11, [.int x1]))] ++ Wo) := List.Perm.refl _
      have hFc := ub_freeP hD hS hA hpm
      obtain ⟨hPc, hDc⟩ := ub_subP hP hD hpm
      refine us_calli (va_runV (As := [.int 9]) (rest := [.int 1, .int t, .int r0, .ref h0]) ⟨hx, hb, hml, hown, hts⟩ (ul_next l g (x := x1) (n := 9) (by decide)) (cwV 1 hts gu_RL_23 rfl rfl rfl ⟨rfl, us_hX9_next⟩ ⟨Nat.le_of_ble_eq_true rfl, Nat.le_of_ble_eq_true rfl⟩) (us_preV hZ hS hFc hPc hDc hK hN 0 (ci := 11) rfl rfl rfl) rfl rfl hl.1 rfl (lv_room (Nat.le_of_ble_eq_true rfl)) dL_acts_274 ⟨Nat.le_of_ble_eq_true rfl, Nat.le_of_ble_eq_true rfl⟩) hP hD hS hA hpm (fun r u H locs hpost hP hD hS => ?_)
      obtain ⟨x2, rfl⟩ := hpost
      have hP : va_P g.1 vwCl ([(b0, .inr (11, [.int x2]))] ++ Wo) _ := hP
      have hD : va_D A ([(b0, .inr (11, [.int x2]))] ++ Wo) := hD
      refine lv_iadd hx hb dL_acts_277 ?_
      exact j278 (1 + r) t x2 Wo H locs hR hP hD hS
  have j249 : ∀ (v a2 x : Int32) (Wo : va_W) (H : Heap) (locs : List Loc), ¬ v = 0 → uo_W g h0 k f hist sv lr ld L Wo → va_P g.1 vwCl ([(b0, .inr (11, [.int x]))] ++ Wo) H → va_D A ([(b0, .inr (11, [.int x]))] ++ Wo) → va_S A s.heap H locs → W p l e ({ frames := 6, cells := 18, slots := 253, locals := 133 } : Room) s m args below meth c H locs 0 0 Q (F0 m 249 ls [.int v, .ref b0, .int a2, .int 23, .int r0, .ref h0]) := by
    intro v a2 x Wo H locs hv hR hP hD hS
    have hpm : ([(b0, .inr (11, [.int x]))] ++ Wo : va_W).Perm ([(b0, .inr (11, [.int x]))] ++ Wo) := List.Perm.refl _
    have hFc := ub_freeP hD hS hA hpm
    obtain ⟨hPc, hDc⟩ := ub_subP hP hD hpm
    refine us_calli (va_runV (As := [.int v]) (rest := [.int a2, .int 23, .int r0, .ref h0]) ⟨hx, hb, hml, hown, hts⟩ (ul_next l g (x := x) (n := v) hv) (cwV 1 hts gu_RL_23 rfl rfl rfl ⟨rfl, us_hX9_next⟩ ⟨Nat.le_of_ble_eq_true rfl, Nat.le_of_ble_eq_true rfl⟩) (us_preV hZ hS hFc hPc hDc hK hN 0 (ci := 11) rfl rfl rfl) rfl rfl hl.1 rfl (lv_room (Nat.le_of_ble_eq_true rfl)) dL_acts_249 ⟨Nat.le_of_ble_eq_true rfl, Nat.le_of_ble_eq_true rfl⟩) hP hD hS hA hpm (fun r u H locs hpost hP hD hS => ?_)
    obtain ⟨x1, rfl⟩ := hpost
    have hP : va_P g.1 vwCl ([(b0, .inr (11, [.int x1]))] ++ Wo) _ := hP
    have hD : va_D A ([(b0, .inr (11, [.int x1]))] ++ Wo) := hD
    refine lv_iadd hx hb dL_acts_252 ?_
    refine va_mmin hx hb (hml.trans hl.1.symm) hown (hts _ us_m806) (hts _ us_m348) (hts _ us_m49) (hts _ us_m349) (Nat.le_of_ble_eq_true rfl) (Nat.le_of_ble_eq_true rfl) (Nat.le_of_ble_eq_true rfl) (Nat.le_of_ble_eq_true rfl) dL_acts_253 ?_
    exact j256 (if (a2 + r) < 23 then (a2 + r) else 23) x1 Wo H locs hR hP hD hS
  have j211 : ∀ (x : Int32) (Wo : va_W) (H : Heap) (locs : List Loc), uo_W g h0 k f hist sv lr ld L Wo → va_P g.1 vwCl ([(b0, .inr (11, [.int x]))] ++ Wo) H → va_D A ([(b0, .inr (11, [.int x]))] ++ Wo) → va_S A s.heap H locs → W p l e ({ frames := 6, cells := 18, slots := 253, locals := 133 } : Room) s m args below meth c H locs 0 0 Q (F0 m 211 ls []) := by
    intro x Wo H locs hR hP hD hS
    refine lv_aload_n hx hb dL_acts_211 rfl (lv_at hl 1 rfl) ?_
    refine lv_iload_n hx hb dL_acts_212 rfl (lv_at hl 0 rfl) ?_
    refine lv_aload_n hx hb dL_acts_213 rfl (lv_at hl 3 rfl) ?_
    refine lv_bipush (v := 20) hx hb dL_acts_214 (by decide) ?_
    have hpm : ([(b0, .inr (11, [.int x]))] ++ Wo : va_W).Perm ([(b0, .inr (11, [.int x]))] ++ Wo) := List.Perm.refl _
    have hFc := ub_freeP hD hS hA hpm
    obtain ⟨hPc, hDc⟩ := ub_subP hP hD hpm
    refine us_calli (va_runV (As := [.int 20]) (rest := [.int r0, .ref h0]) ⟨hx, hb, hml, hown, hts⟩ (ul_next l g (x := x) (n := 20) (by decide)) (cwV 1 hts gu_RL_23 rfl rfl rfl ⟨rfl, us_hX9_next⟩ ⟨Nat.le_of_ble_eq_true rfl, Nat.le_of_ble_eq_true rfl⟩) (us_preV hZ hS hFc hPc hDc hK hN 0 (ci := 11) rfl rfl rfl) rfl rfl hl.1 rfl (lv_room (Nat.le_of_ble_eq_true rfl)) dL_acts_216 ⟨Nat.le_of_ble_eq_true rfl, Nat.le_of_ble_eq_true rfl⟩) hP hD hS hA hpm (fun r u H locs hpost hP hD hS => ?_)
    obtain ⟨x1, rfl⟩ := hpost
    have hP : va_P g.1 vwCl ([(b0, .inr (11, [.int x1]))] ++ Wo) _ := hP
    have hD : va_D A ([(b0, .inr (11, [.int x1]))] ++ Wo) := hD
    by_cases hz0 : r = 0
    · refine lv_if_ne (tgt := 227) hx hb dL_acts_219 (by decide) (fun cc => absurd hz0 cc) (fun _ => ?_)
      refine lv_bipush (v := 24) hx hb dL_acts_222 (by decide) ?_
      refine lv_goto (tgt := 256) hx hb dL_acts_224 (by decide) ?_
      exact j256 24 x1 Wo H locs hR hP hD hS
    · refine lv_if_ne (tgt := 227) hx hb dL_acts_219 (by decide) (fun _ => ?_) (fun cc => absurd cc hz0)
      refine lv_bipush (v := 23) hx hb dL_acts_227 (by decide) ?_
      refine lv_aload_n hx hb dL_acts_229 rfl (lv_at hl 1 rfl) ?_
      refine lv_iconst (v := 2) hx hb dL_acts_230 (by decide) ?_
      have hpm : List.Perm (([(b0, .inr (11, [.int x1]))] ++ Wo) : va_W) (Wo ++ [(b0, .inr (11, [.int x1]))]) := List.perm_append_comm
      have hFc := ub_freeP hD hS hA hpm
      obtain ⟨hPc, hDc⟩ := ub_subP hP hD hpm
      refine us_calli (va_runV (As := [.int 2]) (rest := [.int 23, .int r0, .ref h0]) ⟨hx, hb, hml, hown, hts⟩ (uo_account l g hR (x := 2)) (cwV 1 hts gu_RL_34 rfl rfl rfl ⟨rfl, uhX8_account⟩ ⟨Nat.le_of_ble_eq_true rfl, Nat.le_of_ble_eq_true rfl⟩) (us_preO hR hZ hS hFc hPc hDc hK hN) rfl rfl hl.1 rfl (lv_room (Nat.le_of_ble_eq_true rfl)) dL_acts_231 ⟨Nat.le_of_ble_eq_true rfl, Nat.le_of_ble_eq_true rfl⟩) hP hD hS hA hpm (fun r Wo2 H locs hpost hP hD hS => ?_)
      have hP : va_P g.1 vwCl ([(b0, .inr (11, [.int x1]))] ++ Wo2) H := ub_P_perm List.perm_append_comm hP
      have hD : va_D A ([(b0, .inr (11, [.int x1]))] ++ Wo2) := ub_D_perm List.perm_append_comm hD
      obtain ⟨rfl, hR⟩ := hpost
      refine lv_aload_n hx hb dL_acts_234 rfl (lv_at hl 3 rfl) ?_
      refine lv_aload_n hx hb dL_acts_235 rfl (lv_at hl 3 rfl) ?_
      refine lv_iconst (v := 3) hx hb dL_acts_236 (by decide) ?_
      have hpm : ([(b0, .inr (11, [.int x1]))] ++ Wo2 : va_W).Perm ([(b0, .inr (11, [.int x1]))] ++ Wo2) := List.Perm.refl _
      have hFc := ub_freeP hD hS hA hpm
      obtain ⟨hPc, hDc⟩ := ub_subP hP hD hpm
      refine us_calli (va_runV (As := [.int 3]) (rest := [.ref b0, .int (ut_acc f hist.length 2), .int 23, .int r0, .ref h0]) ⟨hx, hb, hml, hown, hts⟩ (ul_next l g (x := x1) (n := 3) (by decide)) (cwV 1 hts gu_RL_23 rfl rfl rfl ⟨rfl, us_hX9_next⟩ ⟨Nat.le_of_ble_eq_true rfl, Nat.le_of_ble_eq_true rfl⟩) (us_preV hZ hS hFc hPc hDc hK hN 0 (ci := 11) rfl rfl rfl) rfl rfl hl.1 rfl (lv_room (Nat.le_of_ble_eq_true rfl)) dL_acts_237 ⟨Nat.le_of_ble_eq_true rfl, Nat.le_of_ble_eq_true rfl⟩) hP hD hS hA hpm (fun r u H locs hpost hP hD hS => ?_)
      obtain ⟨x3, rfl⟩ := hpost
      have hP : va_P g.1 vwCl ([(b0, .inr (11, [.int x3]))] ++ Wo2) _ := hP
      have hD : va_D A ([(b0, .inr (11, [.int x3]))] ++ Wo2) := hD
      by_cases hz0 : r = 0
      · refine lv_if_ne (tgt := 248) hx hb dL_acts_240 (by decide) (fun cc => absurd hz0 cc) (fun _ => ?_)
        refine lv_bipush (v := 9) hx hb dL_acts_243 (by decide) ?_
        refine lv_goto (tgt := 249) hx hb dL_acts_245 (by decide) ?_
        exact j249 9 (ut_acc f hist.length 2) x3 Wo2 H locs (by decide) hR hP hD hS
      · refine lv_if_ne (tgt := 248) hx hb dL_acts_240 (by decide) (fun _ => ?_) (fun cc => absurd cc hz0)
        refine lv_iconst (v := 3) hx hb dL_acts_248 (by decide) ?_
        exact j249 3 (ut_acc f hist.length 2) x3 Wo2 H locs (by decide) hR hP hD hS
  have j282 : ∀ (x : Int32) (Wo : va_W) (H : Heap) (locs : List Loc), uo_W g h0 k f hist sv lr ld L Wo → va_P g.1 vwCl ([(b0, .inr (11, [.int x]))] ++ Wo) H → va_D A ([(b0, .inr (11, [.int x]))] ++ Wo) → va_S A s.heap H locs → W p l e ({ frames := 6, cells := 18, slots := 253, locals := 133 } : Room) s m args below meth c H locs 0 0 Q (F0 m 282 ls []) := by
    intro x Wo H locs hR hP hD hS
    refine lv_aload_n hx hb dL_acts_282 rfl (lv_at hl 1 rfl) ?_
    refine lv_iload_n hx hb dL_acts_283 rfl (lv_at hl 0 rfl) ?_
    have hpm : List.Perm (([(b0, .inr (11, [.int x]))] ++ Wo) : va_W) (Wo ++ [(b0, .inr (11, [.int x]))]) := List.perm_append_comm
    have hFc := ub_freeP hD hS hA hpm
    obtain ⟨hPc, hDc⟩ := ub_subP hP hD hpm
    refine us_calli (va_runV (As := [.int r0]) (rest := []) ⟨hx, hb, hml, hown, hts⟩ (uo_cancel l g hR (x1 := r0) hk) (cwV 1 hts gu_RL_59 rfl rfl rfl ⟨rfl, uhX8_cancel⟩ ⟨Nat.le_of_ble_eq_true rfl, Nat.le_of_ble_eq_true rfl⟩) (us_preO hR hZ hS hFc hPc hDc hK hN) rfl rfl hl.1 rfl (lv_room (Nat.le_of_ble_eq_true rfl)) dL_acts_284 ⟨Nat.le_of_ble_eq_true rfl, Nat.le_of_ble_eq_true rfl⟩) hP hD hS hA hpm (fun r Wo1 H locs hpost hP hD hS => ?_)
    have hP : va_P g.1 vwCl ([(b0, .inr (11, [.int x]))] ++ Wo1) H := ub_P_perm List.perm_append_comm hP
    have hD : va_D A ([(b0, .inr (11, [.int x]))] ++ Wo1) := ub_D_perm List.perm_append_comm hD
    obtain ⟨f2, lr2, ld2, hU, hR2⟩ := hpost
    exact hret _ _ H locs _ ls ⟨x, Wo1, f2, _, lr2, ld2, rfl, hR2, ua_cancel (uo_W_len hR).2 hJ hU⟩ dL_acts_287 rfl hP hD hS
  have j288 : ∀ (x : Int32) (Wo : va_W) (H : Heap) (locs : List Loc), uo_W g h0 k f hist sv lr ld L Wo → va_P g.1 vwCl ([(b0, .inr (11, [.int x]))] ++ Wo) H → va_D A ([(b0, .inr (11, [.int x]))] ++ Wo) → va_S A s.heap H locs → W p l e ({ frames := 6, cells := 18, slots := 253, locals := 133 } : Room) s m args below meth c H locs 0 0 Q (F0 m 288 ls []) := by
    intro x Wo H locs hR hP hD hS
    refine lv_aload_n hx hb dL_acts_288 rfl (lv_at hl 1 rfl) ?_
    have hpm : List.Perm (([(b0, .inr (11, [.int x]))] ++ Wo) : va_W) (Wo ++ [(b0, .inr (11, [.int x]))]) := List.perm_append_comm
    have hFc := ub_freeP hD hS hA hpm
    obtain ⟨hPc, hDc⟩ := ub_subP hP hD hpm
    refine us_calli (va_runV (As := []) (rest := []) ⟨hx, hb, hml, hown, hts⟩ (uo_ring l g hR  hk) (cwV 0 hts gu_RL_62 rfl rfl rfl ⟨rfl, uhX8_ring⟩ ⟨Nat.le_of_ble_eq_true rfl, Nat.le_of_ble_eq_true rfl⟩) (us_preO hR hZ hS hFc hPc hDc hK hN) rfl rfl hl.1 rfl (lv_room (Nat.le_of_ble_eq_true rfl)) dL_acts_289 ⟨Nat.le_of_ble_eq_true rfl, Nat.le_of_ble_eq_true rfl⟩) hP hD hS hA hpm (fun r Wo1 H locs hpost hP hD hS => ?_)
    have hP : va_P g.1 vwCl ([(b0, .inr (11, [.int x]))] ++ Wo1) H := ub_P_perm List.perm_append_comm hP
    have hD : va_D A ([(b0, .inr (11, [.int x]))] ++ Wo1) := ub_D_perm List.perm_append_comm hD
    obtain ⟨f2, lr2, ld2, hU, hR2⟩ := hpost
    exact hret _ _ H locs _ ls ⟨x, Wo1, f2, _, lr2, ld2, rfl, hR2, ua_ring (uo_W_len hR).2 hJ hU⟩ dL_acts_292 rfl hP hD hS
  have j293 : ∀ (x : Int32) (Wo : va_W) (H : Heap) (locs : List Loc), uo_W g h0 k f hist sv lr ld L Wo → va_P g.1 vwCl ([(b0, .inr (11, [.int x]))] ++ Wo) H → va_D A ([(b0, .inr (11, [.int x]))] ++ Wo) → va_S A s.heap H locs → W p l e ({ frames := 6, cells := 18, slots := 253, locals := 133 } : Room) s m args below meth c H locs 0 0 Q (F0 m 293 ls []) := by
    intro x Wo H locs hR hP hD hS
    refine lv_aload_n hx hb dL_acts_293 rfl (lv_at hl 1 rfl) ?_
    have hpm : List.Perm (([(b0, .inr (11, [.int x]))] ++ Wo) : va_W) (Wo ++ [(b0, .inr (11, [.int x]))]) := List.perm_append_comm
    have hFc := ub_freeP hD hS hA hpm
    obtain ⟨hPc, hDc⟩ := ub_subP hP hD hpm
    refine us_calli (va_runV (As := []) (rest := []) ⟨hx, hb, hml, hown, hts⟩ (uo_hour l g hR  hk) (cwV 0 hts gu_RL_65 rfl rfl rfl ⟨rfl, uhX8_hour⟩ ⟨Nat.le_of_ble_eq_true rfl, Nat.le_of_ble_eq_true rfl⟩) (us_preO hR hZ hS hFc hPc hDc hK hN) rfl rfl hl.1 rfl (lv_room (Nat.le_of_ble_eq_true rfl)) dL_acts_294 ⟨Nat.le_of_ble_eq_true rfl, Nat.le_of_ble_eq_true rfl⟩) hP hD hS hA hpm (fun r Wo1 H locs hpost hP hD hS => ?_)
    have hP : va_P g.1 vwCl ([(b0, .inr (11, [.int x]))] ++ Wo1) H := ub_P_perm List.perm_append_comm hP
    have hD : va_D A ([(b0, .inr (11, [.int x]))] ++ Wo1) := ub_D_perm List.perm_append_comm hD
    obtain ⟨f2, lr2, ld2, hU, hR2⟩ := hpost
    exact hret _ _ H locs _ ls ⟨x, Wo1, f2, _, lr2, ld2, rfl, hR2, ua_hour (uo_W_len hR).2 hJ hU⟩ dL_acts_297 rfl hP hD hS
  have j321 : ∀ (v x : Int32) (Wo : va_W) (H : Heap) (locs : List Loc), uo_W g h0 k f hist sv lr ld L Wo → va_P g.1 vwCl ([(b0, .inr (11, [.int x]))] ++ Wo) H → va_D A ([(b0, .inr (11, [.int x]))] ++ Wo) → va_S A s.heap H locs → W p l e ({ frames := 6, cells := 18, slots := 253, locals := 133 } : Room) s m args below meth c H locs 0 0 Q (F0 m 321 ls [.int v, .int r0, .ref h0]) := by
    intro v x Wo H locs hR hP hD hS
    have hpm : List.Perm (([(b0, .inr (11, [.int x]))] ++ Wo) : va_W) (Wo ++ [(b0, .inr (11, [.int x]))]) := List.perm_append_comm
    have hFc := ub_freeP hD hS hA hpm
    obtain ⟨hPc, hDc⟩ := ub_subP hP hD hpm
    refine us_calli (va_runV (As := [.int r0, .int v]) (rest := []) ⟨hx, hb, hml, hown, hts⟩ (uo_oil l g hR (x1 := r0) (x2 := v) hk) (cwV 2 hts gu_RL_68 rfl rfl rfl ⟨rfl, uhX8_oil⟩ ⟨Nat.le_of_ble_eq_true rfl, Nat.le_of_ble_eq_true rfl⟩) (us_preO hR hZ hS hFc hPc hDc hK hN) rfl rfl hl.1 rfl (lv_room (Nat.le_of_ble_eq_true rfl)) dL_acts_321 ⟨Nat.le_of_ble_eq_true rfl, Nat.le_of_ble_eq_true rfl⟩) hP hD hS hA hpm (fun r Wo1 H locs hpost hP hD hS => ?_)
    have hP : va_P g.1 vwCl ([(b0, .inr (11, [.int x]))] ++ Wo1) H := ub_P_perm List.perm_append_comm hP
    have hD : va_D A ([(b0, .inr (11, [.int x]))] ++ Wo1) := ub_D_perm List.perm_append_comm hD
    obtain ⟨f2, lr2, ld2, hU, hR2⟩ := hpost
    exact hret _ _ H locs _ ls ⟨x, Wo1, f2, _, lr2, ld2, rfl, hR2, ua_oil (uo_W_len hR).2 hJ hU⟩ dL_acts_324 rfl hP hD hS
  have j298 : ∀ (x : Int32) (Wo : va_W) (H : Heap) (locs : List Loc), uo_W g h0 k f hist sv lr ld L Wo → va_P g.1 vwCl ([(b0, .inr (11, [.int x]))] ++ Wo) H → va_D A ([(b0, .inr (11, [.int x]))] ++ Wo) → va_S A s.heap H locs → W p l e ({ frames := 6, cells := 18, slots := 253, locals := 133 } : Room) s m args below meth c H locs 0 0 Q (F0 m 298 ls []) := by
    intro x Wo H locs hR hP hD hS
    refine lv_aload_n hx hb dL_acts_298 rfl (lv_at hl 1 rfl) ?_
    refine lv_iload_n hx hb dL_acts_299 rfl (lv_at hl 0 rfl) ?_
    refine lv_aload_n hx hb dL_acts_300 rfl (lv_at hl 3 rfl) ?_
    refine lv_bipush (v := 20) hx hb dL_acts_301 (by decide) ?_
    have hpm : ([(b0, .inr (11, [.int x]))] ++ Wo : va_W).Perm ([(b0, .inr (11, [.int x]))] ++ Wo) := List.Perm.refl _
    have hFc := ub_freeP hD hS hA hpm
    obtain ⟨hPc, hDc⟩ := ub_subP hP hD hpm
    refine us_calli (va_runV (As := [.int 20]) (rest := [.int r0, .ref h0]) ⟨hx, hb, hml, hown, hts⟩ (ul_next l g (x := x) (n := 20) (by decide)) (cwV 1 hts gu_RL_23 rfl rfl rfl ⟨rfl, us_hX9_next⟩ ⟨Nat.le_of_ble_eq_true rfl, Nat.le_of_ble_eq_true rfl⟩) (us_preV hZ hS hFc hPc hDc hK hN 0 (ci := 11) rfl rfl rfl) rfl rfl hl.1 rfl (lv_room (Nat.le_of_ble_eq_true rfl)) dL_acts_303 ⟨Nat.le_of_ble_eq_true rfl, Nat.le_of_ble_eq_true rfl⟩) hP hD hS hA hpm (fun r u H locs hpost hP hD hS => ?_)
    obtain ⟨x1, rfl⟩ := hpost
    have hP : va_P g.1 vwCl ([(b0, .inr (11, [.int x1]))] ++ Wo) _ := hP
    have hD : va_D A ([(b0, .inr (11, [.int x1]))] ++ Wo) := hD
    by_cases hz0 : r = 0
    · refine lv_if_ne (tgt := 314) hx hb dL_acts_306 (by decide) (fun cc => absurd hz0 cc) (fun _ => ?_)
      refine lv_bipush (v := 10) hx hb dL_acts_309 (by decide) ?_
      refine lv_goto (tgt := 321) hx hb dL_acts_311 (by decide) ?_
      exact j321 10 x1 Wo H locs hR hP hD hS
    · refine lv_if_ne (tgt := 314) hx hb dL_acts_306 (by decide) (fun _ => ?_) (fun cc => absurd cc hz0)
      refine lv_iconst (v := 1) hx hb dL_acts_314 (by decide) ?_
      refine lv_aload_n hx hb dL_acts_315 rfl (lv_at hl 3 rfl) ?_
      refine lv_iconst (v := 3) hx hb dL_acts_316 (by decide) ?_
      have hpm : ([(b0, .inr (11, [.int x1]))] ++ Wo : va_W).Perm ([(b0, .inr (11, [.int x1]))] ++ Wo) := List.Perm.refl _
      have hFc := ub_freeP hD hS hA hpm
      obtain ⟨hPc, hDc⟩ := ub_subP hP hD hpm
      refine us_calli (va_runV (As := [.int 3]) (rest := [.int 1, .int r0, .ref h0]) ⟨hx, hb, hml, hown, hts⟩ (ul_next l g (x := x1) (n := 3) (by decide)) (cwV 1 hts gu_RL_23 rfl rfl rfl ⟨rfl, us_hX9_next⟩ ⟨Nat.le_of_ble_eq_true rfl, Nat.le_of_ble_eq_true rfl⟩) (us_preV hZ hS hFc hPc hDc hK hN 0 (ci := 11) rfl rfl rfl) rfl rfl hl.1 rfl (lv_room (Nat.le_of_ble_eq_true rfl)) dL_acts_317 ⟨Nat.le_of_ble_eq_true rfl, Nat.le_of_ble_eq_true rfl⟩) hP hD hS hA hpm (fun r u H locs hpost hP hD hS => ?_)
      obtain ⟨x2, rfl⟩ := hpost
      have hP : va_P g.1 vwCl ([(b0, .inr (11, [.int x2]))] ++ Wo) _ := hP
      have hD : va_D A ([(b0, .inr (11, [.int x2]))] ++ Wo) := hD
      refine lv_iadd hx hb dL_acts_320 ?_
      exact j321 (1 + r) x2 Wo H locs hR hP hD hS
  have j325 : ∀ (x : Int32) (Wo : va_W) (H : Heap) (locs : List Loc), uo_W g h0 k f hist sv lr ld L Wo → va_P g.1 vwCl ([(b0, .inr (11, [.int x]))] ++ Wo) H → va_D A ([(b0, .inr (11, [.int x]))] ++ Wo) → va_S A s.heap H locs → W p l e ({ frames := 6, cells := 18, slots := 253, locals := 133 } : Room) s m args below meth c H locs 0 0 Q (F0 m 325 ls []) := by
    intro x Wo H locs hR hP hD hS
    refine lv_aload_n hx hb dL_acts_325 rfl (lv_at hl 1 rfl) ?_
    have hpm : List.Perm (([(b0, .inr (11, [.int x]))] ++ Wo) : va_W) (Wo ++ [(b0, .inr (11, [.int x]))]) := List.perm_append_comm
    have hFc := ub_freeP hD hS hA hpm
    obtain ⟨hPc, hDc⟩ := ub_subP hP hD hpm
    refine us_calli (va_runV (As := []) (rest := []) ⟨hx, hb, hml, hown, hts⟩ (uo_end l g hR  hk) (cwV 0 hts gu_RL_71 rfl rfl rfl ⟨rfl, uhX8_end⟩ ⟨Nat.le_of_ble_eq_true rfl, Nat.le_of_ble_eq_true rfl⟩) (us_preO hR hZ hS hFc hPc hDc hK hN) rfl rfl hl.1 rfl (lv_room (Nat.le_of_ble_eq_true rfl)) dL_acts_326 ⟨Nat.le_of_ble_eq_true rfl, Nat.le_of_ble_eq_true rfl⟩) hP hD hS hA hpm (fun r Wo1 H locs hpost hP hD hS => ?_)
    have hP : va_P g.1 vwCl ([(b0, .inr (11, [.int x]))] ++ Wo1) H := ub_P_perm List.perm_append_comm hP
    have hD : va_D A ([(b0, .inr (11, [.int x]))] ++ Wo1) := ub_D_perm List.perm_append_comm hD
    obtain ⟨rfl, hR2⟩ := hpost
    exact hret _ _ H locs _ ls ⟨x, Wo1, (um_endF f), _, lr, ld, rfl, hR2, ua_end (uo_W_len hR).2 hJ⟩ dL_acts_329 rfl hP hD hS
  refine lv_iload_n hx hb dL_acts_10 rfl (lv_at hl 2 rfl) ?_
  refine lv_bipush (v := 28) hx hb dL_acts_11 (by decide) ?_
  refine lv_irem hx hb dL_acts_13 (by decide) ?_
  refine us_top_any (fun z => ?_)
  rcases ua_tab z with ⟨n, hn, rfl⟩ | hz
  · rcases (show n = 0 ∨ n = 1 ∨ n = 2 ∨ n = 3 ∨ n = 4 ∨ n = 5 ∨ n = 6 ∨ n = 7 ∨ n = 8 ∨ n = 9 ∨ n = 10 ∨ n = 11 ∨ n = 12 ∨ n = 13 ∨ n = 14 ∨ n = 15 ∨ n = 16 ∨ n = 17 ∨ n = 18 ∨ n = 19 ∨ n = 20 ∨ n = 21 ∨ n = 22 ∨ n = 23 ∨ n = 24 ∨ n = 25 by omega) with rfl | rfl | rfl | rfl | rfl | rfl | rfl | rfl | rfl | rfl | rfl | rfl | rfl | rfl | rfl | rfl | rfl | rfl | rfl | rfl | rfl | rfl | rfl | rfl | rfl | rfl
    · exact lv_tableIn (tgt := 132) (off := 118) hx hb dL_acts_14 (by decide) (by decide) (by decide) (by decide) (j132 x1 Wo1 H locs hR hP hD hS)
    · exact lv_tableIn (tgt := 132) (off := 118) hx hb dL_acts_14 (by decide) (by decide) (by decide) (by decide) (j132 x1 Wo1 H locs hR hP hD hS)
    · exact lv_tableIn (tgt := 155) (off := 141) hx hb dL_acts_14 (by decide) (by decide) (by decide) (by decide) (j155 x1 Wo1 H locs hR hP hD hS)
    · exact lv_tableIn (tgt := 179) (off := 165) hx hb dL_acts_14 (by decide) (by decide) (by decide) (by decide) (j179 x1 Wo1 H locs hR hP hD hS)
    · exact lv_tableIn (tgt := 179) (off := 165) hx hb dL_acts_14 (by decide) (by decide) (by decide) (by decide) (j179 x1 Wo1 H locs hR hP hD hS)
    · exact lv_tableIn (tgt := 211) (off := 197) hx hb dL_acts_14 (by decide) (by decide) (by decide) (by decide) (j211 x1 Wo1 H locs hR hP hD hS)
    · exact lv_tableIn (tgt := 211) (off := 197) hx hb dL_acts_14 (by decide) (by decide) (by decide) (by decide) (j211 x1 Wo1 H locs hR hP hD hS)
    · exact lv_tableIn (tgt := 211) (off := 197) hx hb dL_acts_14 (by decide) (by decide) (by decide) (by decide) (j211 x1 Wo1 H locs hR hP hD hS)
    · exact lv_tableIn (tgt := 211) (off := 197) hx hb dL_acts_14 (by decide) (by decide) (by decide) (by decide) (j211 x1 Wo1 H locs hR hP hD hS)
    · exact lv_tableIn (tgt := 211) (off := 197) hx hb dL_acts_14 (by decide) (by decide) (by decide) (by decide) (j211 x1 Wo1 H locs hR hP hD hS)
    · exact lv_tableIn (tgt := 211) (off := 197) hx hb dL_acts_14 (by decide) (by decide) (by decide) (by decide) (j211 x1 Wo1 H locs hR hP hD hS)
    · exact lv_tableIn (tgt := 211) (off := 197) hx hb dL_acts_14 (by decide) (by decide) (by decide) (by decide) (j211 x1 Wo1 H locs hR hP hD hS)
    · exact lv_tableIn (tgt := 211) (off := 197) hx hb dL_acts_14 (by decide) (by decide) (by decide) (by decide) (j211 x1 Wo1 H locs hR hP hD hS)
    · exact lv_tableIn (tgt := 211) (off := 197) hx hb dL_acts_14 (by decide) (by decide) (by decide) (by decide) (j211 x1 Wo1 H locs hR hP hD hS)
    · exact lv_tableIn (tgt := 282) (off := 268) hx hb dL_acts_14 (by decide) (by decide) (by decide) (by decide) (j282 x1 Wo1 H locs hR hP hD hS)
    · exact lv_tableIn (tgt := 288) (off := 274) hx hb dL_acts_14 (by decide) (by decide) (by decide) (by decide) (j288 x1 Wo1 H locs hR hP hD hS)
    · exact lv_tableIn (tgt := 288) (off := 274) hx hb dL_acts_14 (by decide) (by decide) (by decide) (by decide) (j288 x1 Wo1 H locs hR hP hD hS)
    · exact lv_tableIn (tgt := 288) (off := 274) hx hb dL_acts_14 (by decide) (by decide) (by decide) (by decide) (j288 x1 Wo1 H locs hR hP hD hS)
    · exact lv_tableIn (tgt := 288) (off := 274) hx hb dL_acts_14 (by decide) (by decide) (by decide) (by decide) (j288 x1 Wo1 H locs hR hP hD hS)
    · exact lv_tableIn (tgt := 293) (off := 279) hx hb dL_acts_14 (by decide) (by decide) (by decide) (by decide) (j293 x1 Wo1 H locs hR hP hD hS)
    · exact lv_tableIn (tgt := 293) (off := 279) hx hb dL_acts_14 (by decide) (by decide) (by decide) (by decide) (j293 x1 Wo1 H locs hR hP hD hS)
    · exact lv_tableIn (tgt := 293) (off := 279) hx hb dL_acts_14 (by decide) (by decide) (by decide) (by decide) (j293 x1 Wo1 H locs hR hP hD hS)
    · exact lv_tableIn (tgt := 293) (off := 279) hx hb dL_acts_14 (by decide) (by decide) (by decide) (by decide) (j293 x1 Wo1 H locs hR hP hD hS)
    · exact lv_tableIn (tgt := 298) (off := 284) hx hb dL_acts_14 (by decide) (by decide) (by decide) (by decide) (j298 x1 Wo1 H locs hR hP hD hS)
    · exact lv_tableIn (tgt := 298) (off := 284) hx hb dL_acts_14 (by decide) (by decide) (by decide) (by decide) (j298 x1 Wo1 H locs hR hP hD hS)
    · exact lv_tableIn (tgt := 298) (off := 284) hx hb dL_acts_14 (by decide) (by decide) (by decide) (by decide) (j298 x1 Wo1 H locs hR hP hD hS)
  · exact lv_tableOut (tgt := 325) hx hb dL_acts_14 hz (by decide) (j325 x1 Wo1 H locs hR hP hD hS)

