theorem us_fitcell {cA : ClassId} {n : Nat} {f : Nat → Int32} (hf : sb_Fit f) : ∀ (i : Nat) (v : Value), (vp_cell cA (n, .inl f)).slots[i]? = some v → fits .byte v = true := by
  intro i v h
  have h : (arrV cA n (fun j => .int (f j))).slots[i]? = some v := h
  by_cases hi : i < n
  · rw [arrV_read cA _ hi] at h
    cases h
    exact hf i
  · rw [Array.getElem?_eq_none (by rw [arrV_size]; omega)] at h
    cases h
theorem us_nmB {s : State} {g : us_G} (hK : va_K g.1 vwCl (us_ty g) s) : s.vm.findClass "[B" = some g.2.2.2.1 := by
  have h : s.vm.findClass ("[" ++ FieldType.byte.toString) = some g.2.2.2.1 := (hK.2 2 _ rfl).2
  rw [show ("[" ++ FieldType.byte.toString) = "[B" by decide] at h
  exact h
theorem us_hJ7_checkLength_df160 : yJ7_checkLength_df160.cls ≠ "java/lang/invoke/MethodHandle" ∧ yJ7_checkLength_df160.cls ≠ "java/lang/invoke/VarHandle" ∧ (parseMethodDescriptor yJ7_checkLength_df160.desc).map (fun d => d.parameters.length) = some 2 := by decide +kernel
set_option maxHeartbeats 4000000 in
set_option maxRecDepth 100000 in
theorem uj_checkLength (l : Launch) (g : us_G) {sz : Nat} {n : Nat} (hn : n < 2 ^ 31) : Met l yJ7_checkLength_df160 wsJ7_checkLength_df160 ({ frames := 0, cells := 0, slots := 0, locals := 0 } : Room) (va_Pc [.int 0, .int (nI n)] (us_pc g [] sz)) (va_Qv (fun (u : va_W) => u = ([] : va_W)) (fun u t => ub_pq g.1 u (va_A [] sz) t) (va_A [] sz)) 0 0 (va_A [] sz) := by
  refine us_met_v (post := (fun (u : va_W) => u = ([] : va_W))) (by decide +kernel) (Nat.le_of_ble_eq_true rfl) fun p e s m args below meth c Q A K hin hret ls hl hP hD hS => ?_
  obtain ⟨hx, hb, hml, hown, hts, hK, hN, hA, hZ⟩ := K
  have hl : lv_has ls 2 [(0, .int 0), (1, .int (nI n))] := hl
  refine lv_iload_n hx hb dJ7_checkLength_df160_0 rfl (lv_at hl 1 rfl) ?_
  refine lv_iload_n hx hb dJ7_checkLength_df160_1 rfl (lv_at hl 0 rfl) ?_
  refine lv_icmp_ge (tgt := 37) hx hb dJ7_checkLength_df160_2 (by decide) (fun _ => ?_) (fun cc => absurd (nI_pos' hn) cc)
  exact hret _ _ _ _ ls rfl dJ7_checkLength_df160_37 hP hD hS

theorem us_hJ7_copyOfRangeByte_39247 : yJ7_copyOfRangeByte_39247.cls ≠ "java/lang/invoke/MethodHandle" ∧ yJ7_copyOfRangeByte_39247.cls ≠ "java/lang/invoke/VarHandle" ∧ (parseMethodDescriptor yJ7_copyOfRangeByte_39247.desc).map (fun d => d.parameters.length) = some 3 := by decide +kernel
set_option maxHeartbeats 4000000 in
set_option maxRecDepth 100000 in
theorem uj_copyRB (l : Launch) (g : us_G) {sz : Nat} {v n cap : Nat} {a : Nat → Int32} (hnm : n < cap) (hm : cap ≤ 100000) (hf : sb_Fit a) : Met l yJ7_copyOfRangeByte_39247 wsJ7_copyOfRangeByte_39247 ({ frames := 1, cells := 1, slots := n, locals := 26 } : Room) (va_Pc [.ref v, .int 0, .int (nI n)] (us_pc g [(v, .inl (g.2.2.2.1, cap, .inl a))] sz)) (va_Qr (fun (_ : va_W) => True) (fun u r t => (fun (r : Nat) (u : va_W) => ∃ a2 : Nat → Int32, u = [(v, .inl (g.2.2.2.1, cap, .inl a)), (r, .inl (g.2.2.2.1, n, .inl a2))] ∧ (∀ j, j < n → a2 j = a j) ∧ sb_Fit a2) r u ∧ ub_pq g.1 u (va_A [(v, .inl (g.2.2.2.1, cap, .inl a))] sz) t) (va_A [(v, .inl (g.2.2.2.1, cap, .inl a))] sz)) 1 n (va_A [(v, .inl (g.2.2.2.1, cap, .inl a))] sz) := by
  refine us_met_r (post := (fun (r : Nat) (u : va_W) => ∃ a2 : Nat → Int32, u = [(v, .inl (g.2.2.2.1, cap, .inl a)), (r, .inl (g.2.2.2.1, n, .inl a2))] ∧ (∀ j, j < n → a2 j = a j) ∧ sb_Fit a2)) (Or.inr ⟨_, rfl⟩) (by decide +kernel) (Nat.le_of_ble_eq_true rfl) fun p e s m args below meth c Q A K hret ls hl hP hD hS => ?_
  obtain ⟨hx, hb, hml, hown, hts, hK, hN, hA, hZ⟩ := K
  have hl : lv_has ls 5 [(0, .ref v), (1, .int 0), (2, .int (nI n))] := hl
  refine lv_iload_n hx hb dJ7_copyOfRangeByte_39247_0 rfl (lv_at hl 1 rfl) ?_
  refine lv_iload_n hx hb dJ7_copyOfRangeByte_39247_1 rfl (lv_at hl 2 rfl) ?_
  have hpm : ([(v, .inl (g.2.2.2.1, cap, .inl a))] : va_W).Perm ([] ++ [(v, .inl (g.2.2.2.1, cap, .inl a))]) := ub_permN 1 rfl [0] (by decide) rfl
  have hPc : va_P g.1 vwCl [] _ := ub_pickP hP [] rfl
  have hDc : va_D A [] := hD.sub [] (by decide) rfl
  have hFc := ub_freeP hD hS hA hpm
  refine us_callv (va_runS (As := [.int 0, .int (nI n)]) (rest := []) ⟨hx, hb, hml, hown, hts⟩ (uj_checkLength l g (by omega)) (va_cwS 2 hts gu_RJ7_343 rfl rfl rfl us_hJ7_checkLength_df160 ⟨Nat.le_of_ble_eq_true rfl, Nat.le_of_ble_eq_true rfl⟩) (us_preS hZ hS hFc hPc hDc hK hN) rfl rfl hl.1 rfl (lv_room (Nat.le_of_ble_eq_true rfl)) dJ7_copyOfRangeByte_39247_2 ⟨by show 0 + 0 ≤ 1; omega, by show 0 + 0 ≤ n; omega⟩) hP hD hS hA hpm (fun u H locs hpost hP hD hS => ?_)
  obtain rfl := hpost
  have hP : va_P g.1 vwCl [(v, .inl (g.2.2.2.1, cap, .inl a))] _ := hP
  have hD : va_D A [(v, .inl (g.2.2.2.1, cap, .inl a))] := hD
  refine lv_iload_n hx hb dJ7_copyOfRangeByte_39247_5 rfl (lv_at hl 2 rfl) ?_
  refine lv_iload_n hx hb dJ7_copyOfRangeByte_39247_6 rfl (lv_at hl 1 rfl) ?_
  refine lv_isub hx hb dJ7_copyOfRangeByte_39247_7 ?_
  refine us_topi (x := nI n) (show nI n - 0 = nI n from pk_sub (a := n) (b := 0) (by omega)) ?_
  refine lv_istore_n (lv' := [(3, .int (nI n)), (0, .ref v), (1, .int 0), (2, .int (nI n))]) hx hb dJ7_copyOfRangeByte_39247_8 rfl hl (by decide) rfl (fun ls hl => ?_)
  refine lv_iload_n hx hb dJ7_copyOfRangeByte_39247_9 rfl (lv_at hl 0 rfl) ?_
  refine us_newb (g := g) (N := n) hx hb (hts _ us_m690) hK hP hD hS hA (nI_pos (by omega)) (nI_clamp (by omega)) (by omega) (by show 0 + 1 ≤ 1; omega) (by show 0 + n ≤ n; omega) dJ7_copyOfRangeByte_39247_10 (fun w H hP hD hS => ?_)
  have hP : va_P g.1 vwCl [(v, .inl (g.2.2.2.1, cap, .inl a)), (w, .inl (g.2.2.2.1, n, .inl (fun _ => 0)))] _ := hP
  have hD : va_D A [(v, .inl (g.2.2.2.1, cap, .inl a)), (w, .inl (g.2.2.2.1, n, .inl (fun _ => 0)))] := hD
  refine lv_astore (lv' := [(4, .ref w), (3, .int (nI n)), (0, .ref v), (1, .int 0), (2, .int (nI n))]) hx hb dJ7_copyOfRangeByte_39247_12 hl (by decide) rfl (fun ls hl => ?_)
  refine lv_aload_n hx hb dJ7_copyOfRangeByte_39247_14 rfl (lv_at hl 2 rfl) ?_
  refine lv_iload_n hx hb dJ7_copyOfRangeByte_39247_15 rfl (lv_at hl 3 rfl) ?_
  refine lv_aload hx hb dJ7_copyOfRangeByte_39247_16 (lv_at hl 0 rfl) ?_
  refine lv_iconst (v := 0) hx hb dJ7_copyOfRangeByte_39247_18 (by decide) ?_
  refine lv_aload_n hx hb dJ7_copyOfRangeByte_39247_19 rfl (lv_at hl 2 rfl) ?_
  refine va_alen (v := Int32.ofNat cap) hx hb hK hP 0 2 rfl rfl rfl dJ7_copyOfRangeByte_39247_20 ?_
  refine us_topi (x := nI cap) rfl ?_
  refine lv_iload_n hx hb dJ7_copyOfRangeByte_39247_21 rfl (lv_at hl 3 rfl) ?_
  refine lv_isub hx hb dJ7_copyOfRangeByte_39247_22 ?_
  refine us_topi (x := nI cap) (show nI cap - 0 = nI cap from pk_sub (a := cap) (b := 0) (by omega)) ?_
  refine lv_iload_n hx hb dJ7_copyOfRangeByte_39247_23 rfl (lv_at hl 1 rfl) ?_
  refine va_mmin hx hb (hml.trans hl.1.symm) hown (hts _ us_m885) (hts _ us_m348) (hts _ us_m49) (hts _ us_m349) (Nat.le_of_ble_eq_true rfl) (Nat.le_of_ble_eq_true rfl) (by show 0 + 1 ≤ 1; omega) (by show 0 + n ≤ n; omega) dJ7_copyOfRangeByte_39247_24 ?_
  refine us_topi (x := nI n) (by
      show (if nI n < nI cap then nI n else nI cap) = nI n
      exact if_pos (nI_lt (by omega) (by omega))) ?_
  refine va_copyi hx hb (hml.trans hl.1.symm) hown (hts _ us_m886) (hts _ us_m352) (hts _ us_m351) (hts _ us_m50) hK hP hD hS 0 1 2 2 rfl rfl rfl rfl rfl (by decide) (by decide) (nI_pos (by omega)) (by rw [sb_cl0, nI_clamp (by omega)]; omega) (by rw [sb_cl0, nI_clamp (by omega)]; omega) (fun _ _ => hf _) (Nat.le_of_ble_eq_true rfl) (Nat.le_of_ble_eq_true rfl) dJ7_copyOfRangeByte_39247_27 (fun H locs hP hD hS => ?_)
  rw [sb_cl0, nI_clamp (show n < 2 ^ 31 by omega)] at hP hD
  have hP : va_P g.1 vwCl [(v, .inl (g.2.2.2.1, cap, .inl a)), (w, .inl (g.2.2.2.1, n, .inl (va_cpy a (fun _ => 0) 0 0 n)))] _ := hP
  have hD : va_D A [(v, .inl (g.2.2.2.1, cap, .inl a)), (w, .inl (g.2.2.2.1, n, .inl (va_cpy a (fun _ => 0) 0 0 n)))] := hD
  refine lv_aload hx hb dJ7_copyOfRangeByte_39247_30 (lv_at hl 0 rfl) ?_
  refine W.widen (k := 1) (n := n) (by omega) (by omega) ?_
  exact hret w _ H locs _ ls ⟨_, rfl, fun j hj => sb_cpy0 hj, sb_fitC hf sb_fit0⟩ dJ7_copyOfRangeByte_39247_32 (ub_pickP hP [0, 1] rfl) (hD.sub [0, 1] (by decide) rfl) hS

theorem us_hJ7_copyOfRange_39247 : yJ7_copyOfRange_39247.cls ≠ "java/lang/invoke/MethodHandle" ∧ yJ7_copyOfRange_39247.cls ≠ "java/lang/invoke/VarHandle" ∧ (parseMethodDescriptor yJ7_copyOfRange_39247.desc).map (fun d => d.parameters.length) = some 3 := by decide +kernel
set_option maxHeartbeats 4000000 in
set_option maxRecDepth 100000 in
theorem uj_copyR (l : Launch) (g : us_G) {sz : Nat} {v n cap : Nat} {a : Nat → Int32} (hnm : n ≤ cap) (hm : cap ≤ 100000) (hf : sb_Fit a) : Met l yJ7_copyOfRange_39247 wsJ7_copyOfRange_39247 ({ frames := 2, cells := 1, slots := n, locals := 50 } : Room) (va_Pc [.ref v, .int 0, .int (nI n)] (us_pc g [(v, .inl (g.2.2.2.1, cap, .inl a))] sz)) (va_Qr (fun (_ : va_W) => True) (fun u r t => (fun (r : Nat) (u : va_W) => ∃ a2 : Nat → Int32, u = [(v, .inl (g.2.2.2.1, cap, .inl a)), (r, .inl (g.2.2.2.1, n, .inl a2))] ∧ (∀ j, j < n → a2 j = a j) ∧ sb_Fit a2) r u ∧ ub_pq g.1 u (va_A [(v, .inl (g.2.2.2.1, cap, .inl a))] sz) t) (va_A [(v, .inl (g.2.2.2.1, cap, .inl a))] sz)) 1 n (va_A [(v, .inl (g.2.2.2.1, cap, .inl a))] sz) := by
  refine us_met_r (post := (fun (r : Nat) (u : va_W) => ∃ a2 : Nat → Int32, u = [(v, .inl (g.2.2.2.1, cap, .inl a)), (r, .inl (g.2.2.2.1, n, .inl a2))] ∧ (∀ j, j < n → a2 j = a j) ∧ sb_Fit a2)) (Or.inr ⟨_, rfl⟩) (by decide +kernel) (Nat.le_of_ble_eq_true rfl) fun p e s m args below meth c Q A K hret ls hl hP hD hS => ?_
  obtain ⟨hx, hb, hml, hown, hts, hK, hN, hA, hZ⟩ := K
  have hl : lv_has ls 3 [(0, .ref v), (1, .int 0), (2, .int (nI n))] := hl
  refine lv_iload_n hx hb dJ7_copyOfRange_39247_0 rfl (lv_at hl 1 rfl) ?_
  refine lv_if_ne (tgt := 10) hx hb dJ7_copyOfRange_39247_1 (by decide) (fun cc => absurd rfl cc) (fun _ => ?_)
  refine lv_iload_n hx hb dJ7_copyOfRange_39247_4 rfl (lv_at hl 2 rfl) ?_
  refine lv_aload_n hx hb dJ7_copyOfRange_39247_5 rfl (lv_at hl 0 rfl) ?_
  refine va_alen (v := Int32.ofNat cap) hx hb hK hP 0 2 rfl rfl rfl dJ7_copyOfRange_39247_6 ?_
  refine us_topi (x := nI cap) rfl ?_
  by_cases hnc : n = cap
  · subst hnc
    refine lv_icmp_eq (tgt := 17) hx hb dJ7_copyOfRange_39247_7 (by decide) (fun _ => ?_) (fun cc => absurd rfl cc)
    refine lv_aload_n hx hb dJ7_copyOfRange_39247_17 rfl (lv_at hl 0 rfl) ?_
    refine va_clone hx hb (hml.trans hl.1.symm) hown (hts _ us_m878) (hts _ us_m879) (hts _ us_m880) (hts _ us_m881) (hts _ us_m882) hZ.2.2.2.2.2.2.2.2.2 hK hP hD hS hA 0 2 rfl rfl (us_nmB hK) (us_fitcell hf) (Nat.le_of_ble_eq_true rfl) (Nat.le_of_ble_eq_true rfl) (by show 0 + 1 ≤ 1; omega) (by show 0 + n ≤ n; omega) dJ7_copyOfRange_39247_18 (fun w H _ hP hD hS => ?_)
    have hP : va_P g.1 vwCl [(v, .inl (g.2.2.2.1, n, .inl a)), (w, .inl (g.2.2.2.1, n, .inl a))] _ := hP
    have hD : va_D A [(v, .inl (g.2.2.2.1, n, .inl a)), (w, .inl (g.2.2.2.1, n, .inl a))] := hD
    refine va_castA hx hb hown (hts _ us_m884) hP 1 rfl (us_nmB hK) dJ7_copyOfRange_39247_21 ?_
    refine W.widen (k := 1) (n := n) (by omega) (by show 0 + n ≤ n; omega) ?_
    exact hret w _ H _ _ ls ⟨a, rfl, fun _ _ => rfl, hf⟩ dJ7_copyOfRange_39247_24 hP hD hS
  · refine lv_icmp_eq (tgt := 17) hx hb dJ7_copyOfRange_39247_7 (by decide) (fun cc => absurd cc (fun z => by have := (nI_eq (a := n) (b := cap) (by omega) (by omega)).mp z; omega)) (fun _ => ?_)
    refine lv_aload_n hx hb dJ7_copyOfRange_39247_10 rfl (lv_at hl 0 rfl) ?_
    refine lv_iload_n hx hb dJ7_copyOfRange_39247_11 rfl (lv_at hl 1 rfl) ?_
    refine lv_iload_n hx hb dJ7_copyOfRange_39247_12 rfl (lv_at hl 2 rfl) ?_
    have hpm : ([(v, .inl (g.2.2.2.1, cap, .inl a))] : va_W).Perm ([(v, .inl (g.2.2.2.1, cap, .inl a))] ++ []) := ub_permN 1 rfl [0] (by decide) rfl
    have hPc : va_P g.1 vwCl [(v, .inl (g.2.2.2.1, cap, .inl a))] _ := ub_pickP hP [0] rfl
    have hDc : va_D A [(v, .inl (g.2.2.2.1, cap, .inl a))] := hD.sub [0] (by decide) rfl
    have hFc := ub_freeP hD hS hA hpm
    refine us_callr (va_runS (As := [.ref v, .int 0, .int (nI n)]) (rest := []) ⟨hx, hb, hml, hown, hts⟩ (uj_copyRB l g (n := n) (cap := cap) (a := a) (by omega) hm hf) (va_cwS 3 hts gu_RJ7_339 rfl rfl rfl us_hJ7_copyOfRangeByte_39247 ⟨Nat.le_of_ble_eq_true rfl, Nat.le_of_ble_eq_true rfl⟩) (us_preS hZ hS hFc hPc hDc hK hN) rfl rfl hl.1 rfl (lv_room (Nat.le_of_ble_eq_true rfl)) dJ7_copyOfRange_39247_13 ⟨by show 0 + 1 ≤ 1; omega, by show 0 + n ≤ n; omega⟩) hP hD hS hA hpm (fun r u H locs hpost hP hD hS => ?_)
    obtain ⟨a2, rfl, h1, h2⟩ := hpost
    have hP : va_P g.1 vwCl [(v, .inl (g.2.2.2.1, cap, .inl a)), (r, .inl (g.2.2.2.1, n, .inl a2))] _ := hP
    have hD : va_D A [(v, .inl (g.2.2.2.1, cap, .inl a)), (r, .inl (g.2.2.2.1, n, .inl a2))] := hD
    refine W.widen (k := 1) (n := n) (by omega) (by show 0 + n ≤ n; omega) ?_
    exact hret r _ H locs _ ls ⟨a2, rfl, h1, h2⟩ dJ7_copyOfRange_39247_16 hP hD hS

theorem us_hJ5_getValue_6d5f1 : yJ5_getValue_6d5f1.cls ≠ "java/lang/invoke/MethodHandle" ∧ yJ5_getValue_6d5f1.cls ≠ "java/lang/invoke/VarHandle" ∧ (parseMethodDescriptor yJ5_getValue_6d5f1.desc).map (fun d => d.parameters.length) = some 0 := by decide +kernel
set_option maxHeartbeats 4000000 in
set_option maxRecDepth 100000 in
theorem uj_getValue (l : Launch) (g : us_G) {sz : Nat} {b v : Nat} {ml cn : Int32} : Met l yJ5_getValue_6d5f1 wsJ5_getValue_6d5f1 ({ frames := 0, cells := 0, slots := 0, locals := 0 } : Room) (va_Pc [.ref b] (us_pc g [(b, .inr (1, [.ref v, .int 0, .int ml, .int cn]))] sz)) (va_Qr (fun (_ : va_W) => True) (fun u r t => (fun (r : Nat) (u : va_W) => r = v ∧ u = [(b, .inr (1, [.ref v, .int 0, .int ml, .int cn]))]) r u ∧ ub_pq g.1 u (va_A [(b, .inr (1, [.ref v, .int 0, .int ml, .int cn]))] sz) t) (va_A [(b, .inr (1, [.ref v, .int 0, .int ml, .int cn]))] sz)) 0 0 (va_A [(b, .inr (1, [.ref v, .int 0, .int ml, .int cn]))] sz) := by
  refine us_met_r (post := (fun (r : Nat) (u : va_W) => r = v ∧ u = [(b, .inr (1, [.ref v, .int 0, .int ml, .int cn]))])) (Or.inr ⟨_, rfl⟩) (by decide +kernel) (Nat.le_of_ble_eq_true rfl) fun p e s m args below meth c Q A K hret ls hl hP hD hS => ?_
  obtain ⟨hx, hb, hml, hown, hts, hK, hN, hA, hZ⟩ := K
  have hl : lv_has ls 1 [(0, .ref b)] := hl
  refine lv_aload_n hx hb dJ5_getValue_6d5f1_0 rfl (lv_at hl 0 rfl) ?_
  refine va_get (ci := 1) (v := .ref v) (C := RJ4) (T := TJ4) (N := 4) hx hb hts us_inJ4 hown hK hP 0 rfl rfl 0 (by decide) (hts _ us_m835) (fun _ h9 => h9) rfl dJ5_getValue_6d5f1_1 ?_
  exact hret v _ _ _ _ ls ⟨rfl, rfl⟩ dJ5_getValue_6d5f1_4 hP hD hS

theorem us_hJ5_length_8abf5 : yJ5_length_8abf5.cls ≠ "java/lang/invoke/MethodHandle" ∧ yJ5_length_8abf5.cls ≠ "java/lang/invoke/VarHandle" ∧ (parseMethodDescriptor yJ5_length_8abf5.desc).map (fun d => d.parameters.length) = some 0 := by decide +kernel
set_option maxHeartbeats 4000000 in
set_option maxRecDepth 100000 in
theorem uj_lengthB5 (l : Launch) (g : us_G) {sz : Nat} {b v : Nat} {ml cn : Int32} : Met l yJ5_length_8abf5 wsJ5_length_8abf5 ({ frames := 0, cells := 0, slots := 0, locals := 0 } : Room) (va_Pc [.ref b] (us_pc g [(b, .inr (1, [.ref v, .int 0, .int ml, .int cn]))] sz)) (va_Qi (fun (r : Int32) (u : va_W) => r = cn ∧ u = [(b, .inr (1, [.ref v, .int 0, .int ml, .int cn]))]) (fun u t => ub_pq g.1 u (va_A [(b, .inr (1, [.ref v, .int 0, .int ml, .int cn]))] sz) t) (va_A [(b, .inr (1, [.ref v, .int 0, .int ml, .int cn]))] sz)) 0 0 (va_A [(b, .inr (1, [.ref v, .int 0, .int ml, .int cn]))] sz) := by
  refine us_met_i (post := (fun (r : Int32) (u : va_W) => r = cn ∧ u = [(b, .inr (1, [.ref v, .int 0, .int ml, .int cn]))])) (by decide +kernel) (Nat.le_of_ble_eq_true rfl) fun p e s m args below meth c Q A K hret ls hl hP hD hS => ?_
  obtain ⟨hx, hb, hml, hown, hts, hK, hN, hA, hZ⟩ := K
  have hl : lv_has ls 1 [(0, .ref b)] := hl
  refine lv_aload_n hx hb dJ5_length_8abf5_0 rfl (lv_at hl 0 rfl) ?_
  refine va_get (ci := 1) (v := .int cn) (C := RJ4) (T := TJ4) (N := 4) hx hb hts us_inJ4 hown hK hP 0 rfl rfl 3 (by decide) (hts _ us_m838) (fun _ h9 => h9) rfl dJ5_length_8abf5_1 ?_
  exact hret _ _ _ _ _ ls ⟨rfl, rfl⟩ dJ5_length_8abf5_4 rfl hP hD hS

theorem us_hJ4_length_8abf5 : yJ4_length_8abf5.cls ≠ "java/lang/invoke/MethodHandle" ∧ yJ4_length_8abf5.cls ≠ "java/lang/invoke/VarHandle" ∧ (parseMethodDescriptor yJ4_length_8abf5.desc).map (fun d => d.parameters.length) = some 0 := by decide +kernel
set_option maxHeartbeats 4000000 in
set_option maxRecDepth 100000 in
theorem uj_lengthB (l : Launch) (g : us_G) {sz : Nat} {b v : Nat} {ml cn : Int32} : Met l yJ4_length_8abf5 wsJ4_length_8abf5 ({ frames := 1, cells := 0, slots := 0, locals := 20 } : Room) (va_Pc [.ref b] (us_pc g [(b, .inr (1, [.ref v, .int 0, .int ml, .int cn]))] sz)) (va_Qi (fun (r : Int32) (u : va_W) => r = cn ∧ u = [(b, .inr (1, [.ref v, .int 0, .int ml, .int cn]))]) (fun u t => ub_pq g.1 u (va_A [(b, .inr (1, [.ref v, .int 0, .int ml, .int cn]))] sz) t) (va_A [(b, .inr (1, [.ref v, .int 0, .int ml, .int cn]))] sz)) 0 0 (va_A [(b, .inr (1, [.ref v, .int 0, .int ml, .int cn]))] sz) := by
  refine us_met_i (post := (fun (r : Int32) (u : va_W) => r = cn ∧ u = [(b, .inr (1, [.ref v, .int 0, .int ml, .int cn]))])) (by decide +kernel) (Nat.le_of_ble_eq_true rfl) fun p e s m args below meth c Q A K hret ls hl hP hD hS => ?_
  obtain ⟨hx, hb, hml, hown, hts, hK, hN, hA, hZ⟩ := K
  have hl : lv_has ls 1 [(0, .ref b)] := hl
  refine lv_aload_n hx hb dJ4_length_8abf5_0 rfl (lv_at hl 0 rfl) ?_
  have hpm : ([(b, .inr (1, [.ref v, .int 0, .int ml, .int cn]))] : va_W).Perm ([(b, .inr (1, [.ref v, .int 0, .int ml, .int cn]))] ++ []) := ub_permN 1 rfl [0] (by decide) rfl
  have hPc : va_P g.1 vwCl [(b, .inr (1, [.ref v, .int 0, .int ml, .int cn]))] _ := ub_pickP hP [0] rfl
  have hDc : va_D A [(b, .inr (1, [.ref v, .int 0, .int ml, .int cn]))] := hD.sub [0] (by decide) rfl
  have hFc := ub_freeP hD hS hA hpm
  refine us_calli (va_runSU (As := []) (rest := []) (hK.1 1 _ rfl).2 ⟨hx, hb, hml, hown, hts⟩ (uj_lengthB5 l g) (va_cwSU 0 hts gu_RJ4_343 rfl rfl rfl ⟨by decide +kernel, us_hJ5_length_8abf5.2.2⟩ ⟨Nat.le_of_ble_eq_true rfl, Nat.le_of_ble_eq_true rfl⟩) (us_preV hZ hS hFc hPc hDc hK hN 0 (ci := 1) rfl rfl rfl) rfl rfl hl.1 rfl (lv_room (Nat.le_of_ble_eq_true rfl)) dJ4_length_8abf5_1 ⟨Nat.le_of_ble_eq_true rfl, Nat.le_of_ble_eq_true rfl⟩) hP hD hS hA hpm (fun r u H locs hpost hP hD hS => ?_)
  obtain ⟨hr, rfl⟩ := hpost
  have hP : va_P g.1 vwCl [(b, .inr (1, [.ref v, .int 0, .int ml, .int cn]))] _ := hP
  have hD : va_D A [(b, .inr (1, [.ref v, .int 0, .int ml, .int cn]))] := hD
  obtain rfl := hr.symm
  exact hret _ _ _ _ _ ls ⟨rfl, rfl⟩ dJ4_length_8abf5_4 rfl hP hD hS

theorem us_hJ0_init_db425 : yJ0_init_db425.cls ≠ "java/lang/invoke/MethodHandle" ∧ yJ0_init_db425.cls ≠ "java/lang/invoke/VarHandle" ∧ (parseMethodDescriptor yJ0_init_db425.desc).map (fun d => d.parameters.length) = some 2 := by decide +kernel
set_option maxHeartbeats 4000000 in
set_option maxRecDepth 100000 in
theorem uj_initS5 (l : Launch) (g : us_G) {sz : Nat} {b v r0 : Nat} {ml : Int32} {n cap : Nat} {a : Nat → Int32} (hnm : n ≤ cap) (hm : cap ≤ 100000) (hf : sb_Fit a) : Met l yJ0_init_db425 wsJ0_init_db425 ({ frames := 3, cells := 1, slots := n, locals := 72 } : Room) (va_Pc [.ref r0, .ref b, .null] (us_pc g [(b, .inr (1, [.ref v, .int 0, .int ml, .int (nI n)])), (v, .inl (g.2.2.2.1, cap, .inl a)), (r0, .inr (0, [.null, .int 0, .int 0, .int 0]))] sz)) (va_Qv (fun (u : va_W) => ∃ (v0 : Nat) (a2 : Nat → Int32), u = [(b, .inr (1, [.ref v, .int 0, .int ml, .int (nI n)])), (v, .inl (g.2.2.2.1, cap, .inl a)), (r0, .inr (0, [.ref v0, .int 0, .int 0, .int 0])), (v0, .inl (g.2.2.2.1, n, .inl a2))] ∧ (∀ j, j < n → a2 j = a j) ∧ sb_Fit a2) (fun u t => ub_pq g.1 u (va_A [(b, .inr (1, [.ref v, .int 0, .int ml, .int (nI n)])), (v, .inl (g.2.2.2.1, cap, .inl a)), (r0, .inr (0, [.null, .int 0, .int 0, .int 0]))] sz) t) (va_A [(b, .inr (1, [.ref v, .int 0, .int ml, .int (nI n)])), (v, .inl (g.2.2.2.1, cap, .inl a)), (r0, .inr (0, [.null, .int 0, .int 0, .int 0]))] sz)) 1 n (va_A [(b, .inr (1, [.ref v, .int 0, .int ml, .int (nI n)])), (v, .inl (g.2.2.2.1, cap, .inl a)), (r0, .inr (0, [.null, .int 0, .int 0, .int 0]))] sz) := by
  refine us_met_v (post := (fun (u : va_W) => ∃ (v0 : Nat) (a2 : Nat → Int32), u = [(b, .inr (1, [.ref v, .int 0, .int ml, .int (nI n)])), (v, .inl (g.2.2.2.1, cap, .inl a)), (r0, .inr (0, [.ref v0, .int 0, .int 0, .int 0])), (v0, .inl (g.2.2.2.1, n, .inl a2))] ∧ (∀ j, j < n → a2 j = a j) ∧ sb_Fit a2)) (by decide +kernel) (Nat.le_of_ble_eq_true rfl) fun p e s m args below meth c Q A K hin hret ls hl hP hD hS => ?_
  obtain ⟨hx, hb, hml, hown, hts, hK, hN, hA, hZ⟩ := K
  have hl : lv_has ls 5 [(0, .ref r0), (1, .ref b), (2, .null)] := hl
  refine lv_aload_n hx hb dJ0_init_db425_0 rfl (lv_at hl 0 rfl) ?_
  refine W.objInit hx hb hown (hts _ us_m989) (hts _ us_m67) (hts _ us_m68) rfl (by rw [hml]; exact hl.1) rfl dJ0_init_db425_1 (Nat.le_of_ble_eq_true rfl) (Nat.le_of_ble_eq_true rfl) ?_
  refine W.eq (g2 := F0 m 4 ls []) rfl ?_
  refine lv_aload_n hx hb dJ0_init_db425_4 rfl (lv_at hl 1 rfl) ?_
  have hpm : ([(b, .inr (1, [.ref v, .int 0, .int ml, .int (nI n)])), (v, .inl (g.2.2.2.1, cap, .inl a)), (r0, .inr (0, [.null, .int 0, .int 0, .int 0]))] : va_W).Perm ([(b, .inr (1, [.ref v, .int 0, .int ml, .int (nI n)]))] ++ [(v, .inl (g.2.2.2.1, cap, .inl a)), (r0, .inr (0, [.null, .int 0, .int 0, .int 0]))]) := ub_permN 3 rfl [0, 1, 2] (by decide) rfl
  have hPc : va_P g.1 vwCl [(b, .inr (1, [.ref v, .int 0, .int ml, .int (nI n)]))] _ := ub_pickP hP [0] rfl
  have hDc : va_D A [(b, .inr (1, [.ref v, .int 0, .int ml, .int (nI n)]))] := hD.sub [0] (by decide) rfl
  have hFc := ub_freeP hD hS hA hpm
  refine us_callr (va_runU (As := []) (rest := []) ⟨hx, hb, hml, hown, hts⟩ (uj_getValue l g) (va_cwU 0 hts gu_RJ0_552 rfl rfl rfl rfl us_hJ5_getValue_6d5f1 ⟨Nat.le_of_ble_eq_true rfl, Nat.le_of_ble_eq_true rfl⟩) (us_preV hZ hS hFc hPc hDc hK hN 0 (ci := 1) rfl rfl rfl) rfl rfl hl.1 rfl (lv_room (Nat.le_of_ble_eq_true rfl)) dJ0_init_db425_5 ⟨by show 0 + 0 ≤ 1; omega, by show 0 + 0 ≤ n; omega⟩) hP hD hS hA hpm (fun r u H locs hpost hP hD hS => ?_)
  obtain ⟨hr, rfl⟩ := hpost
  have hP : va_P g.1 vwCl [(b, .inr (1, [.ref v, .int 0, .int ml, .int (nI n)])), (v, .inl (g.2.2.2.1, cap, .inl a)), (r0, .inr (0, [.null, .int 0, .int 0, .int 0]))] _ := hP
  have hD : va_D A [(b, .inr (1, [.ref v, .int 0, .int ml, .int (nI n)])), (v, .inl (g.2.2.2.1, cap, .inl a)), (r0, .inr (0, [.null, .int 0, .int 0, .int 0]))] := hD
  obtain rfl := hr.symm
  refine lv_astore_n (lv' := [(3, .ref v), (0, .ref r0), (1, .ref b), (2, .null)]) hx hb dJ0_init_db425_8 rfl hl (by decide) rfl (fun ls hl => ?_)
  refine lv_aload_n hx hb dJ0_init_db425_9 rfl (lv_at hl 2 rfl) ?_
  have hpm : ([(b, .inr (1, [.ref v, .int 0, .int ml, .int (nI n)])), (v, .inl (g.2.2.2.1, cap, .inl a)), (r0, .inr (0, [.null, .int 0, .int 0, .int 0]))] : va_W).Perm ([(b, .inr (1, [.ref v, .int 0, .int ml, .int (nI n)]))] ++ [(v, .inl (g.2.2.2.1, cap, .inl a)), (r0, .inr (0, [.null, .int 0, .int 0, .int 0]))]) := ub_permN 3 rfl [0, 1, 2] (by decide) rfl
  have hPc : va_P g.1 vwCl [(b, .inr (1, [.ref v, .int 0, .int ml, .int (nI n)]))] _ := ub_pickP hP [0] rfl
  have hDc : va_D A [(b, .inr (1, [.ref v, .int 0, .int ml, .int (nI n)]))] := hD.sub [0] (by decide) rfl
  have hFc := ub_freeP hD hS hA hpm
  refine us_calli (va_runU (As := []) (rest := []) ⟨hx, hb, hml, hown, hts⟩ (uj_lengthB l g) (va_cwO 0 hts gu_RJ0_549 rfl rfl rfl us_m1002 us_hJ5_length_8abf5 ⟨Nat.le_of_ble_eq_true rfl, Nat.le_of_ble_eq_true rfl⟩) (us_preV hZ hS hFc hPc hDc hK hN 0 (ci := 1) rfl rfl rfl) rfl rfl hl.1 rfl (lv_room (Nat.le_of_ble_eq_true rfl)) dJ0_init_db425_10 ⟨by show 0 + 0 + 0 ≤ 1; omega, by show 0 + 0 + 0 ≤ n; omega⟩) hP hD hS hA hpm (fun r u H locs hpost hP hD hS => ?_)
  obtain ⟨rfl, rfl⟩ := hpost
  have hP : va_P g.1 vwCl [(b, .inr (1, [.ref v, .int 0, .int ml, .int (nI n)])), (v, .inl (g.2.2.2.1, cap, .inl a)), (r0, .inr (0, [.null, .int 0, .int 0, .int 0]))] _ := hP
  have hD : va_D A [(b, .inr (1, [.ref v, .int 0, .int ml, .int (nI n)])), (v, .inl (g.2.2.2.1, cap, .inl a)), (r0, .inr (0, [.null, .int 0, .int 0, .int 0]))] := hD
  refine lv_istore (lv' := [(4, .int (nI n)), (3, .ref v), (0, .ref r0), (1, .ref b), (2, .null)]) hx hb dJ0_init_db425_13 hl (by decide) rfl (fun ls hl => ?_)
  refine lv_aload_n hx hb dJ0_init_db425_15 rfl (lv_at hl 3 rfl) ?_
  have hpm : ([(b, .inr (1, [.ref v, .int 0, .int ml, .int (nI n)])), (v, .inl (g.2.2.2.1, cap, .inl a)), (r0, .inr (0, [.null, .int 0, .int 0, .int 0]))] : va_W).Perm ([(b, .inr (1, [.ref v, .int 0, .int ml, .int (nI n)]))] ++ [(v, .inl (g.2.2.2.1, cap, .inl a)), (r0, .inr (0, [.null, .int 0, .int 0, .int 0]))]) := ub_permN 3 rfl [0, 1, 2] (by decide) rfl
  have hPc : va_P g.1 vwCl [(b, .inr (1, [.ref v, .int 0, .int ml, .int (nI n)]))] _ := ub_pickP hP [0] rfl
  have hDc : va_D A [(b, .inr (1, [.ref v, .int 0, .int ml, .int (nI n)]))] := hD.sub [0] (by decide) rfl
  have hFc := ub_freeP hD hS hA hpm
  refine us_calli (va_runU (As := []) (rest := []) ⟨hx, hb, hml, hown, hts⟩ (uj_isLatin1 l g) (va_cwU 0 hts gu_RJ0_1047 rfl rfl rfl rfl us_hJ5_isLatin1_aae02 ⟨Nat.le_of_ble_eq_true rfl, Nat.le_of_ble_eq_true rfl⟩) (us_preV hZ hS hFc hPc hDc hK hN 0 (ci := 1) rfl rfl rfl) rfl rfl hl.1 rfl (lv_room (Nat.le_of_ble_eq_true rfl)) dJ0_init_db425_16 ⟨by show 0 + 0 + 0 + 0 ≤ 1; omega, by show 0 + 0 + 0 + 0 ≤ n; omega⟩) hP hD hS hA hpm (fun r u H locs hpost hP hD hS => ?_)
  obtain ⟨rfl, rfl⟩ := hpost
  have hP : va_P g.1 vwCl [(b, .inr (1, [.ref v, .int 0, .int ml, .int (nI n)])), (v, .inl (g.2.2.2.1, cap, .inl a)), (r0, .inr (0, [.null, .int 0, .int 0, .int 0]))] _ := hP
  have hD : va_D A [(b, .inr (1, [.ref v, .int 0, .int ml, .int (nI n)])), (v, .inl (g.2.2.2.1, cap, .inl a)), (r0, .inr (0, [.null, .int 0, .int 0, .int 0]))] := hD
  refine lv_if_eq (tgt := 41) hx hb dJ0_init_db425_19 (by decide) (fun cc => absurd cc (by decide)) (fun _ => ?_)
  refine lv_aload_n hx hb dJ0_init_db425_22 rfl (lv_at hl 2 rfl) ?_
  refine lv_iconst (v := 0) hx hb dJ0_init_db425_23 (by decide) ?_
  refine va_putF (ci := 0) (C := RJ0) (T := TJ0) (N := 4) (v := .int 0) (ty := tyJ0 1) hx hb hts us_inJ0 tyJ0 tyJ0_ok nmJ0 hown hK hP hD hS 2 rfl rfl 1 (by decide) (hts _ us_m1024) (fun _ h9 => h9) rfl hin rfl (tyJ0_ok 1 (by decide)) rfl rfl (Nat.le_of_ble_eq_true rfl) dJ0_init_db425_24 (fun H locs hP hD hS => ?_)
  have hP : va_P g.1 vwCl [(b, .inr (1, [.ref v, .int 0, .int ml, .int (nI n)])), (v, .inl (g.2.2.2.1, cap, .inl a)), (r0, .inr (0, [.null, .int 0, .int 0, .int 0]))] _ := hP
  have hD : va_D A [(b, .inr (1, [.ref v, .int 0, .int ml, .int (nI n)])), (v, .inl (g.2.2.2.1, cap, .inl a)), (r0, .inr (0, [.null, .int 0, .int 0, .int 0]))] := hD
  refine lv_aload_n hx hb dJ0_init_db425_27 rfl (lv_at hl 2 rfl) ?_
  refine lv_aload_n hx hb dJ0_init_db425_28 rfl (lv_at hl 1 rfl) ?_
  refine lv_iconst (v := 0) hx hb dJ0_init_db425_29 (by decide) ?_
  refine lv_iload hx hb dJ0_init_db425_30 (lv_at hl 0 rfl) ?_
  have hpm : ([(b, .inr (1, [.ref v, .int 0, .int ml, .int (nI n)])), (v, .inl (g.2.2.2.1, cap, .inl a)), (r0, .inr (0, [.null, .int 0, .int 0, .int 0]))] : va_W).Perm ([(v, .inl (g.2.2.2.1, cap, .inl a))] ++ [(b, .inr (1, [.ref v, .int 0, .int ml, .int (nI n)])), (r0, .inr (0, [.null, .int 0, .int 0, .int 0]))]) := ub_permN 3 rfl [1, 0, 2] (by decide) rfl
  have hPc : va_P g.1 vwCl [(v, .inl (g.2.2.2.1, cap, .inl a))] _ := ub_pickP hP [1] rfl
  have hDc : va_D A [(v, .inl (g.2.2.2.1, cap, .inl a))] := hD.sub [1] (by decide) rfl
  have hFc := ub_freeP hD hS hA hpm
  refine us_callr (va_runS (As := [.ref v, .int 0, .int (nI n)]) (rest := [.ref r0]) ⟨hx, hb, hml, hown, hts⟩ (uj_copyR l g (n := n) (cap := cap) (a := a) hnm hm hf) (va_cwS 3 hts gu_RJ0_54 rfl rfl rfl us_hJ7_copyOfRange_39247 ⟨Nat.le_of_ble_eq_true rfl, Nat.le_of_ble_eq_true rfl⟩) (us_preS hZ hS hFc hPc hDc hK hN) rfl rfl hl.1 rfl (lv_room (Nat.le_of_ble_eq_true rfl)) dJ0_init_db425_32 ⟨by show 0 + 0 + 0 + 0 + 1 ≤ 1; omega, by show 0 + 0 + 0 + 0 + n ≤ n; omega⟩) hP hD hS hA hpm (fun r u H locs hpost hP hD hS => ?_)
  obtain ⟨a2, rfl, h1, h2⟩ := hpost
  have hP : va_P g.1 vwCl [(v, .inl (g.2.2.2.1, cap, .inl a)), (r, .inl (g.2.2.2.1, n, .inl a2)), (b, .inr (1, [.ref v, .int 0, .int ml, .int (nI n)])), (r0, .inr (0, [.null, .int 0, .int 0, .int 0]))] _ := hP
  have hD : va_D A [(v, .inl (g.2.2.2.1, cap, .inl a)), (r, .inl (g.2.2.2.1, n, .inl a2)), (b, .inr (1, [.ref v, .int 0, .int ml, .int (nI n)])), (r0, .inr (0, [.null, .int 0, .int 0, .int 0]))] := hD
  refine va_putF (ci := 0) (C := RJ0) (T := TJ0) (N := 4) (v := .ref r) (ty := tyJ0 0) hx hb hts us_inJ0 tyJ0 tyJ0_ok nmJ0 hown hK hP hD hS 3 rfl rfl 0 (by decide) (hts _ us_m1023) (fun _ h9 => h9) rfl hin rfl (tyJ0_ok 0 (by decide)) rfl rfl (Nat.le_of_ble_eq_true rfl) dJ0_init_db425_35 (fun H locs hP hD hS => ?_)
  have hP : va_P g.1 vwCl [(v, .inl (g.2.2.2.1, cap, .inl a)), (r, .inl (g.2.2.2.1, n, .inl a2)), (b, .inr (1, [.ref v, .int 0, .int ml, .int (nI n)])), (r0, .inr (0, [.ref r, .int 0, .int 0, .int 0]))] _ := hP
  have hD : va_D A [(v, .inl (g.2.2.2.1, cap, .inl a)), (r, .inl (g.2.2.2.1, n, .inl a2)), (b, .inr (1, [.ref v, .int 0, .int ml, .int (nI n)])), (r0, .inr (0, [.ref r, .int 0, .int 0, .int 0]))] := hD
  refine lv_goto (tgt := 97) hx hb dJ0_init_db425_38 (by decide) ?_
  refine W.widen (k := 1) (n := n) (by omega) (by omega) ?_
  exact hret _ H locs _ ls ⟨r, a2, rfl, h1, h2⟩ dJ0_init_db425_97 (ub_pickP hP [2, 0, 3, 1] rfl) (hD.sub [2, 0, 3, 1] (by decide) rfl) hS

theorem us_hJ0_init_81219 : yJ0_init_81219.cls ≠ "java/lang/invoke/MethodHandle" ∧ yJ0_init_81219.cls ≠ "java/lang/invoke/VarHandle" ∧ (parseMethodDescriptor yJ0_init_81219.desc).map (fun d => d.parameters.length) = some 1 := by decide +kernel
set_option maxHeartbeats 4000000 in
set_option maxRecDepth 100000 in
theorem uj_initS (l : Launch) (g : us_G) {sz : Nat} {b v r0 : Nat} {ml : Int32} {n cap : Nat} {a : Nat → Int32} (hnm : n ≤ cap) (hm : cap ≤ 100000) (hf : sb_Fit a) : Met l yJ0_init_81219 wsJ0_init_81219 ({ frames := 4, cells := 1, slots := n, locals := 96 } : Room) (va_Pc [.ref r0, .ref b] (us_pc g [(b, .inr (1, [.ref v, .int 0, .int ml, .int (nI n)])), (v, .inl (g.2.2.2.1, cap, .inl a)), (r0, .inr (0, [.null, .int 0, .int 0, .int 0]))] sz)) (va_Qv (fun (u : va_W) => ∃ (v0 : Nat) (a2 : Nat → Int32), u = [(b, .inr (1, [.ref v, .int 0, .int ml, .int (nI n)])), (v, .inl (g.2.2.2.1, cap, .inl a)), (r0, .inr (0, [.ref v0, .int 0, .int 0, .int 0])), (v0, .inl (g.2.2.2.1, n, .inl a2))] ∧ (∀ j, j < n → a2 j = a j) ∧ sb_Fit a2) (fun u t => ub_pq g.1 u (va_A [(b, .inr (1, [.ref v, .int 0, .int ml, .int (nI n)])), (v, .inl (g.2.2.2.1, cap, .inl a)), (r0, .inr (0, [.null, .int 0, .int 0, .int 0]))] sz) t) (va_A [(b, .inr (1, [.ref v, .int 0, .int ml, .int (nI n)])), (v, .inl (g.2.2.2.1, cap, .inl a)), (r0, .inr (0, [.null, .int 0, .int 0, .int 0]))] sz)) 1 n (va_A [(b, .inr (1, [.ref v, .int 0, .int ml, .int (nI n)])), (v, .inl (g.2.2.2.1, cap, .inl a)), (r0, .inr (0, [.null, .int 0, .int 0, .int 0]))] sz) := by
  refine us_met_v (post := (fun (u : va_W) => ∃ (v0 : Nat) (a2 : Nat → Int32), u = [(b, .inr (1, [.ref v, .int 0, .int ml, .int (nI n)])), (v, .inl (g.2.2.2.1, cap, .inl a)), (r0, .inr (0, [.ref v0, .int 0, .int 0, .int 0])), (v0, .inl (g.2.2.2.1, n, .inl a2))] ∧ (∀ j, j < n → a2 j = a j) ∧ sb_Fit a2)) (by decide +kernel) (Nat.le_of_ble_eq_true rfl) fun p e s m args below meth c Q A K hin hret ls hl hP hD hS => ?_
  obtain ⟨hx, hb, hml, hown, hts, hK, hN, hA, hZ⟩ := K
  have hl : lv_has ls 2 [(0, .ref r0), (1, .ref b)] := hl
  refine lv_aload_n hx hb dJ0_init_81219_0 rfl (lv_at hl 0 rfl) ?_
  refine lv_aload_n hx hb dJ0_init_81219_1 rfl (lv_at hl 1 rfl) ?_
  refine lv_null hx hb dJ0_init_81219_2 ?_
  have hpm : ([(b, .inr (1, [.ref v, .int 0, .int ml, .int (nI n)])), (v, .inl (g.2.2.2.1, cap, .inl a)), (r0, .inr (0, [.null, .int 0, .int 0, .int 0]))] : va_W).Perm ([(b, .inr (1, [.ref v, .int 0, .int ml, .int (nI n)])), (v, .inl (g.2.2.2.1, cap, .inl a)), (r0, .inr (0, [.null, .int 0, .int 0, .int 0]))] ++ []) := ub_permN 3 rfl [0, 1, 2] (by decide) rfl
  have hPc : va_P g.1 vwCl [(b, .inr (1, [.ref v, .int 0, .int ml, .int (nI n)])), (v, .inl (g.2.2.2.1, cap, .inl a)), (r0, .inr (0, [.null, .int 0, .int 0, .int 0]))] _ := ub_pickP hP [0, 1, 2] rfl
  have hDc : va_D A [(b, .inr (1, [.ref v, .int 0, .int ml, .int (nI n)])), (v, .inl (g.2.2.2.1, cap, .inl a)), (r0, .inr (0, [.null, .int 0, .int 0, .int 0]))] := hD.sub [0, 1, 2] (by decide) rfl
  have hFc := ub_freeP hD hS hA hpm
  refine us_callv (va_runI (As := [.ref b, .null]) (rest := []) ⟨hx, hb, hml, hown, hts⟩ (uj_initS5 l g hnm hm hf) (cwI 2 hts gu_init_J0_init_db425 rfl rfl rfl (hts _ us_m51) (hts _ us_m986) (hts _ us_m987) rfl us_hJ0_init_db425 ⟨Nat.le_of_ble_eq_true rfl, Nat.le_of_ble_eq_true rfl⟩) (us_preS hZ hS hFc hPc hDc hK hN) rfl rfl hl.1 rfl (lv_room (Nat.le_of_ble_eq_true rfl)) dJ0_init_81219_3 ⟨by show 0 + 1 ≤ 1; omega, by show 0 + n ≤ n; omega⟩) hP hD hS hA hpm (fun u H locs hpost hP hD hS => ?_)
  have hP : va_P g.1 vwCl u H := by
      have h9 := hP
      rw [List.append_nil] at h9
      exact h9
  have hD : va_D A u := by
      have h9 := hD
      rw [List.append_nil] at h9
      exact h9
  refine W.widen (k := 1) (n := n) (by omega) (by omega) ?_
  exact hret u H locs _ ls hpost dJ0_init_81219_6 hP hD hS

theorem us_hJ4_toString_0e30d : yJ4_toString_0e30d.cls ≠ "java/lang/invoke/MethodHandle" ∧ yJ4_toString_0e30d.cls ≠ "java/lang/invoke/VarHandle" ∧ (parseMethodDescriptor yJ4_toString_0e30d.desc).map (fun d => d.parameters.length) = some 0 := by decide +kernel
set_option maxHeartbeats 4000000 in
set_option maxRecDepth 100000 in
theorem uj_toString (l : Launch) (g : us_G) {sz : Nat} {b v : Nat} {ml : Int32} {n cap : Nat} {a : Nat → Int32} (hnm : n ≤ cap) (hm : cap ≤ 100000) (hf : sb_Fit a) : Met l yJ4_toString_0e30d wsJ4_toString_0e30d ({ frames := 5, cells := 2, slots := (n + 4), locals := 117 } : Room) (va_Pc [.ref b] (us_pc g [(b, .inr (1, [.ref v, .int 0, .int ml, .int (nI n)])), (v, .inl (g.2.2.2.1, cap, .inl a))] sz)) (va_Qr (fun (_ : va_W) => True) (fun u r t => (fun (r0 : Nat) (u : va_W) => ∃ (v0 : Nat) (a2 : Nat → Int32), u = [(b, .inr (1, [.ref v, .int 0, .int ml, .int (nI n)])), (v, .inl (g.2.2.2.1, cap, .inl a)), (r0, .inr (0, [.ref v0, .int 0, .int 0, .int 0])), (v0, .inl (g.2.2.2.1, n, .inl a2))] ∧ (∀ j, j < n → a2 j = a j) ∧ sb_Fit a2) r u ∧ ub_pq g.1 u (va_A [(b, .inr (1, [.ref v, .int 0, .int ml, .int (nI n)])), (v, .inl (g.2.2.2.1, cap, .inl a))] sz) t) (va_A [(b, .inr (1, [.ref v, .int 0, .int ml, .int (nI n)])), (v, .inl (g.2.2.2.1, cap, .inl a))] sz)) 2 (n + 4) (va_A [(b, .inr (1, [.ref v, .int 0, .int ml, .int (nI n)])), (v, .inl (g.2.2.2.1, cap, .inl a))] sz) := by
  refine us_met_r (post := (fun (r0 : Nat) (u : va_W) => ∃ (v0 : Nat) (a2 : Nat → Int32), u = [(b, .inr (1, [.ref v, .int 0, .int ml, .int (nI n)])), (v, .inl (g.2.2.2.1, cap, .inl a)), (r0, .inr (0, [.ref v0, .int 0, .int 0, .int 0])), (v0, .inl (g.2.2.2.1, n, .inl a2))] ∧ (∀ j, j < n → a2 j = a j) ∧ sb_Fit a2)) (Or.inl ⟨_, rfl⟩) (by decide +kernel) (Nat.le_of_ble_eq_true rfl) fun p e s m args below meth c Q A K hret ls hl hP hD hS => ?_
  obtain ⟨hx, hb, hml, hown, hts, hK, hN, hA, hZ⟩ := K
  have hl : lv_has ls 1 [(0, .ref b)] := hl
  refine va_new (ci := 0) (fs := [.null, .int 0, .int 0, .int 0]) (C := RJ0) (T := TJ0) (N := 4) hx hb hts us_inJ0 tyJ0 tyJ0_ok hown (hts _ us_m981) (hts _ us_m982) (hts _ us_m51) hK hP hD hS hA rfl (fun j hj => by rcases (show j = 0 ∨ j = 1 ∨ j = 2 ∨ j = 3 by omega) with rfl | rfl | rfl | rfl <;> rfl) (by show 0 + 1 ≤ 2; omega) (by show 0 + 4 ≤ n + 4; omega) dJ4_toString_0e30d_0 (fun r0 H hP hD hS => ?_)
  have hP : va_P g.1 vwCl [(b, .inr (1, [.ref v, .int 0, .int ml, .int (nI n)])), (v, .inl (g.2.2.2.1, cap, .inl a)), (r0, .inr (0, [.null, .int 0, .int 0, .int 0]))] _ := hP
  have hD : va_D A [(b, .inr (1, [.ref v, .int 0, .int ml, .int (nI n)])), (v, .inl (g.2.2.2.1, cap, .inl a)), (r0, .inr (0, [.null, .int 0, .int 0, .int 0]))] := hD
  refine lv_dup hx hb dJ4_toString_0e30d_3 rfl ?_
  refine lv_aload_n hx hb dJ4_toString_0e30d_4 rfl (lv_at hl 0 rfl) ?_
  have hpm : ([(b, .inr (1, [.ref v, .int 0, .int ml, .int (nI n)])), (v, .inl (g.2.2.2.1, cap, .inl a)), (r0, .inr (0, [.null, .int 0, .int 0, .int 0]))] : va_W).Perm ([(b, .inr (1, [.ref v, .int 0, .int ml, .int (nI n)])), (v, .inl (g.2.2.2.1, cap, .inl a)), (r0, .inr (0, [.null, .int 0, .int 0, .int 0]))] ++ []) := ub_permN 3 rfl [0, 1, 2] (by decide) rfl
  have hPc : va_P g.1 vwCl [(b, .inr (1, [.ref v, .int 0, .int ml, .int (nI n)])), (v, .inl (g.2.2.2.1, cap, .inl a)), (r0, .inr (0, [.null, .int 0, .int 0, .int 0]))] _ := ub_pickP hP [0, 1, 2] rfl
  have hDc : va_D A [(b, .inr (1, [.ref v, .int 0, .int ml, .int (nI n)])), (v, .inl (g.2.2.2.1, cap, .inl a)), (r0, .inr (0, [.null, .int 0, .int 0, .int 0]))] := hD.sub [0, 1, 2] (by decide) rfl
  have hFc := ub_freeP hD hS hA hpm
  refine us_callv (va_runI (As := [.ref b]) (rest := [.ref r0]) ⟨hx, hb, hml, hown, hts⟩ (uj_initS l g (r0 := r0) hnm hm hf) (cwI 1 hts gu_init_J0_init_81219 rfl rfl rfl (hts _ us_m51) (hts _ us_m983) (hts _ us_m984) rfl us_hJ0_init_81219 ⟨Nat.le_of_ble_eq_true rfl, Nat.le_of_ble_eq_true rfl⟩) (us_preS hZ hS hFc hPc hDc hK hN) rfl rfl hl.1 rfl (lv_room (Nat.le_of_ble_eq_true rfl)) dJ4_toString_0e30d_5 ⟨by show 0 + 1 + 1 ≤ 2; omega, by show 0 + 4 + n ≤ n + 4; omega⟩) hP hD hS hA hpm (fun u H locs hpost hP hD hS => ?_)
  have hP : va_P g.1 vwCl u H := by
      have h9 := hP
      rw [List.append_nil] at h9
      exact h9
  have hD : va_D A u := by
      have h9 := hD
      rw [List.append_nil] at h9
      exact h9
  refine W.widen (k := 2) (n := n + 4) (by omega) (by omega) ?_
  exact hret r0 u H locs _ ls hpost dJ4_toString_0e30d_8 hP hD hS

theorem us_hJ5_init_d00df : yJ5_init_d00df.cls ≠ "java/lang/invoke/MethodHandle" ∧ yJ5_init_d00df.cls ≠ "java/lang/invoke/VarHandle" ∧ (parseMethodDescriptor yJ5_init_d00df.desc).map (fun d => d.parameters.length) = some 1 := by decide +kernel
set_option maxHeartbeats 4000000 in
set_option maxRecDepth 100000 in
theorem uj_initB5 (l : Launch) (g : us_G) {sz : Nat} {b : Nat} : Met l yJ5_init_d00df wsJ5_init_d00df ({ frames := 1, cells := 1, slots := 16, locals := 21 } : Room) (va_Pc [.ref b, .int 16] (us_pc g [(b, .inr (1, [.null, .int 0, .int 0, .int 0]))] sz)) (va_Qv (fun (u : va_W) => ∃ v : Nat, u = [(b, .inr (1, [.ref v, .int 0, .int 0, .int (nI 0)])), (v, .inl (g.2.2.2.1, 16, .inl (fun _ => 0)))]) (fun u t => ub_pq g.1 u (va_A [(b, .inr (1, [.null, .int 0, .int 0, .int 0]))] sz) t) (va_A [(b, .inr (1, [.null, .int 0, .int 0, .int 0]))] sz)) 1 16 (va_A [(b, .inr (1, [.null, .int 0, .int 0, .int 0]))] sz) := by
  refine us_met_v (post := (fun (u : va_W) => ∃ v : Nat, u = [(b, .inr (1, [.ref v, .int 0, .int 0, .int (nI 0)])), (v, .inl (g.2.2.2.1, 16, .inl (fun _ => 0)))])) (by decide +kernel) (Nat.le_of_ble_eq_true rfl) fun p e s m args below meth c Q A K hin hret ls hl hP hD hS => ?_
  obtain ⟨hx, hb, hml, hown, hts, hK, hN, hA, hZ⟩ := K
  have hl : lv_has ls 2 [(0, .ref b), (1, .int 16)] := hl
  refine lv_aload_n hx hb dJ5_init_d00df_0 rfl (lv_at hl 0 rfl) ?_
  refine W.objInit hx hb hown (hts _ us_m826) (hts _ us_m67) (hts _ us_m68) rfl (by rw [hml]; exact hl.1) rfl dJ5_init_d00df_1 (Nat.le_of_ble_eq_true rfl) (Nat.le_of_ble_eq_true rfl) ?_
  refine W.eq (g2 := F0 m 4 ls []) rfl ?_
  refine va_gets hx hb hZ.2.1 hS hown (hts _ us_m827) (fun _ h9 => h9) dJ5_init_d00df_4 ?_
  refine lv_if_eq (tgt := 25) hx hb dJ5_init_d00df_7 (by decide) (fun cc => absurd cc (by decide)) (fun _ => ?_)
  refine lv_aload_n hx hb dJ5_init_d00df_10 rfl (lv_at hl 0 rfl) ?_
  refine lv_iload_n hx hb dJ5_init_d00df_11 rfl (lv_at hl 1 rfl) ?_
  refine us_newb (g := g) (N := 16) hx hb (hts _ us_m690) hK hP hD hS hA (by decide) (by decide) (by decide) (by show 0 + 1 ≤ 1; omega) (by show 0 + 16 ≤ 16; omega) dJ5_init_d00df_12 (fun w H hP hD hS => ?_)
  have hP : va_P g.1 vwCl [(b, .inr (1, [.null, .int 0, .int 0, .int 0])), (w, .inl (g.2.2.2.1, 16, .inl (fun _ => 0)))] _ := hP
  have hD : va_D A [(b, .inr (1, [.null, .int 0, .int 0, .int 0])), (w, .inl (g.2.2.2.1, 16, .inl (fun _ => 0)))] := hD
  refine ub_put (ws' := [(b, .inr (1, [.ref w, .int 0, .int 0, .int 0])), (w, .inl (g.2.2.2.1, 16, .inl (fun _ => 0)))]) (ci := 1) (C := RJ4) (T := TJ4) (N := 4) hx hb hts us_inJ4 tyJ4 tyJ4_ok nmJ4 hown hK hP hD hS 0 0 (v := .ref w) (ty := tyJ4 0) rfl rfl (by decide) (hts _ us_m835) (fun _ h9 => h9) rfl (tyJ4_ok 0 (by decide)) rfl rfl (Nat.le_of_ble_eq_true rfl) rfl dJ5_init_d00df_14 (fun H locs hP hD hS => ?_)
  refine lv_aload_n hx hb dJ5_init_d00df_17 rfl (lv_at hl 0 rfl) ?_
  refine lv_iconst (v := 0) hx hb dJ5_init_d00df_18 (by decide) ?_
  refine ub_put (ws' := [(b, .inr (1, [.ref w, .int 0, .int 0, .int 0])), (w, .inl (g.2.2.2.1, 16, .inl (fun _ => 0)))]) (ci := 1) (C := RJ4) (T := TJ4) (N := 4) hx hb hts us_inJ4 tyJ4 tyJ4_ok nmJ4 hown hK hP hD hS 0 1 (v := .int 0) (ty := tyJ4 1) rfl rfl (by decide) (hts _ us_m836) (fun _ h9 => h9) rfl (tyJ4_ok 1 (by decide)) rfl rfl (Nat.le_of_ble_eq_true rfl) rfl dJ5_init_d00df_19 (fun H locs hP hD hS => ?_)
  refine lv_goto (tgt := 38) hx hb dJ5_init_d00df_22 (by decide) ?_
  refine W.widen (k := 1) (n := 16) (by omega) (by omega) ?_
  exact hret _ H _ _ ls ⟨w, rfl⟩ dJ5_init_d00df_38 hP hD hS

theorem us_hJ4_init_da8c8 : yJ4_init_da8c8.cls ≠ "java/lang/invoke/MethodHandle" ∧ yJ4_init_da8c8.cls ≠ "java/lang/invoke/VarHandle" ∧ (parseMethodDescriptor yJ4_init_da8c8.desc).map (fun d => d.parameters.length) = some 0 := by decide +kernel
set_option maxHeartbeats 4000000 in
set_option maxRecDepth 100000 in
theorem uj_initB (l : Launch) (g : us_G) {sz : Nat} {b : Nat} : Met l yJ4_init_da8c8 wsJ4_init_da8c8 ({ frames := 2, cells := 1, slots := 16, locals := 42 } : Room) (va_Pc [.ref b] (us_pc g [(b, .inr (1, [.null, .int 0, .int 0, .int 0]))] sz)) (va_Qv (fun (u : va_W) => ∃ v : Nat, u = [(b, .inr (1, [.ref v, .int 0, .int 0, .int (nI 0)])), (v, .inl (g.2.2.2.1, 16, .inl (fun _ => 0)))]) (fun u t => ub_pq g.1 u (va_A [(b, .inr (1, [.null, .int 0, .int 0, .int 0]))] sz) t) (va_A [(b, .inr (1, [.null, .int 0, .int 0, .int 0]))] sz)) 1 16 (va_A [(b, .inr (1, [.null, .int 0, .int 0, .int 0]))] sz) := by
  refine us_met_v (post := (fun (u : va_W) => ∃ v : Nat, u = [(b, .inr (1, [.ref v, .int 0, .int 0, .int (nI 0)])), (v, .inl (g.2.2.2.1, 16, .inl (fun _ => 0)))])) (by decide +kernel) (Nat.le_of_ble_eq_true rfl) fun p e s m args below meth c Q A K hin hret ls hl hP hD hS => ?_
  obtain ⟨hx, hb, hml, hown, hts, hK, hN, hA, hZ⟩ := K
  have hl : lv_has ls 1 [(0, .ref b)] := hl
  refine lv_aload_n hx hb dJ4_init_da8c8_0 rfl (lv_at hl 0 rfl) ?_
  refine lv_bipush (v := 16) hx hb dJ4_init_da8c8_1 (by decide) ?_
  have hpm : ([(b, .inr (1, [.null, .int 0, .int 0, .int 0]))] : va_W).Perm ([(b, .inr (1, [.null, .int 0, .int 0, .int 0]))] ++ []) := ub_permN 1 rfl [0] (by decide) rfl
  have hPc : va_P g.1 vwCl [(b, .inr (1, [.null, .int 0, .int 0, .int 0]))] _ := ub_pickP hP [0] rfl
  have hDc : va_D A [(b, .inr (1, [.null, .int 0, .int 0, .int 0]))] := hD.sub [0] (by decide) rfl
  have hFc := ub_freeP hD hS hA hpm
  refine us_callv (va_runI (As := [.int 16]) (rest := []) ⟨hx, hb, hml, hown, hts⟩ (uj_initB5 l g) (cwI 1 hts gu_init_J5_init_d00df rfl rfl rfl (hts _ us_m57) (hts _ us_m823) (hts _ us_m824) rfl us_hJ5_init_d00df ⟨Nat.le_of_ble_eq_true rfl, Nat.le_of_ble_eq_true rfl⟩) (us_preS hZ hS hFc hPc hDc hK hN) rfl rfl hl.1 rfl (lv_room (Nat.le_of_ble_eq_true rfl)) dJ4_init_da8c8_3 ⟨by show 0 + 1 ≤ 1; omega, by show 0 + 16 ≤ 16; omega⟩) hP hD hS hA hpm (fun u H locs hpost hP hD hS => ?_)
  have hP : va_P g.1 vwCl u H := by
      have h9 := hP
      rw [List.append_nil] at h9
      exact h9
  have hD : va_D A u := by
      have h9 := hD
      rw [List.append_nil] at h9
      exact h9
  refine W.widen (k := 1) (n := 16) (by omega) (by omega) ?_
  exact hret u H locs _ ls hpost dJ4_init_da8c8_6 hP hD hS

theorem us_hJ1_equals_b5fdf : yJ1_equals_b5fdf.cls ≠ "java/lang/invoke/MethodHandle" ∧ yJ1_equals_b5fdf.cls ≠ "java/lang/invoke/VarHandle" ∧ (parseMethodDescriptor yJ1_equals_b5fdf.desc).map (fun d => d.parameters.length) = some 2 := by decide +kernel
set_option maxHeartbeats 4000000 in
set_option maxRecDepth 100000 in
theorem uj_equals1 (l : Launch) (g : us_G) {sz : Nat} {v v2 n : Nat} {a a2 : Nat → Int32} (hn : n ≤ 100000) (he : ∀ j, j < n → a j = a2 j) : Met l yJ1_equals_b5fdf wsJ1_equals_b5fdf ({ frames := 0, cells := 0, slots := 0, locals := 0 } : Room) (va_Pc [.ref v, .ref v2] (us_pc g [(v, .inl (g.2.2.2.1, n, .inl a)), (v2, .inl (g.2.2.2.1, n, .inl a2))] sz)) (va_Qi (fun (r : Int32) (u : va_W) => r = 1 ∧ u = [(v, .inl (g.2.2.2.1, n, .inl a)), (v2, .inl (g.2.2.2.1, n, .inl a2))]) (fun u t => ub_pq g.1 u (va_A [(v, .inl (g.2.2.2.1, n, .inl a)), (v2, .inl (g.2.2.2.1, n, .inl a2))] sz) t) (va_A [(v, .inl (g.2.2.2.1, n, .inl a)), (v2, .inl (g.2.2.2.1, n, .inl a2))] sz)) 0 0 (va_A [(v, .inl (g.2.2.2.1, n, .inl a)), (v2, .inl (g.2.2.2.1, n, .inl a2))] sz) := by
  refine us_met_i (post := (fun (r : Int32) (u : va_W) => r = 1 ∧ u = [(v, .inl (g.2.2.2.1, n, .inl a)), (v2, .inl (g.2.2.2.1, n, .inl a2))])) (by decide +kernel) (Nat.le_of_ble_eq_true rfl) fun p e s m args below meth c Q A K hret ls hl hP hD hS => ?_
  obtain ⟨hx, hb, hml, hown, hts, hK, hN, hA, hZ⟩ := K
  have hl : lv_has ls 3 [(0, .ref v), (1, .ref v2)] := hl
  refine lv_aload_n hx hb dJ1_equals_b5fdf_0 rfl (lv_at hl 0 rfl) ?_
  refine va_alen (v := Int32.ofNat n) hx hb hK hP 0 2 rfl rfl rfl dJ1_equals_b5fdf_1 ?_
  refine us_topi (x := nI n) rfl ?_
  refine lv_aload_n hx hb dJ1_equals_b5fdf_2 rfl (lv_at hl 1 rfl) ?_
  refine va_alen (v := Int32.ofNat n) hx hb hK hP 1 2 rfl rfl rfl dJ1_equals_b5fdf_3 ?_
  refine us_topi (x := nI n) rfl ?_
  refine lv_icmp_ne (tgt := 34) hx hb dJ1_equals_b5fdf_4 (by decide) (fun cc => absurd rfl cc) (fun _ => ?_)
  refine lv_iconst (v := 0) hx hb dJ1_equals_b5fdf_7 (by decide) ?_
  refine lv_istore_n (lv' := [(2, .int 0), (0, .ref v), (1, .ref v2)]) hx hb dJ1_equals_b5fdf_8 rfl hl (by decide) rfl (fun ls hl => ?_)
  have loop : ∀ (k i : Nat) (ls : Array Slot), n = i + k → lv_has ls 3 [(2, .int (nI i)), (0, .ref v), (1, .ref v2)] → W p l e ({ frames := 0, cells := 0, slots := 0, locals := 0 } : Room) s m args below meth c s.heap [] 0 0 Q (F0 m 9 ls []) := by
    intro k
    induction k with
    | zero =>
      intro i ls hik hl
      refine lv_iload_n hx hb dJ1_equals_b5fdf_9 rfl (lv_at hl 0 rfl) ?_
      refine lv_aload_n hx hb dJ1_equals_b5fdf_10 rfl (lv_at hl 1 rfl) ?_
      refine va_alen (v := Int32.ofNat n) hx hb hK hP 0 2 rfl rfl rfl dJ1_equals_b5fdf_11 ?_
      refine us_topi (x := nI n) rfl ?_
      refine lv_icmp_ge (tgt := 32) hx hb dJ1_equals_b5fdf_12 (by decide) (fun _ => ?_) (fun cc => absurd (nI_le (by omega) (by omega)) cc)
      refine lv_iconst (v := 1) hx hb dJ1_equals_b5fdf_32 (by decide) ?_
      exact hret _ _ _ _ _ ls ⟨rfl, rfl⟩ dJ1_equals_b5fdf_33 rfl hP hD hS
    | succ k ih =>
      intro i ls hik hl
      refine lv_iload_n hx hb dJ1_equals_b5fdf_9 rfl (lv_at hl 0 rfl) ?_
      refine lv_aload_n hx hb dJ1_equals_b5fdf_10 rfl (lv_at hl 1 rfl) ?_
      refine va_alen (v := Int32.ofNat n) hx hb hK hP 0 2 rfl rfl rfl dJ1_equals_b5fdf_11 ?_
      refine us_topi (x := nI n) rfl ?_
      refine lv_icmp_ge (tgt := 32) hx hb dJ1_equals_b5fdf_12 (by decide) (fun cc => absurd cc (nI_ge (by omega) (by omega))) (fun _ => ?_)
      refine lv_aload_n hx hb dJ1_equals_b5fdf_15 rfl (lv_at hl 1 rfl) ?_
      refine lv_iload_n hx hb dJ1_equals_b5fdf_16 rfl (lv_at hl 0 rfl) ?_
      refine va_bald hx hb hK hP 0 2 rfl rfl (i := nI i) (vp_in_nI (by omega) (by omega)) dJ1_equals_b5fdf_17 ?_
      rw [nI_clamp (show i < 2 ^ 31 by omega)]
      refine lv_aload_n hx hb dJ1_equals_b5fdf_18 rfl (lv_at hl 2 rfl) ?_
      refine lv_iload_n hx hb dJ1_equals_b5fdf_19 rfl (lv_at hl 0 rfl) ?_
      refine va_bald hx hb hK hP 1 2 rfl rfl (i := nI i) (vp_in_nI (by omega) (by omega)) dJ1_equals_b5fdf_20 ?_
      rw [nI_clamp (show i < 2 ^ 31 by omega)]
      refine lv_icmp_eq (tgt := 26) hx hb dJ1_equals_b5fdf_21 (by decide) (fun _ => ?_) (fun cc => absurd (he i (by omega)) cc)
      refine lv_iinc (v := nI i + 1) (lv' := [(2, .int (nI i + 1)), (0, .ref v), (1, .ref v2)]) hx hb dJ1_equals_b5fdf_26 hl (k := 0) rfl rfl (by decide) rfl (fun ls hl => ?_)
      refine lv_goto (tgt := 9) hx hb dJ1_equals_b5fdf_29 (by decide) ?_
      refine ih (i + 1) ls (by omega) ?_
      rw [← nI_1]
      exact hl
  exact loop n 0 ls (by omega) (lv_sub hl [0, 1, 2] rfl)

theorem us_hJ0_equals_9ea2d : yJ0_equals_9ea2d.cls ≠ "java/lang/invoke/MethodHandle" ∧ yJ0_equals_9ea2d.cls ≠ "java/lang/invoke/VarHandle" ∧ (parseMethodDescriptor yJ0_equals_9ea2d.desc).map (fun d => d.parameters.length) = some 1 := by decide +kernel
set_option maxHeartbeats 4000000 in
set_option maxRecDepth 100000 in
theorem uj_equals (l : Launch) (g : us_G) {sz : Nat} {r0 r2 v v2 n : Nat} {hs hz hs2 hz2 : Int32} {a a2 : Nat → Int32} (hn : n ≤ 100000) (he : ∀ j, j < n → a j = a2 j) : Met l yJ0_equals_9ea2d wsJ0_equals_9ea2d ({ frames := 1, cells := 0, slots := 0, locals := 22 } : Room) (va_Pc [.ref r0, .ref r2] (us_pc g [(r0, .inr (0, [.ref v, .int 0, .int hs, .int hz])), (v, .inl (g.2.2.2.1, n, .inl a)), (r2, .inr (0, [.ref v2, .int 0, .int hs2, .int hz2])), (v2, .inl (g.2.2.2.1, n, .inl a2))] sz)) (va_Qi (fun (r : Int32) (u : va_W) => r = 1 ∧ u = [(r0, .inr (0, [.ref v, .int 0, .int hs, .int hz])), (v, .inl (g.2.2.2.1, n, .inl a)), (r2, .inr (0, [.ref v2, .int 0, .int hs2, .int hz2])), (v2, .inl (g.2.2.2.1, n, .inl a2))]) (fun u t => ub_pq g.1 u (va_A [(r0, .inr (0, [.ref v, .int 0, .int hs, .int hz])), (v, .inl (g.2.2.2.1, n, .inl a)), (r2, .inr (0, [.ref v2, .int 0, .int hs2, .int hz2])), (v2, .inl (g.2.2.2.1, n, .inl a2))] sz) t) (va_A [(r0, .inr (0, [.ref v, .int 0, .int hs, .int hz])), (v, .inl (g.2.2.2.1, n, .inl a)), (r2, .inr (0, [.ref v2, .int 0, .int hs2, .int hz2])), (v2, .inl (g.2.2.2.1, n, .inl a2))] sz)) 0 0 (va_A [(r0, .inr (0, [.ref v, .int 0, .int hs, .int hz])), (v, .inl (g.2.2.2.1, n, .inl a)), (r2, .inr (0, [.ref v2, .int 0, .int hs2, .int hz2])), (v2, .inl (g.2.2.2.1, n, .inl a2))] sz) := by
  refine us_met_i (post := (fun (r : Int32) (u : va_W) => r = 1 ∧ u = [(r0, .inr (0, [.ref v, .int 0, .int hs, .int hz])), (v, .inl (g.2.2.2.1, n, .inl a)), (r2, .inr (0, [.ref v2, .int 0, .int hs2, .int hz2])), (v2, .inl (g.2.2.2.1, n, .inl a2))])) (by decide +kernel) (Nat.le_of_ble_eq_true rfl) fun p e s m args below meth c Q A K hret ls hl hP hD hS => ?_
  obtain ⟨hx, hb, hml, hown, hts, hK, hN, hA, hZ⟩ := K
  have hl : lv_has ls 3 [(0, .ref r0), (1, .ref r2)] := hl
  refine lv_aload_n hx hb dJ0_equals_9ea2d_0 rfl (lv_at hl 0 rfl) ?_
  refine lv_aload_n hx hb dJ0_equals_9ea2d_1 rfl (lv_at hl 1 rfl) ?_
  refine lv_acmp_ne (rx := some r0) (ry := some r2) (tgt := 7) hx hb dJ0_equals_9ea2d_2 (by decide) (fun _ => ?_) (fun _ => ?_)
  rotate_left
  · refine lv_iconst (v := 1) hx hb dJ0_equals_9ea2d_5 (by decide) ?_
    exact hret _ _ _ _ _ ls ⟨rfl, rfl⟩ dJ0_equals_9ea2d_6 rfl hP hD hS
  refine lv_aload_n hx hb dJ0_equals_9ea2d_7 rfl (lv_at hl 1 rfl) ?_
  refine va_instS hx hb hown (hts _ us_m1123) (hK.1 0 _ rfl).2 (va_recv hK hP (ci := 0) (q0 := 2) rfl rfl) dJ0_equals_9ea2d_8 ?_
  refine lv_if_eq (tgt := 54) hx hb dJ0_equals_9ea2d_11 (by decide) (fun cc => absurd cc (by decide)) (fun _ => ?_)
  refine lv_aload_n hx hb dJ0_equals_9ea2d_14 rfl (lv_at hl 1 rfl) ?_
  refine va_castS hx hb hown (hts _ us_m1123) (hK.1 0 _ rfl).2 (va_recv hK hP (ci := 0) (q0 := 2) rfl rfl) dJ0_equals_9ea2d_15 ?_
  refine lv_astore_n (lv' := [(2, .ref r2), (0, .ref r0), (1, .ref r2)]) hx hb dJ0_equals_9ea2d_18 rfl hl (by decide) rfl (fun ls hl => ?_)
  refine va_gets hx hb hZ.2.1 hS hown (hts _ us_m590) (fun _ h9 => h9) dJ0_equals_9ea2d_19 ?_
  refine lv_if_eq (tgt := 36) hx hb dJ0_equals_9ea2d_22 (by decide) (fun cc => absurd cc (by decide)) (fun _ => ?_)
  refine lv_aload_n hx hb dJ0_equals_9ea2d_25 rfl (lv_at hl 1 rfl) ?_
  refine va_get (ci := 0) (v := .int 0) (C := RJ0) (T := TJ0) (N := 4) hx hb hts us_inJ0 hown hK hP 0 rfl rfl 1 (by decide) (hts _ us_m1024) (fun _ h9 => h9) rfl dJ0_equals_9ea2d_26 ?_
  refine lv_aload_n hx hb dJ0_equals_9ea2d_29 rfl (lv_at hl 0 rfl) ?_
  refine va_get (ci := 0) (v := .int 0) (C := RJ0) (T := TJ0) (N := 4) hx hb hts us_inJ0 hown hK hP 2 rfl rfl 1 (by decide) (hts _ us_m1024) (fun _ h9 => h9) rfl dJ0_equals_9ea2d_30 ?_
  refine lv_icmp_ne (tgt := 54) hx hb dJ0_equals_9ea2d_33 (by decide) (fun cc => absurd rfl cc) (fun _ => ?_)
  refine lv_aload_n hx hb dJ0_equals_9ea2d_36 rfl (lv_at hl 1 rfl) ?_
  refine va_get (ci := 0) (v := .ref v) (C := RJ0) (T := TJ0) (N := 4) hx hb hts us_inJ0 hown hK hP 0 rfl rfl 0 (by decide) (hts _ us_m1023) (fun _ h9 => h9) rfl dJ0_equals_9ea2d_37 ?_
  refine lv_aload_n hx hb dJ0_equals_9ea2d_40 rfl (lv_at hl 0 rfl) ?_
  refine va_get (ci := 0) (v := .ref v2) (C := RJ0) (T := TJ0) (N := 4) hx hb hts us_inJ0 hown hK hP 2 rfl rfl 0 (by decide) (hts _ us_m1023) (fun _ h9 => h9) rfl dJ0_equals_9ea2d_41 ?_
  have hpm : ([(r0, .inr (0, [.ref v, .int 0, .int hs, .int hz])), (v, .inl (g.2.2.2.1, n, .inl a)), (r2, .inr (0, [.ref v2, .int 0, .int hs2, .int hz2])), (v2, .inl (g.2.2.2.1, n, .inl a2))] : va_W).Perm ([(v, .inl (g.2.2.2.1, n, .inl a)), (v2, .inl (g.2.2.2.1, n, .inl a2))] ++ [(r0, .inr (0, [.ref v, .int 0, .int hs, .int hz])), (r2, .inr (0, [.ref v2, .int 0, .int hs2, .int hz2]))]) := ub_permN 4 rfl [1, 3, 0, 2] (by decide) rfl
  have hPc : va_P g.1 vwCl [(v, .inl (g.2.2.2.1, n, .inl a)), (v2, .inl (g.2.2.2.1, n, .inl a2))] _ := ub_pickP hP [1, 3] rfl
  have hDc : va_D A [(v, .inl (g.2.2.2.1, n, .inl a)), (v2, .inl (g.2.2.2.1, n, .inl a2))] := hD.sub [1, 3] (by decide) rfl
  have hFc := ub_freeP hD hS hA hpm
  refine us_calli (va_runS (As := [.ref v, .ref v2]) (rest := []) ⟨hx, hb, hml, hown, hts⟩ (uj_equals1 l g hn he) (va_cwS 2 hts gu_RJ0_541 rfl rfl rfl us_hJ1_equals_b5fdf ⟨Nat.le_of_ble_eq_true rfl, Nat.le_of_ble_eq_true rfl⟩) (us_preS hZ hS hFc hPc hDc hK hN) rfl rfl hl.1 rfl (lv_room (Nat.le_of_ble_eq_true rfl)) dJ0_equals_9ea2d_44 ⟨Nat.le_of_ble_eq_true rfl, Nat.le_of_ble_eq_true rfl⟩) hP hD hS hA hpm (fun r u H locs hpost hP hD hS => ?_)
  obtain ⟨rfl, rfl⟩ := hpost
  have hP : va_P g.1 vwCl [(v, .inl (g.2.2.2.1, n, .inl a)), (v2, .inl (g.2.2.2.1, n, .inl a2)), (r0, .inr (0, [.ref v, .int 0, .int hs, .int hz])), (r2, .inr (0, [.ref v2, .int 0, .int hs2, .int hz2]))] _ := hP
  have hD : va_D A [(v, .inl (g.2.2.2.1, n, .inl a)), (v2, .inl (g.2.2.2.1, n, .inl a2)), (r0, .inr (0, [.ref v, .int 0, .int hs, .int hz])), (r2, .inr (0, [.ref v2, .int 0, .int hs2, .int hz2]))] := hD
  refine lv_if_eq (tgt := 54) hx hb dJ0_equals_9ea2d_47 (by decide) (fun cc => absurd cc (by decide)) (fun _ => ?_)
  refine lv_iconst (v := 1) hx hb dJ0_equals_9ea2d_50 (by decide) ?_
  refine lv_goto (tgt := 55) hx hb dJ0_equals_9ea2d_51 (by decide) ?_
  exact hret _ _ H locs _ ls ⟨rfl, rfl⟩ dJ0_equals_9ea2d_55 rfl (ub_pickP hP [2, 0, 3, 1] rfl) (hD.sub [2, 0, 3, 1] (by decide) rfl) hS

