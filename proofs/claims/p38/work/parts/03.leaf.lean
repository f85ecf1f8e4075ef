-- X8_at
def udX8_at (cI : ClassId) (n_p0 : Nat) (h0 : Nat) (ym : Nat → Int32) : va_W := [(h0, .inl (cI, n_p0, .inl ym))]
def ufX8_at (n_p0 : Nat) (ym : Nat → Int32) (l1 : Int32) : Option (Int32) :=
  if l1 < 0 then
    some (0)
  else
    if (Int32.ofNat n_p0) ≤ l1 then
      some (0)
    else
      ub_gd l1 n_p0 <|
      some (ym (Int32.toNatClampNeg l1))
theorem uhX8_at : yX8_at.cls ≠ "java/lang/invoke/MethodHandle" ∧ yX8_at.cls ≠ "java/lang/invoke/VarHandle" ∧ (parseMethodDescriptor yX8_at.desc).map (fun d => d.parameters.length) = some 2 := by decide +kernel
set_option maxHeartbeats 4000000 in
set_option maxRecDepth 100000 in
theorem uwX8_at_E {p : Program} {l : Launch} {e : Env} {s : State} {m : MethodId} {args : Array Value} {below : List Frame} {meth : Method} {c : Code} {Q : State → Prop} {D : va_G} {cI cT : ClassId} {A : Nat → Prop} (K : ub_kx p s m args meth c cX8_at 2 RX8 wsX8_at D cI cT A) {n_p0 : Nat} {h0 : Nat} {ym : (Nat → Int32)} {l1 : Int32} {rr : Int32} (hret : ∀ (H : Heap) (locs : List Loc) (pc : Nat) (ls : Array Slot), decode cX8_at pc = .ok (.ireturn, 1) → narrow .int (.int rr) = .int rr → va_P D vwCl (udX8_at cI n_p0 h0 ym) H → va_D A (udX8_at cI n_p0 h0 ym) → va_S A s.heap H locs → W p l e ({ frames := 0, cells := 0, slots := 0, locals := 0 } : Room) s m args below meth c H locs 0 0 Q (F0 m pc ls [.int rr])) (h : ufX8_at n_p0 ym l1 = some rr) {H : Heap} {locs : List Loc} {ls : Array Slot} (hl : lv_has ls 2 [(0, .ref h0), (1, .int l1)]) (hP : va_P D vwCl (udX8_at cI n_p0 h0 ym) H) (hD : va_D A (udX8_at cI n_p0 h0 ym)) (hS : va_S A s.heap H locs) : W p l e ({ frames := 0, cells := 0, slots := 0, locals := 0 } : Room) s m args below meth c H locs 0 0 Q (F0 m 0 ls []) := by
  have K0 := K
  obtain ⟨hx, hb, hml, hown, hts, hK, hN, hA⟩ := K
  unfold ufX8_at at h
  refine lv_iload_n hx hb dX8_at_0 rfl (lv_at hl 1 rfl) ?_
  refine lv_if_lt (tgt := 16) hx hb dX8_at_1 (by decide) (fun c1 => ?_) (fun c1 => ?_)
  · have h := ub_if_t c1 h
    refine lv_iconst (v := 0) hx hb dX8_at_16 (by decide) ?_
    cases h
    exact hret H locs _ ls dX8_at_17 rfl hP hD hS
  · have h := ub_if_f c1 h
    refine lv_iload_n hx hb dX8_at_4 rfl (lv_at hl 1 rfl) ?_
    refine lv_aload_n hx hb dX8_at_5 rfl (lv_at hl 0 rfl) ?_
    refine va_alen (v := Int32.ofNat n_p0) hx hb hK hP 0 0 rfl rfl rfl dX8_at_6 ?_
    refine lv_icmp_ge (tgt := 16) hx hb dX8_at_7 (by decide) (fun c7 => ?_) (fun c7 => ?_)
    · have h := ub_if_t c7 h
      refine lv_iconst (v := 0) hx hb dX8_at_16 (by decide) ?_
      cases h
      exact hret H locs _ ls dX8_at_17 rfl hP hD hS
    · have h := ub_if_f c7 h
      refine lv_aload_n hx hb dX8_at_10 rfl (lv_at hl 0 rfl) ?_
      refine lv_iload_n hx hb dX8_at_11 rfl (lv_at hl 1 rfl) ?_
      obtain ⟨hg12, h⟩ := ub_gd_some h
      refine va_iald hx hb hK hP 0 0 rfl rfl hg12 dX8_at_12 ?_
      refine lv_goto (tgt := 17) hx hb dX8_at_13 (by decide) ?_
      cases h
      exact hret H locs _ ls dX8_at_17 rfl hP hD hS
set_option maxHeartbeats 4000000 in
set_option maxRecDepth 100000 in
theorem ucX8_at (l : Launch) (D : va_G) (cI cT : ClassId) {n_p0 : Nat} {h0 : Nat} {l1 : Int32} {rr : Int32} {ym : (Nat → Int32)} {sz : Nat} (h : ufX8_at n_p0 ym l1 = some rr) : Met l yX8_at wsX8_at ({ frames := 0, cells := 0, slots := 0, locals := 0 } : Room) (va_Pc [.ref h0, .int l1] (ub_pc D cI cT (udX8_at cI n_p0 h0 ym) sz)) (va_Qi (fun (r' : Int32) (_ : Unit) => r' = rr) (fun _ t => ub_pq D (udX8_at cI n_p0 h0 ym) (va_A (udX8_at cI n_p0 h0 ym) sz) t) (va_A (udX8_at cI n_p0 h0 ym) sz)) 0 0 (va_A (udX8_at cI n_p0 h0 ym) sz) :=
  ub_met_i (by decide +kernel) rfl (Nat.le_of_ble_eq_true rfl) fun _ _ _ _ _ _ _ _ _ _ K hret _ hl hP hD hS => uwX8_at_E K hret h hl hP hD hS
-- X8_put
def udX8_put (cI : ClassId) (n_p0 : Nat) (h0 : Nat) (ym : Nat → Int32) : va_W := [(h0, .inl (cI, n_p0, .inl ym))]
def ufX8_put (n_p0 : Nat) (ym : Nat → Int32) (l1 : Int32) (l2 : Int32) : Option ((Nat → Int32)) :=
  if l1 < 0 then
    some (ym)
  else
    if (Int32.ofNat n_p0) ≤ l1 then
      some (ym)
    else
      ub_gd l1 n_p0 <|
      ub_nm (upd ym (Int32.toNatClampNeg l1) l2) fun ym_1 =>
      some (ym_1)
theorem uhX8_put : yX8_put.cls ≠ "java/lang/invoke/MethodHandle" ∧ yX8_put.cls ≠ "java/lang/invoke/VarHandle" ∧ (parseMethodDescriptor yX8_put.desc).map (fun d => d.parameters.length) = some 3 := by decide +kernel
set_option maxHeartbeats 4000000 in
set_option maxRecDepth 100000 in
theorem uwX8_put_E {p : Program} {l : Launch} {e : Env} {s : State} {m : MethodId} {args : Array Value} {below : List Frame} {meth : Method} {c : Code} {Q : State → Prop} {D : va_G} {cI cT : ClassId} {A : Nat → Prop} (K : ub_kx p s m args meth c cX8_put 3 RX8 wsX8_put D cI cT A) {n_p0 : Nat} {h0 : Nat} {ym : (Nat → Int32)} {l1 : Int32} {l2 : Int32} {w_ym : (Nat → Int32)} (hret : ∀ (H : Heap) (locs : List Loc) (pc : Nat) (ls : Array Slot), decode cX8_put pc = .ok (.return_, 1) → va_P D vwCl (udX8_put cI n_p0 h0 w_ym) H → va_D A (udX8_put cI n_p0 h0 w_ym) → va_S A s.heap H locs → W p l e ({ frames := 0, cells := 0, slots := 0, locals := 0 } : Room) s m args below meth c H locs 0 0 Q (F0 m pc ls [])) (h : ufX8_put n_p0 ym l1 l2 = some w_ym) {H : Heap} {locs : List Loc} {ls : Array Slot} (hl : lv_has ls 3 [(0, .ref h0), (1, .int l1), (2, .int l2)]) (hP : va_P D vwCl (udX8_put cI n_p0 h0 ym) H) (hD : va_D A (udX8_put cI n_p0 h0 ym)) (hS : va_S A s.heap H locs) : W p l e ({ frames := 0, cells := 0, slots := 0, locals := 0 } : Room) s m args below meth c H locs 0 0 Q (F0 m 0 ls []) := by
  have K0 := K
  obtain ⟨hx, hb, hml, hown, hts, hK, hN, hA⟩ := K
  unfold ufX8_put at h
  refine lv_iload_n hx hb dX8_put_0 rfl (lv_at hl 1 rfl) ?_
  refine lv_if_lt (tgt := 14) hx hb dX8_put_1 (by decide) (fun c1 => ?_) (fun c1 => ?_)
  · have h := ub_if_t c1 h
    cases h
    exact hret H locs _ ls dX8_put_14 hP hD hS
  · have h := ub_if_f c1 h
    refine lv_iload_n hx hb dX8_put_4 rfl (lv_at hl 1 rfl) ?_
    refine lv_aload_n hx hb dX8_put_5 rfl (lv_at hl 0 rfl) ?_
    refine va_alen (v := Int32.ofNat n_p0) hx hb hK hP 0 0 rfl rfl rfl dX8_put_6 ?_
    refine lv_icmp_ge (tgt := 14) hx hb dX8_put_7 (by decide) (fun c7 => ?_) (fun c7 => ?_)
    · have h := ub_if_t c7 h
      cases h
      exact hret H locs _ ls dX8_put_14 hP hD hS
    · have h := ub_if_f c7 h
      refine lv_aload_n hx hb dX8_put_10 rfl (lv_at hl 0 rfl) ?_
      refine lv_iload_n hx hb dX8_put_11 rfl (lv_at hl 1 rfl) ?_
      refine lv_iload_n hx hb dX8_put_12 rfl (lv_at hl 2 rfl) ?_
      obtain ⟨hg13, h⟩ := ub_gd_some h
      obtain ⟨ym_1, eym_1, h⟩ := ub_nm_some h
      refine ub_iast (ws' := (udX8_put cI n_p0 h0 ym_1)) hx hb hK hP hD hS 0 0 rfl rfl hg13 eym_1 rfl dX8_put_13 (fun H locs hP hD hS => ?_)
      cases h
      exact hret H locs _ ls dX8_put_14 hP hD hS
set_option maxHeartbeats 4000000 in
set_option maxRecDepth 100000 in
theorem ucX8_put (l : Launch) (D : va_G) (cI cT : ClassId) {n_p0 : Nat} {h0 : Nat} {l1 : Int32} {l2 : Int32} {w_ym : (Nat → Int32)} {ym : (Nat → Int32)} {sz : Nat} (h : ufX8_put n_p0 ym l1 l2 = some w_ym) : Met l yX8_put wsX8_put ({ frames := 0, cells := 0, slots := 0, locals := 0 } : Room) (va_Pc [.ref h0, .int l1, .int l2] (ub_pc D cI cT (udX8_put cI n_p0 h0 ym) sz)) (va_Qv (fun (_ : Unit) => True) (fun _ t => ub_pq D (udX8_put cI n_p0 h0 w_ym) (va_A (udX8_put cI n_p0 h0 ym) sz) t) (va_A (udX8_put cI n_p0 h0 ym) sz)) 0 0 (va_A (udX8_put cI n_p0 h0 ym) sz) :=
  ub_met_v (by decide +kernel) rfl (Nat.le_of_ble_eq_true rfl) fun _ _ _ _ _ _ _ _ _ _ K hret _ hl hP hD hS => uwX8_put_E K hret h hl hP hD hS
-- X8_add
def udX8_add (cI : ClassId) (n_p0 : Nat) (h0 : Nat) (ym : Nat → Int32) : va_W := [(h0, .inl (cI, n_p0, .inl ym))]
def ufX8_add (n_p0 : Nat) (ym : Nat → Int32) (l1 : Int32) (l2 : Int32) : Option ((Nat → Int32)) :=
  ub_b1 (ufX8_at n_p0 ym l1) fun x_1 =>
  ub_b1 (ufX8_put n_p0 ym l1 (x_1 + l2)) fun ym_2 =>
  some (ym_2)
theorem uhX8_add : yX8_add.cls ≠ "java/lang/invoke/MethodHandle" ∧ yX8_add.cls ≠ "java/lang/invoke/VarHandle" ∧ (parseMethodDescriptor yX8_add.desc).map (fun d => d.parameters.length) = some 3 := by decide +kernel
set_option maxHeartbeats 4000000 in
set_option maxRecDepth 100000 in
theorem uwX8_add_E {p : Program} {l : Launch} {e : Env} {s : State} {m : MethodId} {args : Array Value} {below : List Frame} {meth : Method} {c : Code} {Q : State → Prop} {D : va_G} {cI cT : ClassId} {A : Nat → Prop} (K : ub_kx p s m args meth c cX8_add 3 RX8 wsX8_add D cI cT A) {n_p0 : Nat} {h0 : Nat} {ym : (Nat → Int32)} {l1 : Int32} {l2 : Int32} {w_ym : (Nat → Int32)} (hret : ∀ (H : Heap) (locs : List Loc) (pc : Nat) (ls : Array Slot), decode cX8_add pc = .ok (.return_, 1) → va_P D vwCl (udX8_add cI n_p0 h0 w_ym) H → va_D A (udX8_add cI n_p0 h0 w_ym) → va_S A s.heap H locs → W p l e ({ frames := 1, cells := 0, slots := 0, locals := 22 } : Room) s m args below meth c H locs 0 0 Q (F0 m pc ls [])) (h : ufX8_add n_p0 ym l1 l2 = some w_ym) {H : Heap} {locs : List Loc} {ls : Array Slot} (hl : lv_has ls 3 [(0, .ref h0), (1, .int l1), (2, .int l2)]) (hP : va_P D vwCl (udX8_add cI n_p0 h0 ym) H) (hD : va_D A (udX8_add cI n_p0 h0 ym)) (hS : va_S A s.heap H locs) : W p l e ({ frames := 1, cells := 0, slots := 0, locals := 22 } : Room) s m args below meth c H locs 0 0 Q (F0 m 0 ls []) := by
  have K0 := K
  obtain ⟨hx, hb, hml, hown, hts, hK, hN, hA⟩ := K
  unfold ufX8_add at h
  refine lv_aload_n hx hb dX8_add_0 rfl (lv_at hl 0 rfl) ?_
  refine lv_iload_n hx hb dX8_add_1 rfl (lv_at hl 1 rfl) ?_
  refine lv_aload_n hx hb dX8_add_2 rfl (lv_at hl 0 rfl) ?_
  refine lv_iload_n hx hb dX8_add_3 rfl (lv_at hl 1 rfl) ?_
  obtain ⟨x_1, hc4, h⟩ := ub_b1_some h
  have hPc : va_P D vwCl (udX8_at cI n_p0 h0 ym) H := ub_pickP hP [0] rfl
  have hDc : va_D A (udX8_at cI n_p0 h0 ym) := hD.sub [0] (by decide) rfl
  refine ub_calli (ws' := (udX8_add cI n_p0 h0 ym)) (va_runS (As := [.ref h0, .int l1]) (rest := [.int l1, .ref h0]) ⟨hx, hb, hml, hown, hts⟩ (ucX8_at l D cI cT hc4) (va_cwS 2 hts gX8_add_X8_at rfl rfl rfl uhX8_at ⟨Nat.le_of_ble_eq_true rfl, Nat.le_of_ble_eq_true rfl⟩) (ub_preS hPc hDc hK hN) rfl rfl hl.1 rfl (lv_room (Nat.le_of_ble_eq_true rfl)) dX8_add_4 ⟨Nat.le_of_ble_eq_true rfl, Nat.le_of_ble_eq_true rfl⟩) hP hD hS hA [0] rfl (by decide) rfl rfl (fun H locs hP hD hS => ?_)
  refine lv_iload_n hx hb dX8_add_7 rfl (lv_at hl 2 rfl) ?_
  refine lv_iadd hx hb dX8_add_8 ?_
  obtain ⟨ym_2, hc9, h⟩ := ub_b1_some h
  have hPc : va_P D vwCl (udX8_put cI n_p0 h0 ym) H := ub_pickP hP [0] rfl
  have hDc : va_D A (udX8_put cI n_p0 h0 ym) := hD.sub [0] (by decide) rfl
  refine ub_callv (ws' := (udX8_add cI n_p0 h0 ym_2)) (va_runS (As := [.ref h0, .int l1, .int (x_1 + l2)]) (rest := []) ⟨hx, hb, hml, hown, hts⟩ (ucX8_put l D cI cT hc9) (va_cwS 3 hts gX8_add_X8_put rfl rfl rfl uhX8_put ⟨Nat.le_of_ble_eq_true rfl, Nat.le_of_ble_eq_true rfl⟩) (ub_preS hPc hDc hK hN) rfl rfl hl.1 rfl (lv_room (Nat.le_of_ble_eq_true rfl)) dX8_add_9 ⟨Nat.le_of_ble_eq_true rfl, Nat.le_of_ble_eq_true rfl⟩) hP hD hS hA [0] rfl (by decide) rfl rfl (fun H locs hP hD hS => ?_)
  cases h
  exact hret H locs _ ls dX8_add_12 hP hD hS
set_option maxHeartbeats 4000000 in
set_option maxRecDepth 100000 in
theorem ucX8_add (l : Launch) (D : va_G) (cI cT : ClassId) {n_p0 : Nat} {h0 : Nat} {l1 : Int32} {l2 : Int32} {w_ym : (Nat → Int32)} {ym : (Nat → Int32)} {sz : Nat} (h : ufX8_add n_p0 ym l1 l2 = some w_ym) : Met l yX8_add wsX8_add ({ frames := 1, cells := 0, slots := 0, locals := 22 } : Room) (va_Pc [.ref h0, .int l1, .int l2] (ub_pc D cI cT (udX8_add cI n_p0 h0 ym) sz)) (va_Qv (fun (_ : Unit) => True) (fun _ t => ub_pq D (udX8_add cI n_p0 h0 w_ym) (va_A (udX8_add cI n_p0 h0 ym) sz) t) (va_A (udX8_add cI n_p0 h0 ym) sz)) 0 0 (va_A (udX8_add cI n_p0 h0 ym) sz) :=
  ub_met_v (by decide +kernel) rfl (Nat.le_of_ble_eq_true rfl) fun _ _ _ _ _ _ _ _ _ _ K hret _ hl hP hD hS => uwX8_add_E K hret h hl hP hD hS
-- X8_sum
def udX8_sum (cI : ClassId) (n_p0 : Nat) (h0 : Nat) (ym : Nat → Int32) : va_W := [(h0, .inl (cI, n_p0, .inl ym))]
def ulX8_sum_10 (n_p0 : Nat) (ym : Nat → Int32) (l3 : Int32) : Nat → Int32 → Int32 → Option (Int32)
  | 0, _, _ => none
  | k + 1, l1, l4 =>
    if l3 ≤ l4 then
      some (l1)
    else
      ub_gd l4 n_p0 <|
      ulX8_sum_10 n_p0 ym l3 k (l1 + (ym (Int32.toNatClampNeg l4))) (l4 + 1)
def ufX8_sum (n_p0 : Nat) (ym : Nat → Int32) : Option (Int32) :=
  ulX8_sum_10 n_p0 ym (Int32.ofNat n_p0) ub_F 0 0
theorem uhX8_sum : yX8_sum.cls ≠ "java/lang/invoke/MethodHandle" ∧ yX8_sum.cls ≠ "java/lang/invoke/VarHandle" ∧ (parseMethodDescriptor yX8_sum.desc).map (fun d => d.parameters.length) = some 1 := by decide +kernel
set_option maxHeartbeats 4000000 in
set_option maxRecDepth 100000 in
theorem uwX8_sum_10 {p : Program} {l : Launch} {e : Env} {s : State} {m : MethodId} {args : Array Value} {below : List Frame} {meth : Method} {c : Code} {Q : State → Prop} {D : va_G} {cI cT : ClassId} {A : Nat → Prop} (K : ub_kx p s m args meth c cX8_sum 6 RX8 wsX8_sum D cI cT A) {n_p0 : Nat} {h0 : Nat} {ym : (Nat → Int32)} {l3 : Int32} {rr : Int32} (hret : ∀ (H : Heap) (locs : List Loc) (pc : Nat) (ls : Array Slot), decode cX8_sum pc = .ok (.ireturn, 1) → narrow .int (.int rr) = .int rr → va_P D vwCl (udX8_sum cI n_p0 h0 ym) H → va_D A (udX8_sum cI n_p0 h0 ym) → va_S A s.heap H locs → W p l e ({ frames := 0, cells := 0, slots := 0, locals := 0 } : Room) s m args below meth c H locs 0 0 Q (F0 m pc ls [.int rr])) : ∀ (k : Nat) (l1 : Int32) (l4 : Int32), ulX8_sum_10 n_p0 ym l3 k l1 l4 = some rr → ∀ (H : Heap) (locs : List Loc) (ls : Array Slot), lv_has ls 6 [(1, .int l1), (2, .ref h0), (3, .int l3), (4, .int l4)] → va_P D vwCl (udX8_sum cI n_p0 h0 ym) H → va_D A (udX8_sum cI n_p0 h0 ym) → va_S A s.heap H locs → W p l e ({ frames := 0, cells := 0, slots := 0, locals := 0 } : Room) s m args below meth c H locs 0 0 Q (F0 m 10 ls []) := by
  have K0 := K
  obtain ⟨hx, hb, hml, hown, hts, hK, hN, hA⟩ := K
  intro k
  induction k with
  | zero =>
    intro l1 l4 h
    rw [ulX8_sum_10] at h
    cases h
  | succ k ih =>
    intro l1 l4 h H locs ls hl hP hD hS
    rw [ulX8_sum_10] at h
    refine lv_iload hx hb dX8_sum_10 (lv_at hl 3 rfl) ?_
    refine lv_iload_n hx hb dX8_sum_12 rfl (lv_at hl 2 rfl) ?_
    refine lv_icmp_ge (tgt := 33) hx hb dX8_sum_13 (by decide) (fun c13 => ?_) (fun c13 => ?_)
    · have h := ub_if_t c13 h
      refine lv_iload_n hx hb dX8_sum_33 rfl (lv_at hl 0 rfl) ?_
      cases h
      exact hret H locs _ ls dX8_sum_34 rfl hP hD hS
    · have h := ub_if_f c13 h
      refine lv_aload_n hx hb dX8_sum_16 rfl (lv_at hl 1 rfl) ?_
      refine lv_iload hx hb dX8_sum_17 (lv_at hl 3 rfl) ?_
      obtain ⟨hg19, h⟩ := ub_gd_some h
      refine va_iald hx hb hK hP 0 0 rfl rfl hg19 dX8_sum_19 ?_
      refine lv_istore (lv' := [(5, .int (ym (Int32.toNatClampNeg l4))), (1, .int l1), (2, .ref h0), (3, .int l3), (4, .int l4)]) hx hb dX8_sum_20 hl (by decide) rfl (fun ls hl => ?_)
      refine lv_iload_n hx hb dX8_sum_22 rfl (lv_at hl 1 rfl) ?_
      refine lv_iload hx hb dX8_sum_23 (lv_at hl 0 rfl) ?_
      refine lv_iadd hx hb dX8_sum_25 ?_
      refine lv_istore_n (lv' := [(1, .int (l1 + (ym (Int32.toNatClampNeg l4)))), (5, .int (ym (Int32.toNatClampNeg l4))), (2, .ref h0), (3, .int l3), (4, .int l4)]) hx hb dX8_sum_26 rfl hl (by decide) rfl (fun ls hl => ?_)
      refine lv_iinc (v := l4 + 1) (lv' := [(4, .int (l4 + 1)), (1, .int (l1 + (ym (Int32.toNatClampNeg l4)))), (5, .int (ym (Int32.toNatClampNeg l4))), (2, .ref h0), (3, .int l3)]) hx hb dX8_sum_27 hl (k := 4) rfl rfl (by decide) rfl (fun ls hl => ?_)
      refine lv_goto (tgt := 10) hx hb dX8_sum_30 (by decide) ?_
      exact ih (l1 + (ym (Int32.toNatClampNeg l4))) (l4 + 1) h H locs ls (lv_sub hl [1, 3, 4, 0] rfl) hP hD hS
set_option maxHeartbeats 4000000 in
set_option maxRecDepth 100000 in
theorem uwX8_sum_E {p : Program} {l : Launch} {e : Env} {s : State} {m : MethodId} {args : Array Value} {below : List Frame} {meth : Method} {c : Code} {Q : State → Prop} {D : va_G} {cI cT : ClassId} {A : Nat → Prop} (K : ub_kx p s m args meth c cX8_sum 6 RX8 wsX8_sum D cI cT A) {n_p0 : Nat} {h0 : Nat} {ym : (Nat → Int32)} {rr : Int32} (hret : ∀ (H : Heap) (locs : List Loc) (pc : Nat) (ls : Array Slot), decode cX8_sum pc = .ok (.ireturn, 1) → narrow .int (.int rr) = .int rr → va_P D vwCl (udX8_sum cI n_p0 h0 ym) H → va_D A (udX8_sum cI n_p0 h0 ym) → va_S A s.heap H locs → W p l e ({ frames := 0, cells := 0, slots := 0, locals := 0 } : Room) s m args below meth c H locs 0 0 Q (F0 m pc ls [.int rr])) (h : ufX8_sum n_p0 ym = some rr) {H : Heap} {locs : List Loc} {ls : Array Slot} (hl : lv_has ls 6 [(0, .ref h0)]) (hP : va_P D vwCl (udX8_sum cI n_p0 h0 ym) H) (hD : va_D A (udX8_sum cI n_p0 h0 ym)) (hS : va_S A s.heap H locs) : W p l e ({ frames := 0, cells := 0, slots := 0, locals := 0 } : Room) s m args below meth c H locs 0 0 Q (F0 m 0 ls []) := by
  have K0 := K
  obtain ⟨hx, hb, hml, hown, hts, hK, hN, hA⟩ := K
  unfold ufX8_sum at h
  refine lv_iconst (v := 0) hx hb dX8_sum_0 (by decide) ?_
  refine lv_istore_n (lv' := [(1, .int 0), (0, .ref h0)]) hx hb dX8_sum_1 rfl hl (by decide) rfl (fun ls hl => ?_)
  refine lv_aload_n hx hb dX8_sum_2 rfl (lv_at hl 1 rfl) ?_
  refine lv_astore_n (lv' := [(2, .ref h0), (1, .int 0), (0, .ref h0)]) hx hb dX8_sum_3 rfl hl (by decide) rfl (fun ls hl => ?_)
  refine lv_aload_n hx hb dX8_sum_4 rfl (lv_at hl 0 rfl) ?_
  refine va_alen (v := Int32.ofNat n_p0) hx hb hK hP 0 0 rfl rfl rfl dX8_sum_5 ?_
  refine lv_istore_n (lv' := [(3, .int (Int32.ofNat n_p0)), (2, .ref h0), (1, .int 0), (0, .ref h0)]) hx hb dX8_sum_6 rfl hl (by decide) rfl (fun ls hl => ?_)
  refine lv_iconst (v := 0) hx hb dX8_sum_7 (by decide) ?_
  refine lv_istore (lv' := [(4, .int 0), (3, .int (Int32.ofNat n_p0)), (2, .ref h0), (1, .int 0), (0, .ref h0)]) hx hb dX8_sum_8 hl (by decide) rfl (fun ls hl => ?_)
  exact uwX8_sum_10 K0 hret ub_F 0 0 h H locs ls (lv_sub hl [3, 2, 1, 0] rfl) hP hD hS
set_option maxHeartbeats 4000000 in
set_option maxRecDepth 100000 in
theorem ucX8_sum (l : Launch) (D : va_G) (cI cT : ClassId) {n_p0 : Nat} {h0 : Nat} {rr : Int32} {ym : (Nat → Int32)} {sz : Nat} (h : ufX8_sum n_p0 ym = some rr) : Met l yX8_sum wsX8_sum ({ frames := 0, cells := 0, slots := 0, locals := 0 } : Room) (va_Pc [.ref h0] (ub_pc D cI cT (udX8_sum cI n_p0 h0 ym) sz)) (va_Qi (fun (r' : Int32) (_ : Unit) => r' = rr) (fun _ t => ub_pq D (udX8_sum cI n_p0 h0 ym) (va_A (udX8_sum cI n_p0 h0 ym) sz) t) (va_A (udX8_sum cI n_p0 h0 ym) sz)) 0 0 (va_A (udX8_sum cI n_p0 h0 ym) sz) :=
  ub_met_i (by decide +kernel) rfl (Nat.le_of_ble_eq_true rfl) fun _ _ _ _ _ _ _ _ _ _ K hret _ hl hP hD hS => uwX8_sum_E K hret h hl hP hD hS
-- X8_copy
def udX8_copy (cI : ClassId) (n_p0 : Nat) (n_p1 : Nat) (h0 : Nat) (h1 : Nat) (ym : Nat → Int32) (yo : Nat → Int32) : va_W := [(h0, .inl (cI, n_p0, .inl ym)), (h1, .inl (cI, n_p1, .inl yo))]
def ufX8_copy (n_p0 : Nat) (n_p1 : Nat) (ym : Nat → Int32) (yo : Nat → Int32) : Option ((Nat → Int32)) :=
  ub_nm (if (Int32.ofNat n_p1) < (Int32.ofNat n_p0) then (Int32.ofNat n_p1) else (Int32.ofNat n_p0)) fun x_1 =>
  ub_cg n_p0 n_p1 x_1 <|
  ub_nm (va_cpy ym yo 0 0 (Int32.toNatClampNeg x_1)) fun yo_2 =>
  some (yo_2)
theorem uvX8_copy_1 : Cond.methodLink RX8 340 Lib.Math.min.name ∈ wsX8_copy := List.mem_cons_of_mem _ us_m347
theorem uvX8_copy_2 : Cond.static Lib.Math.min.name ∈ wsX8_copy := List.mem_cons_of_mem _ us_m348
theorem uvX8_copy_3 : Cond.initialized "java/lang/Math" ∈ wsX8_copy := List.mem_cons_of_mem _ us_m49
theorem uvX8_copy_4 : Cond.code Lib.Math.min.name Lib.Math.min.code 2 (some .int) ∈ wsX8_copy := List.mem_cons_of_mem _ us_m349
theorem uvX8_copy_5 : Cond.methodLink RX8 345 arraycopyName ∈ wsX8_copy := List.mem_cons_of_mem _ us_m350
theorem uvX8_copy_6 : Cond.native arraycopyName ∈ wsX8_copy := List.mem_cons_of_mem _ us_m352
theorem uvX8_copy_7 : Cond.static arraycopyName ∈ wsX8_copy := List.mem_cons_of_mem _ us_m351
theorem uvX8_copy_8 : Cond.initialized "java/lang/System" ∈ wsX8_copy := List.mem_cons_of_mem _ us_m50
theorem uhX8_copy : yX8_copy.cls ≠ "java/lang/invoke/MethodHandle" ∧ yX8_copy.cls ≠ "java/lang/invoke/VarHandle" ∧ (parseMethodDescriptor yX8_copy.desc).map (fun d => d.parameters.length) = some 2 := by decide +kernel
set_option maxHeartbeats 4000000 in
set_option maxRecDepth 100000 in
theorem uwX8_copy_E {p : Program} {l : Launch} {e : Env} {s : State} {m : MethodId} {args : Array Value} {below : List Frame} {meth : Method} {c : Code} {Q : State → Prop} {D : va_G} {cI cT : ClassId} {A : Nat → Prop} (K : ub_kx p s m args meth c cX8_copy 2 RX8 wsX8_copy D cI cT A) {n_p0 n_p1 : Nat} {h0 h1 : Nat} {ym : (Nat → Int32)} {yo : (Nat → Int32)} {w_yo : (Nat → Int32)} (hret : ∀ (H : Heap) (locs : List Loc) (pc : Nat) (ls : Array Slot), decode cX8_copy pc = .ok (.return_, 1) → va_P D vwCl (udX8_copy cI n_p0 n_p1 h0 h1 ym w_yo) H → va_D A (udX8_copy cI n_p0 n_p1 h0 h1 ym w_yo) → va_S A s.heap H locs → W p l e ({ frames := 1, cells := 0, slots := 0, locals := 26 } : Room) s m args below meth c H locs 0 0 Q (F0 m pc ls [])) (h : ufX8_copy n_p0 n_p1 ym yo = some w_yo) {H : Heap} {locs : List Loc} {ls : Array Slot} (hl : lv_has ls 2 [(0, .ref h0), (1, .ref h1)]) (hP : va_P D vwCl (udX8_copy cI n_p0 n_p1 h0 h1 ym yo) H) (hD : va_D A (udX8_copy cI n_p0 n_p1 h0 h1 ym yo)) (hS : va_S A s.heap H locs) : W p l e ({ frames := 1, cells := 0, slots := 0, locals := 26 } : Room) s m args below meth c H locs 0 0 Q (F0 m 0 ls []) := by
  have K0 := K
  obtain ⟨hx, hb, hml, hown, hts, hK, hN, hA⟩ := K
  unfold ufX8_copy at h
  refine lv_aload_n hx hb dX8_copy_0 rfl (lv_at hl 0 rfl) ?_
  refine lv_iconst (v := 0) hx hb dX8_copy_1 (by decide) ?_
  refine lv_aload_n hx hb dX8_copy_2 rfl (lv_at hl 1 rfl) ?_
  refine lv_iconst (v := 0) hx hb dX8_copy_3 (by decide) ?_
  refine lv_aload_n hx hb dX8_copy_4 rfl (lv_at hl 0 rfl) ?_
  refine va_alen (v := Int32.ofNat n_p0) hx hb hK hP 0 0 rfl rfl rfl dX8_copy_5 ?_
  refine lv_aload_n hx hb dX8_copy_6 rfl (lv_at hl 1 rfl) ?_
  refine va_alen (v := Int32.ofNat n_p1) hx hb hK hP 1 0 rfl rfl rfl dX8_copy_7 ?_
  refine va_mmin hx hb (hml.trans hl.1.symm) hown (hts _ uvX8_copy_1) (hts _ uvX8_copy_2) (hts _ uvX8_copy_3) (hts _ uvX8_copy_4) (Nat.le_of_ble_eq_true rfl) (Nat.le_of_ble_eq_true rfl) (Nat.le_of_ble_eq_true rfl) (Nat.le_of_ble_eq_true rfl) dX8_copy_8 ?_
  obtain ⟨x_1, ex_1, h⟩ := ub_nm_some h
  refine ub_topi ex_1 ?_
  obtain ⟨hg11, h⟩ := ub_cg_some h
  obtain ⟨yo_2, eyo_2, h⟩ := ub_nm_some h
  refine ub_copy (ws' := (udX8_copy cI n_p0 n_p1 h0 h1 ym yo_2)) hx hb (hml.trans hl.1.symm) hown (hts _ uvX8_copy_5) (hts _ uvX8_copy_6) (hts _ uvX8_copy_7) (hts _ uvX8_copy_8) hK hP hD hS 0 1 rfl rfl hg11 eyo_2 rfl (Nat.le_of_ble_eq_true rfl) (Nat.le_of_ble_eq_true rfl) dX8_copy_11 (fun H locs hP hD hS => ?_)
  cases h
  exact hret H locs _ ls dX8_copy_14 hP hD hS
set_option maxHeartbeats 4000000 in
set_option maxRecDepth 100000 in
theorem ucX8_copy (l : Launch) (D : va_G) (cI cT : ClassId) {n_p0 n_p1 : Nat} {h0 h1 : Nat} {w_yo : (Nat → Int32)} {ym : (Nat → Int32)} {yo : (Nat → Int32)} {sz : Nat} (h : ufX8_copy n_p0 n_p1 ym yo = some w_yo) : Met l yX8_copy wsX8_copy ({ frames := 1, cells := 0, slots := 0, locals := 26 } : Room) (va_Pc [.ref h0, .ref h1] (ub_pc D cI cT (udX8_copy cI n_p0 n_p1 h0 h1 ym yo) sz)) (va_Qv (fun (_ : Unit) => True) (fun _ t => ub_pq D (udX8_copy cI n_p0 n_p1 h0 h1 ym w_yo) (va_A (udX8_copy cI n_p0 n_p1 h0 h1 ym yo) sz) t) (va_A (udX8_copy cI n_p0 n_p1 h0 h1 ym yo) sz)) 0 0 (va_A (udX8_copy cI n_p0 n_p1 h0 h1 ym yo) sz) :=
  ub_met_v (by decide +kernel) rfl (Nat.le_of_ble_eq_true rfl) fun _ _ _ _ _ _ _ _ _ _ K hret _ hl hP hD hS => uwX8_copy_E K hret h hl hP hD hS
-- X8_bit
def udX8_bit (cI : ClassId) : va_W := []
def ufX8_bit (l0 : Int32) : Option (Int32) :=
  some (1 <<< (l0 &&& 31))
theorem uhX8_bit : yX8_bit.cls ≠ "java/lang/invoke/MethodHandle" ∧ yX8_bit.cls ≠ "java/lang/invoke/VarHandle" ∧ (parseMethodDescriptor yX8_bit.desc).map (fun d => d.parameters.length) = some 1 := by decide +kernel
set_option maxHeartbeats 4000000 in
set_option maxRecDepth 100000 in
theorem uwX8_bit_E {p : Program} {l : Launch} {e : Env} {s : State} {m : MethodId} {args : Array Value} {below : List Frame} {meth : Method} {c : Code} {Q : State → Prop} {D : va_G} {cI cT : ClassId} {A : Nat → Prop} (K : ub_kx p s m args meth c cX8_bit 1 RX8 wsX8_bit D cI cT A) {l0 : Int32} {rr : Int32} (hret : ∀ (H : Heap) (locs : List Loc) (pc : Nat) (ls : Array Slot), decode cX8_bit pc = .ok (.ireturn, 1) → narrow .int (.int rr) = .int rr → va_P D vwCl (udX8_bit cI) H → va_D A (udX8_bit cI) → va_S A s.heap H locs → W p l e ({ frames := 0, cells := 0, slots := 0, locals := 0 } : Room) s m args below meth c H locs 0 0 Q (F0 m pc ls [.int rr])) (h : ufX8_bit l0 = some rr) {H : Heap} {locs : List Loc} {ls : Array Slot} (hl : lv_has ls 1 [(0, .int l0)]) (hP : va_P D vwCl (udX8_bit cI) H) (hD : va_D A (udX8_bit cI)) (hS : va_S A s.heap H locs) : W p l e ({ frames := 0, cells := 0, slots := 0, locals := 0 } : Room) s m args below meth c H locs 0 0 Q (F0 m 0 ls []) := by
  have K0 := K
  obtain ⟨hx, hb, hml, hown, hts, hK, hN, hA⟩ := K
  unfold ufX8_bit at h
  refine lv_iconst (v := 1) hx hb dX8_bit_0 (by decide) ?_
  refine lv_iload_n hx hb dX8_bit_1 rfl (lv_at hl 0 rfl) ?_
  refine lv_ishl hx hb dX8_bit_2 ?_
  cases h
  exact hret H locs _ ls dX8_bit_3 rfl hP hD hS
set_option maxHeartbeats 4000000 in
set_option maxRecDepth 100000 in
theorem ucX8_bit (l : Launch) (D : va_G) (cI cT : ClassId) {l0 : Int32} {rr : Int32} {sz : Nat} (h : ufX8_bit l0 = some rr) : Met l yX8_bit wsX8_bit ({ frames := 0, cells := 0, slots := 0, locals := 0 } : Room) (va_Pc [.int l0] (ub_pc D cI cT (udX8_bit cI) sz)) (va_Qi (fun (r' : Int32) (_ : Unit) => r' = rr) (fun _ t => ub_pq D (udX8_bit cI) (va_A (udX8_bit cI) sz) t) (va_A (udX8_bit cI) sz)) 0 0 (va_A (udX8_bit cI) sz) :=
  ub_met_i (by decide +kernel) rfl (Nat.le_of_ble_eq_true rfl) fun _ _ _ _ _ _ _ _ _ _ K hret _ hl hP hD hS => uwX8_bit_E K hret h hl hP hD hS
-- X8_isIn
def udX8_isIn (cI : ClassId) : va_W := []
def ufX8_isIn (l0 : Int32) (l1 : Int32) : Option (Int32) :=
  if ((l0 >>> (l1 &&& 31)) &&& 1) = 0 then
    some (0)
  else
    some (1)
theorem uhX8_isIn : yX8_isIn.cls ≠ "java/lang/invoke/MethodHandle" ∧ yX8_isIn.cls ≠ "java/lang/invoke/VarHandle" ∧ (parseMethodDescriptor yX8_isIn.desc).map (fun d => d.parameters.length) = some 2 := by decide +kernel
set_option maxHeartbeats 4000000 in
set_option maxRecDepth 100000 in
theorem uwX8_isIn_E {p : Program} {l : Launch} {e : Env} {s : State} {m : MethodId} {args : Array Value} {below : List Frame} {meth : Method} {c : Code} {Q : State → Prop} {D : va_G} {cI cT : ClassId} {A : Nat → Prop} (K : ub_kx p s m args meth c cX8_isIn 2 RX8 wsX8_isIn D cI cT A) {l0 : Int32} {l1 : Int32} {rr : Int32} (hret : ∀ (H : Heap) (locs : List Loc) (pc : Nat) (ls : Array Slot), decode cX8_isIn pc = .ok (.ireturn, 1) → narrow .boolean (.int rr) = .int rr → va_P D vwCl (udX8_isIn cI) H → va_D A (udX8_isIn cI) → va_S A s.heap H locs → W p l e ({ frames := 0, cells := 0, slots := 0, locals := 0 } : Room) s m args below meth c H locs 0 0 Q (F0 m pc ls [.int rr])) (h : ufX8_isIn l0 l1 = some rr) {H : Heap} {locs : List Loc} {ls : Array Slot} (hl : lv_has ls 2 [(0, .int l0), (1, .int l1)]) (hP : va_P D vwCl (udX8_isIn cI) H) (hD : va_D A (udX8_isIn cI)) (hS : va_S A s.heap H locs) : W p l e ({ frames := 0, cells := 0, slots := 0, locals := 0 } : Room) s m args below meth c H locs 0 0 Q (F0 m 0 ls []) := by
  have K0 := K
  obtain ⟨hx, hb, hml, hown, hts, hK, hN, hA⟩ := K
  unfold ufX8_isIn at h
  refine lv_iload_n hx hb dX8_isIn_0 rfl (lv_at hl 0 rfl) ?_
  refine lv_iload_n hx hb dX8_isIn_1 rfl (lv_at hl 1 rfl) ?_
  refine lv_ishr hx hb dX8_isIn_2 ?_
  refine lv_iconst (v := 1) hx hb dX8_isIn_3 (by decide) ?_
  refine lv_iand hx hb dX8_isIn_4 ?_
  refine lv_if_eq (tgt := 12) hx hb dX8_isIn_5 (by decide) (fun c5 => ?_) (fun c5 => ?_)
  · have h := ub_if_t c5 h
    refine lv_iconst (v := 0) hx hb dX8_isIn_12 (by decide) ?_
    cases h
    exact hret H locs _ ls dX8_isIn_13 rfl hP hD hS
  · have h := ub_if_f c5 h
    refine lv_iconst (v := 1) hx hb dX8_isIn_8 (by decide) ?_
    refine lv_goto (tgt := 13) hx hb dX8_isIn_9 (by decide) ?_
    cases h
    exact hret H locs _ ls dX8_isIn_13 rfl hP hD hS
set_option maxHeartbeats 4000000 in
set_option maxRecDepth 100000 in
theorem ucX8_isIn (l : Launch) (D : va_G) (cI cT : ClassId) {l0 : Int32} {l1 : Int32} {rr : Int32} {sz : Nat} (h : ufX8_isIn l0 l1 = some rr) : Met l yX8_isIn wsX8_isIn ({ frames := 0, cells := 0, slots := 0, locals := 0 } : Room) (va_Pc [.int l0, .int l1] (ub_pc D cI cT (udX8_isIn cI) sz)) (va_Qi (fun (r' : Int32) (_ : Unit) => r' = rr) (fun _ t => ub_pq D (udX8_isIn cI) (va_A (udX8_isIn cI) sz) t) (va_A (udX8_isIn cI) sz)) 0 0 (va_A (udX8_isIn cI) sz) :=
  ub_met_i (by decide +kernel) rfl (Nat.le_of_ble_eq_true rfl) fun _ _ _ _ _ _ _ _ _ _ K hret _ hl hP hD hS => uwX8_isIn_E K hret h hl hP hD hS
-- X8_isParish
def udX8_isParish (cI : ClassId) : va_W := []
def ufX8_isParish (l0 : Int32) : Option (Int32) :=
  if l0 < 0 then
    some (0)
  else
    if 4 ≤ l0 then
      some (0)
    else
      some (1)
theorem uhX8_isParish : yX8_isParish.cls ≠ "java/lang/invoke/MethodHandle" ∧ yX8_isParish.cls ≠ "java/lang/invoke/VarHandle" ∧ (parseMethodDescriptor yX8_isParish.desc).map (fun d => d.parameters.length) = some 1 := by decide +kernel
set_option maxHeartbeats 4000000 in
set_option maxRecDepth 100000 in
theorem uwX8_isParish_E {p : Program} {l : Launch} {e : Env} {s : State} {m : MethodId} {args : Array Value} {below : List Frame} {meth : Method} {c : Code} {Q : State → Prop} {D : va_G} {cI cT : ClassId} {A : Nat → Prop} (K : ub_kx p s m args meth c cX8_isParish 1 RX8 wsX8_isParish D cI cT A) {l0 : Int32} {rr : Int32} (hret : ∀ (H : Heap) (locs : List Loc) (pc : Nat) (ls : Array Slot), decode cX8_isParish pc = .ok (.ireturn, 1) → narrow .boolean (.int rr) = .int rr → va_P D vwCl (udX8_isParish cI) H → va_D A (udX8_isParish cI) → va_S A s.heap H locs → W p l e ({ frames := 0, cells := 0, slots := 0, locals := 0 } : Room) s m args below meth c H locs 0 0 Q (F0 m pc ls [.int rr])) (h : ufX8_isParish l0 = some rr) {H : Heap} {locs : List Loc} {ls : Array Slot} (hl : lv_has ls 1 [(0, .int l0)]) (hP : va_P D vwCl (udX8_isParish cI) H) (hD : va_D A (udX8_isParish cI)) (hS : va_S A s.heap H locs) : W p l e ({ frames := 0, cells := 0, slots := 0, locals := 0 } : Room) s m args below meth c H locs 0 0 Q (F0 m 0 ls []) := by
  have K0 := K
  obtain ⟨hx, hb, hml, hown, hts, hK, hN, hA⟩ := K
  unfold ufX8_isParish at h
  refine lv_iload_n hx hb dX8_isParish_0 rfl (lv_at hl 0 rfl) ?_
  refine lv_if_lt (tgt := 13) hx hb dX8_isParish_1 (by decide) (fun c1 => ?_) (fun c1 => ?_)
  · have h := ub_if_t c1 h
    refine lv_iconst (v := 0) hx hb dX8_isParish_13 (by decide) ?_
    cases h
    exact hret H locs _ ls dX8_isParish_14 rfl hP hD hS
  · have h := ub_if_f c1 h
    refine lv_iload_n hx hb dX8_isParish_4 rfl (lv_at hl 0 rfl) ?_
    refine lv_iconst (v := 4) hx hb dX8_isParish_5 (by decide) ?_
    refine lv_icmp_ge (tgt := 13) hx hb dX8_isParish_6 (by decide) (fun c6 => ?_) (fun c6 => ?_)
    · have h := ub_if_t c6 h
      refine lv_iconst (v := 0) hx hb dX8_isParish_13 (by decide) ?_
      cases h
      exact hret H locs _ ls dX8_isParish_14 rfl hP hD hS
    · have h := ub_if_f c6 h
      refine lv_iconst (v := 1) hx hb dX8_isParish_9 (by decide) ?_
      refine lv_goto (tgt := 14) hx hb dX8_isParish_10 (by decide) ?_
      cases h
      exact hret H locs _ ls dX8_isParish_14 rfl hP hD hS
set_option maxHeartbeats 4000000 in
set_option maxRecDepth 100000 in
theorem ucX8_isParish (l : Launch) (D : va_G) (cI cT : ClassId) {l0 : Int32} {rr : Int32} {sz : Nat} (h : ufX8_isParish l0 = some rr) : Met l yX8_isParish wsX8_isParish ({ frames := 0, cells := 0, slots := 0, locals := 0 } : Room) (va_Pc [.int l0] (ub_pc D cI cT (udX8_isParish cI) sz)) (va_Qi (fun (r' : Int32) (_ : Unit) => r' = rr) (fun _ t => ub_pq D (udX8_isParish cI) (va_A (udX8_isParish cI) sz) t) (va_A (udX8_isParish cI) sz)) 0 0 (va_A (udX8_isParish cI) sz) :=
  ub_met_i (by decide +kernel) rfl (Nat.le_of_ble_eq_true rfl) fun _ _ _ _ _ _ _ _ _ _ K hret _ hl hP hD hS => uwX8_isParish_E K hret h hl hP hD hS
-- X8_isHour
def udX8_isHour (cI : ClassId) : va_W := []
def ufX8_isHour (l0 : Int32) : Option (Int32) :=
  if l0 < 0 then
    some (0)
  else
    if 24 ≤ l0 then
      some (0)
    else
      some (1)
theorem uhX8_isHour : yX8_isHour.cls ≠ "java/lang/invoke/MethodHandle" ∧ yX8_isHour.cls ≠ "java/lang/invoke/VarHandle" ∧ (parseMethodDescriptor yX8_isHour.desc).map (fun d => d.parameters.length) = some 1 := by decide +kernel
set_option maxHeartbeats 4000000 in
set_option maxRecDepth 100000 in
theorem uwX8_isHour_E {p : Program} {l : Launch} {e : Env} {s : State} {m : MethodId} {args : Array Value} {below : List Frame} {meth : Method} {c : Code} {Q : State → Prop} {D : va_G} {cI cT : ClassId} {A : Nat → Prop} (K : ub_kx p s m args meth c cX8_isHour 1 RX8 wsX8_isHour D cI cT A) {l0 : Int32} {rr : Int32} (hret : ∀ (H : Heap) (locs : List Loc) (pc : Nat) (ls : Array Slot), decode cX8_isHour pc = .ok (.ireturn, 1) → narrow .boolean (.int rr) = .int rr → va_P D vwCl (udX8_isHour cI) H → va_D A (udX8_isHour cI) → va_S A s.heap H locs → W p l e ({ frames := 0, cells := 0, slots := 0, locals := 0 } : Room) s m args below meth c H locs 0 0 Q (F0 m pc ls [.int rr])) (h : ufX8_isHour l0 = some rr) {H : Heap} {locs : List Loc} {ls : Array Slot} (hl : lv_has ls 1 [(0, .int l0)]) (hP : va_P D vwCl (udX8_isHour cI) H) (hD : va_D A (udX8_isHour cI)) (hS : va_S A s.heap H locs) : W p l e ({ frames := 0, cells := 0, slots := 0, locals := 0 } : Room) s m args below meth c H locs 0 0 Q (F0 m 0 ls []) := by
  have K0 := K
  obtain ⟨hx, hb, hml, hown, hts, hK, hN, hA⟩ := K
  unfold ufX8_isHour at h
  refine lv_iload_n hx hb dX8_isHour_0 rfl (lv_at hl 0 rfl) ?_
  refine lv_if_lt (tgt := 14) hx hb dX8_isHour_1 (by decide) (fun c1 => ?_) (fun c1 => ?_)
  · have h := ub_if_t c1 h
    refine lv_iconst (v := 0) hx hb dX8_isHour_14 (by decide) ?_
    cases h
    exact hret H locs _ ls dX8_isHour_15 rfl hP hD hS
  · have h := ub_if_f c1 h
    refine lv_iload_n hx hb dX8_isHour_4 rfl (lv_at hl 0 rfl) ?_
    refine lv_bipush (v := 24) hx hb dX8_isHour_5 (by decide) ?_
    refine lv_icmp_ge (tgt := 14) hx hb dX8_isHour_7 (by decide) (fun c7 => ?_) (fun c7 => ?_)
    · have h := ub_if_t c7 h
      refine lv_iconst (v := 0) hx hb dX8_isHour_14 (by decide) ?_
      cases h
      exact hret H locs _ ls dX8_isHour_15 rfl hP hD hS
    · have h := ub_if_f c7 h
      refine lv_iconst (v := 1) hx hb dX8_isHour_10 (by decide) ?_
      refine lv_goto (tgt := 15) hx hb dX8_isHour_11 (by decide) ?_
      cases h
      exact hret H locs _ ls dX8_isHour_15 rfl hP hD hS
set_option maxHeartbeats 4000000 in
set_option maxRecDepth 100000 in
theorem ucX8_isHour (l : Launch) (D : va_G) (cI cT : ClassId) {l0 : Int32} {rr : Int32} {sz : Nat} (h : ufX8_isHour l0 = some rr) : Met l yX8_isHour wsX8_isHour ({ frames := 0, cells := 0, slots := 0, locals := 0 } : Room) (va_Pc [.int l0] (ub_pc D cI cT (udX8_isHour cI) sz)) (va_Qi (fun (r' : Int32) (_ : Unit) => r' = rr) (fun _ t => ub_pq D (udX8_isHour cI) (va_A (udX8_isHour cI) sz) t) (va_A (udX8_isHour cI) sz)) 0 0 (va_A (udX8_isHour cI) sz) :=
  ub_met_i (by decide +kernel) rfl (Nat.le_of_ble_eq_true rfl) fun _ _ _ _ _ _ _ _ _ _ K hret _ hl hP hD hS => uwX8_isHour_E K hret h hl hP hD hS
-- X8_isStrength
def udX8_isStrength (cI : ClassId) : va_W := []
def ufX8_isStrength (l0 : Int32) : Option (Int32) :=
  if l0 < 1 then
    some (0)
  else
    if 9 < l0 then
      some (0)
    else
      some (1)
theorem uhX8_isStrength : yX8_isStrength.cls ≠ "java/lang/invoke/MethodHandle" ∧ yX8_isStrength.cls ≠ "java/lang/invoke/VarHandle" ∧ (parseMethodDescriptor yX8_isStrength.desc).map (fun d => d.parameters.length) = some 1 := by decide +kernel
set_option maxHeartbeats 4000000 in
set_option maxRecDepth 100000 in
theorem uwX8_isStrength_E {p : Program} {l : Launch} {e : Env} {s : State} {m : MethodId} {args : Array Value} {below : List Frame} {meth : Method} {c : Code} {Q : State → Prop} {D : va_G} {cI cT : ClassId} {A : Nat → Prop} (K : ub_kx p s m args meth c cX8_isStrength 1 RX8 wsX8_isStrength D cI cT A) {l0 : Int32} {rr : Int32} (hret : ∀ (H : Heap) (locs : List Loc) (pc : Nat) (ls : Array Slot), decode cX8_isStrength pc = .ok (.ireturn, 1) → narrow .boolean (.int rr) = .int rr → va_P D vwCl (udX8_isStrength cI) H → va_D A (udX8_isStrength cI) → va_S A s.heap H locs → W p l e ({ frames := 0, cells := 0, slots := 0, locals := 0 } : Room) s m args below meth c H locs 0 0 Q (F0 m pc ls [.int rr])) (h : ufX8_isStrength l0 = some rr) {H : Heap} {locs : List Loc} {ls : Array Slot} (hl : lv_has ls 1 [(0, .int l0)]) (hP : va_P D vwCl (udX8_isStrength cI) H) (hD : va_D A (udX8_isStrength cI)) (hS : va_S A s.heap H locs) : W p l e ({ frames := 0, cells := 0, slots := 0, locals := 0 } : Room) s m args below meth c H locs 0 0 Q (F0 m 0 ls []) := by
  have K0 := K
  obtain ⟨hx, hb, hml, hown, hts, hK, hN, hA⟩ := K
  unfold ufX8_isStrength at h
  refine lv_iload_n hx hb dX8_isStrength_0 rfl (lv_at hl 0 rfl) ?_
  refine lv_iconst (v := 1) hx hb dX8_isStrength_1 (by decide) ?_
  refine lv_icmp_lt (tgt := 15) hx hb dX8_isStrength_2 (by decide) (fun c2 => ?_) (fun c2 => ?_)
  · have h := ub_if_t c2 h
    refine lv_iconst (v := 0) hx hb dX8_isStrength_15 (by decide) ?_
    cases h
    exact hret H locs _ ls dX8_isStrength_16 rfl hP hD hS
  · have h := ub_if_f c2 h
    refine lv_iload_n hx hb dX8_isStrength_5 rfl (lv_at hl 0 rfl) ?_
    refine lv_bipush (v := 9) hx hb dX8_isStrength_6 (by decide) ?_
    refine lv_icmp_gt (tgt := 15) hx hb dX8_isStrength_8 (by decide) (fun c8 => ?_) (fun c8 => ?_)
    · have h := ub_if_t c8 h
      refine lv_iconst (v := 0) hx hb dX8_isStrength_15 (by decide) ?_
      cases h
      exact hret H locs _ ls dX8_isStrength_16 rfl hP hD hS
    · have h := ub_if_f c8 h
      refine lv_iconst (v := 1) hx hb dX8_isStrength_11 (by decide) ?_
      refine lv_goto (tgt := 16) hx hb dX8_isStrength_12 (by decide) ?_
      cases h
      exact hret H locs _ ls dX8_isStrength_16 rfl hP hD hS
set_option maxHeartbeats 4000000 in
set_option maxRecDepth 100000 in
theorem ucX8_isStrength (l : Launch) (D : va_G) (cI cT : ClassId) {l0 : Int32} {rr : Int32} {sz : Nat} (h : ufX8_isStrength l0 = some rr) : Met l yX8_isStrength wsX8_isStrength ({ frames := 0, cells := 0, slots := 0, locals := 0 } : Room) (va_Pc [.int l0] (ub_pc D cI cT (udX8_isStrength cI) sz)) (va_Qi (fun (r' : Int32) (_ : Unit) => r' = rr) (fun _ t => ub_pq D (udX8_isStrength cI) (va_A (udX8_isStrength cI) sz) t) (va_A (udX8_isStrength cI) sz)) 0 0 (va_A (udX8_isStrength cI) sz) :=
  ub_met_i (by decide +kernel) rfl (Nat.le_of_ble_eq_true rfl) fun _ _ _ _ _ _ _ _ _ _ K hret _ hl hP hD hS => uwX8_isStrength_E K hret h hl hP hD hS
-- X8_isDigit
def udX8_isDigit (cI : ClassId) : va_W := []
def ufX8_isDigit (l0 : Int32) : Option (Int32) :=
  if l0 < 48 then
    some (0)
  else
    if 57 < l0 then
      some (0)
    else
      some (1)
theorem uhX8_isDigit : yX8_isDigit.cls ≠ "java/lang/invoke/MethodHandle" ∧ yX8_isDigit.cls ≠ "java/lang/invoke/VarHandle" ∧ (parseMethodDescriptor yX8_isDigit.desc).map (fun d => d.parameters.length) = some 1 := by decide +kernel
set_option maxHeartbeats 4000000 in
set_option maxRecDepth 100000 in
theorem uwX8_isDigit_E {p : Program} {l : Launch} {e : Env} {s : State} {m : MethodId} {args : Array Value} {below : List Frame} {meth : Method} {c : Code} {Q : State → Prop} {D : va_G} {cI cT : ClassId} {A : Nat → Prop} (K : ub_kx p s m args meth c cX8_isDigit 1 RX8 wsX8_isDigit D cI cT A) {l0 : Int32} {rr : Int32} (hret : ∀ (H : Heap) (locs : List Loc) (pc : Nat) (ls : Array Slot), decode cX8_isDigit pc = .ok (.ireturn, 1) → narrow .boolean (.int rr) = .int rr → va_P D vwCl (udX8_isDigit cI) H → va_D A (udX8_isDigit cI) → va_S A s.heap H locs → W p l e ({ frames := 0, cells := 0, slots := 0, locals := 0 } : Room) s m args below meth c H locs 0 0 Q (F0 m pc ls [.int rr])) (h : ufX8_isDigit l0 = some rr) {H : Heap} {locs : List Loc} {ls : Array Slot} (hl : lv_has ls 1 [(0, .int l0)]) (hP : va_P D vwCl (udX8_isDigit cI) H) (hD : va_D A (udX8_isDigit cI)) (hS : va_S A s.heap H locs) : W p l e ({ frames := 0, cells := 0, slots := 0, locals := 0 } : Room) s m args below meth c H locs 0 0 Q (F0 m 0 ls []) := by
  have K0 := K
  obtain ⟨hx, hb, hml, hown, hts, hK, hN, hA⟩ := K
  unfold ufX8_isDigit at h
  refine lv_iload_n hx hb dX8_isDigit_0 rfl (lv_at hl 0 rfl) ?_
  refine lv_bipush (v := 48) hx hb dX8_isDigit_1 (by decide) ?_
  refine lv_icmp_lt (tgt := 16) hx hb dX8_isDigit_3 (by decide) (fun c3 => ?_) (fun c3 => ?_)
  · have h := ub_if_t c3 h
    refine lv_iconst (v := 0) hx hb dX8_isDigit_16 (by decide) ?_
    cases h
    exact hret H locs _ ls dX8_isDigit_17 rfl hP hD hS
  · have h := ub_if_f c3 h
    refine lv_iload_n hx hb dX8_isDigit_6 rfl (lv_at hl 0 rfl) ?_
    refine lv_bipush (v := 57) hx hb dX8_isDigit_7 (by decide) ?_
    refine lv_icmp_gt (tgt := 16) hx hb dX8_isDigit_9 (by decide) (fun c9 => ?_) (fun c9 => ?_)
    · have h := ub_if_t c9 h
      refine lv_iconst (v := 0) hx hb dX8_isDigit_16 (by decide) ?_
      cases h
      exact hret H locs _ ls dX8_isDigit_17 rfl hP hD hS
    · have h := ub_if_f c9 h
      refine lv_iconst (v := 1) hx hb dX8_isDigit_12 (by decide) ?_
      refine lv_goto (tgt := 17) hx hb dX8_isDigit_13 (by decide) ?_
      cases h
      exact hret H locs _ ls dX8_isDigit_17 rfl hP hD hS
set_option maxHeartbeats 4000000 in
set_option maxRecDepth 100000 in
theorem ucX8_isDigit (l : Launch) (D : va_G) (cI cT : ClassId) {l0 : Int32} {rr : Int32} {sz : Nat} (h : ufX8_isDigit l0 = some rr) : Met l yX8_isDigit wsX8_isDigit ({ frames := 0, cells := 0, slots := 0, locals := 0 } : Room) (va_Pc [.int l0] (ub_pc D cI cT (udX8_isDigit cI) sz)) (va_Qi (fun (r' : Int32) (_ : Unit) => r' = rr) (fun _ t => ub_pq D (udX8_isDigit cI) (va_A (udX8_isDigit cI) sz) t) (va_A (udX8_isDigit cI) sz)) 0 0 (va_A (udX8_isDigit cI) sz) :=
  ub_met_i (by decide +kernel) rfl (Nat.le_of_ble_eq_true rfl) fun _ _ _ _ _ _ _ _ _ _ K hret _ hl hP hD hS => uwX8_isDigit_E K hret h hl hP hD hS
-- J6_bitCount_0f7a4
def udJ6_bitCount_0f7a4 (cI : ClassId) : va_W := []
def ufJ6_bitCount_0f7a4 (l0 : Int32) : Option (Int32) :=
  ub_nm (l0 - (((Int32.toUInt32 l0 >>> (Int32.toUInt32 1 &&& Int32.toUInt32 31)).toInt32) &&& 1431655765)) fun x_1 =>
  ub_nm ((x_1 &&& 858993459) + (((Int32.toUInt32 x_1 >>> (Int32.toUInt32 2 &&& Int32.toUInt32 31)).toInt32) &&& 858993459)) fun x_2 =>
  ub_nm ((x_2 + ((Int32.toUInt32 x_2 >>> (Int32.toUInt32 4 &&& Int32.toUInt32 31)).toInt32)) &&& 252645135) fun x_3 =>
  ub_nm (x_3 + ((Int32.toUInt32 x_3 >>> (Int32.toUInt32 8 &&& Int32.toUInt32 31)).toInt32)) fun x_4 =>
  ub_nm (x_4 + ((Int32.toUInt32 x_4 >>> (Int32.toUInt32 16 &&& Int32.toUInt32 31)).toInt32)) fun x_5 =>
  some (x_5 &&& 63)
theorem uvJ6_bitCount_0f7a4_1 : Cond.constant RJ6 265 (1431655765) ∈ wsJ6_bitCount_0f7a4 := List.mem_cons_of_mem _ us_m538
theorem uvJ6_bitCount_0f7a4_2 : Cond.constant RJ6 266 (858993459) ∈ wsJ6_bitCount_0f7a4 := List.mem_cons_of_mem _ us_m539
theorem uvJ6_bitCount_0f7a4_3 : Cond.constant RJ6 267 (252645135) ∈ wsJ6_bitCount_0f7a4 := List.mem_cons_of_mem _ us_m540
theorem uhJ6_bitCount_0f7a4 : yJ6_bitCount_0f7a4.cls ≠ "java/lang/invoke/MethodHandle" ∧ yJ6_bitCount_0f7a4.cls ≠ "java/lang/invoke/VarHandle" ∧ (parseMethodDescriptor yJ6_bitCount_0f7a4.desc).map (fun d => d.parameters.length) = some 1 := by decide +kernel
set_option maxHeartbeats 4000000 in
set_option maxRecDepth 100000 in
theorem uwJ6_bitCount_0f7a4_E {p : Program} {l : Launch} {e : Env} {s : State} {m : MethodId} {args : Array Value} {below : List Frame} {meth : Method} {c : Code} {Q : State → Prop} {D : va_G} {cI cT : ClassId} {A : Nat → Prop} (K : ub_kx p s m args meth c cJ6_bitCount_0f7a4 1 RJ6 wsJ6_bitCount_0f7a4 D cI cT A) {l0 : Int32} {rr : Int32} (hret : ∀ (H : Heap) (locs : List Loc) (pc : Nat) (ls : Array Slot), decode cJ6_bitCount_0f7a4 pc = .ok (.ireturn, 1) → narrow .int (.int rr) = .int rr → va_P D vwCl (udJ6_bitCount_0f7a4 cI) H → va_D A (udJ6_bitCount_0f7a4 cI) → va_S A s.heap H locs → W p l e ({ frames := 0, cells := 0, slots := 0, locals := 0 } : Room) s m args below meth c H locs 0 0 Q (F0 m pc ls [.int rr])) (h : ufJ6_bitCount_0f7a4 l0 = some rr) {H : Heap} {locs : List Loc} {ls : Array Slot} (hl : lv_has ls 1 [(0, .int l0)]) (hP : va_P D vwCl (udJ6_bitCount_0f7a4 cI) H) (hD : va_D A (udJ6_bitCount_0f7a4 cI)) (hS : va_S A s.heap H locs) : W p l e ({ frames := 0, cells := 0, slots := 0, locals := 0 } : Room) s m args below meth c H locs 0 0 Q (F0 m 0 ls []) := by
  have K0 := K
  obtain ⟨hx, hb, hml, hown, hts, hK, hN, hA⟩ := K
  unfold ufJ6_bitCount_0f7a4 at h
  refine lv_iload_n hx hb dJ6_bitCount_0f7a4_0 rfl (lv_at hl 0 rfl) ?_
  refine lv_iload_n hx hb dJ6_bitCount_0f7a4_1 rfl (lv_at hl 0 rfl) ?_
  refine lv_iconst (v := 1) hx hb dJ6_bitCount_0f7a4_2 (by decide) ?_
  refine lv_iushr hx hb dJ6_bitCount_0f7a4_3 rfl ?_
  refine lv_ldcw (v := 1431655765) hx hb hown (hts _ uvJ6_bitCount_0f7a4_1) dJ6_bitCount_0f7a4_4 ?_
  refine lv_iand hx hb dJ6_bitCount_0f7a4_7 ?_
  refine lv_isub hx hb dJ6_bitCount_0f7a4_8 ?_
  obtain ⟨x_1, ex_1, h⟩ := ub_nm_some h
  refine ub_topi ex_1 ?_
  refine lv_istore_n (lv' := [(0, .int x_1)]) hx hb dJ6_bitCount_0f7a4_9 rfl hl (by decide) rfl (fun ls hl => ?_)
  refine lv_iload_n hx hb dJ6_bitCount_0f7a4_10 rfl (lv_at hl 0 rfl) ?_
  refine lv_ldcw (v := 858993459) hx hb hown (hts _ uvJ6_bitCount_0f7a4_2) dJ6_bitCount_0f7a4_11 ?_
  refine lv_iand hx hb dJ6_bitCount_0f7a4_14 ?_
  refine lv_iload_n hx hb dJ6_bitCount_0f7a4_15 rfl (lv_at hl 0 rfl) ?_
  refine lv_iconst (v := 2) hx hb dJ6_bitCount_0f7a4_16 (by decide) ?_
  refine lv_iushr hx hb dJ6_bitCount_0f7a4_17 rfl ?_
  refine lv_ldcw (v := 858993459) hx hb hown (hts _ uvJ6_bitCount_0f7a4_2) dJ6_bitCount_0f7a4_18 ?_
  refine lv_iand hx hb dJ6_bitCount_0f7a4_21 ?_
  refine lv_iadd hx hb dJ6_bitCount_0f7a4_22 ?_
  obtain ⟨x_2, ex_2, h⟩ := ub_nm_some h
  refine ub_topi ex_2 ?_
  refine lv_istore_n (lv' := [(0, .int x_2)]) hx hb dJ6_bitCount_0f7a4_23 rfl hl (by decide) rfl (fun ls hl => ?_)
  refine lv_iload_n hx hb dJ6_bitCount_0f7a4_24 rfl (lv_at hl 0 rfl) ?_
  refine lv_iload_n hx hb dJ6_bitCount_0f7a4_25 rfl (lv_at hl 0 rfl) ?_
  refine lv_iconst (v := 4) hx hb dJ6_bitCount_0f7a4_26 (by decide) ?_
  refine lv_iushr hx hb dJ6_bitCount_0f7a4_27 rfl ?_
  refine lv_iadd hx hb dJ6_bitCount_0f7a4_28 ?_
  refine lv_ldcw (v := 252645135) hx hb hown (hts _ uvJ6_bitCount_0f7a4_3) dJ6_bitCount_0f7a4_29 ?_
  refine lv_iand hx hb dJ6_bitCount_0f7a4_32 ?_
  obtain ⟨x_3, ex_3, h⟩ := ub_nm_some h
  refine ub_topi ex_3 ?_
  refine lv_istore_n (lv' := [(0, .int x_3)]) hx hb dJ6_bitCount_0f7a4_33 rfl hl (by decide) rfl (fun ls hl => ?_)
  refine lv_iload_n hx hb dJ6_bitCount_0f7a4_34 rfl (lv_at hl 0 rfl) ?_
  refine lv_iload_n hx hb dJ6_bitCount_0f7a4_35 rfl (lv_at hl 0 rfl) ?_
  refine lv_bipush (v := 8) hx hb dJ6_bitCount_0f7a4_36 (by decide) ?_
  refine lv_iushr hx hb dJ6_bitCount_0f7a4_38 rfl ?_
  refine lv_iadd hx hb dJ6_bitCount_0f7a4_39 ?_
  obtain ⟨x_4, ex_4, h⟩ := ub_nm_some h
  refine ub_topi ex_4 ?_
  refine lv_istore_n (lv' := [(0, .int x_4)]) hx hb dJ6_bitCount_0f7a4_40 rfl hl (by decide) rfl (fun ls hl => ?_)
  refine lv_iload_n hx hb dJ6_bitCount_0f7a4_41 rfl (lv_at hl 0 rfl) ?_
  refine lv_iload_n hx hb dJ6_bitCount_0f7a4_42 rfl (lv_at hl 0 rfl) ?_
  refine lv_bipush (v := 16) hx hb dJ6_bitCount_0f7a4_43 (by decide) ?_
  refine lv_iushr hx hb dJ6_bitCount_0f7a4_45 rfl ?_
  refine lv_iadd hx hb dJ6_bitCount_0f7a4_46 ?_
  obtain ⟨x_5, ex_5, h⟩ := ub_nm_some h
  refine ub_topi ex_5 ?_
  refine lv_istore_n (lv' := [(0, .int x_5)]) hx hb dJ6_bitCount_0f7a4_47 rfl hl (by decide) rfl (fun ls hl => ?_)
  refine lv_iload_n hx hb dJ6_bitCount_0f7a4_48 rfl (lv_at hl 0 rfl) ?_
  refine lv_bipush (v := 63) hx hb dJ6_bitCount_0f7a4_49 (by decide) ?_
  refine lv_iand hx hb dJ6_bitCount_0f7a4_51 ?_
  cases h
  exact hret H locs _ ls dJ6_bitCount_0f7a4_52 rfl hP hD hS
set_option maxHeartbeats 4000000 in
set_option maxRecDepth 100000 in
theorem ucJ6_bitCount_0f7a4 (l : Launch) (D : va_G) (cI cT : ClassId) {l0 : Int32} {rr : Int32} {sz : Nat} (h : ufJ6_bitCount_0f7a4 l0 = some rr) : Met l yJ6_bitCount_0f7a4 wsJ6_bitCount_0f7a4 ({ frames := 0, cells := 0, slots := 0, locals := 0 } : Room) (va_Pc [.int l0] (ub_pc D cI cT (udJ6_bitCount_0f7a4 cI) sz)) (va_Qi (fun (r' : Int32) (_ : Unit) => r' = rr) (fun _ t => ub_pq D (udJ6_bitCount_0f7a4 cI) (va_A (udJ6_bitCount_0f7a4 cI) sz) t) (va_A (udJ6_bitCount_0f7a4 cI) sz)) 0 0 (va_A (udJ6_bitCount_0f7a4 cI) sz) :=
  ub_met_i (by decide +kernel) rfl (Nat.le_of_ble_eq_true rfl) fun _ _ _ _ _ _ _ _ _ _ K hret _ hl hP hD hS => uwJ6_bitCount_0f7a4_E K hret h hl hP hD hS
-- J9_floorMod_7cf53
def udJ9_floorMod_7cf53 (cI : ClassId) : va_W := []
def ufJ9_floorMod_7cf53 (l0 : Int32) (l1 : Int32) : Option (Int32) :=
  ub_nz l1 <|
  if 0 ≤ (l0 ^^^ l1) then
    some (l0 - l0 / l1 * l1)
  else
    if (l0 - l0 / l1 * l1) = 0 then
      some (l0 - l0 / l1 * l1)
    else
      some ((l0 - l0 / l1 * l1) + l1)
theorem uhJ9_floorMod_7cf53 : yJ9_floorMod_7cf53.cls ≠ "java/lang/invoke/MethodHandle" ∧ yJ9_floorMod_7cf53.cls ≠ "java/lang/invoke/VarHandle" ∧ (parseMethodDescriptor yJ9_floorMod_7cf53.desc).map (fun d => d.parameters.length) = some 2 := by decide +kernel
set_option maxHeartbeats 4000000 in
set_option maxRecDepth 100000 in
theorem uwJ9_floorMod_7cf53_E {p : Program} {l : Launch} {e : Env} {s : State} {m : MethodId} {args : Array Value} {below : List Frame} {meth : Method} {c : Code} {Q : State → Prop} {D : va_G} {cI cT : ClassId} {A : Nat → Prop} (K : ub_kx p s m args meth c cJ9_floorMod_7cf53 3 RJ9 wsJ9_floorMod_7cf53 D cI cT A) {l0 : Int32} {l1 : Int32} {rr : Int32} (hret : ∀ (H : Heap) (locs : List Loc) (pc : Nat) (ls : Array Slot), decode cJ9_floorMod_7cf53 pc = .ok (.ireturn, 1) → narrow .int (.int rr) = .int rr → va_P D vwCl (udJ9_floorMod_7cf53 cI) H → va_D A (udJ9_floorMod_7cf53 cI) → va_S A s.heap H locs → W p l e ({ frames := 0, cells := 0, slots := 0, locals := 0 } : Room) s m args below meth c H locs 0 0 Q (F0 m pc ls [.int rr])) (h : ufJ9_floorMod_7cf53 l0 l1 = some rr) {H : Heap} {locs : List Loc} {ls : Array Slot} (hl : lv_has ls 3 [(0, .int l0), (1, .int l1)]) (hP : va_P D vwCl (udJ9_floorMod_7cf53 cI) H) (hD : va_D A (udJ9_floorMod_7cf53 cI)) (hS : va_S A s.heap H locs) : W p l e ({ frames := 0, cells := 0, slots := 0, locals := 0 } : Room) s m args below meth c H locs 0 0 Q (F0 m 0 ls []) := by
  have K0 := K
  obtain ⟨hx, hb, hml, hown, hts, hK, hN, hA⟩ := K
  unfold ufJ9_floorMod_7cf53 at h
  refine lv_iload_n hx hb dJ9_floorMod_7cf53_0 rfl (lv_at hl 0 rfl) ?_
  refine lv_iload_n hx hb dJ9_floorMod_7cf53_1 rfl (lv_at hl 1 rfl) ?_
  obtain ⟨hz2, h⟩ := ub_nz_some h
  refine lv_irem hx hb dJ9_floorMod_7cf53_2 hz2 ?_
  refine lv_istore_n (lv' := [(2, .int (l0 - l0 / l1 * l1)), (0, .int l0), (1, .int l1)]) hx hb dJ9_floorMod_7cf53_3 rfl hl (by decide) rfl (fun ls hl => ?_)
  refine lv_iload_n hx hb dJ9_floorMod_7cf53_4 rfl (lv_at hl 1 rfl) ?_
  refine lv_iload_n hx hb dJ9_floorMod_7cf53_5 rfl (lv_at hl 2 rfl) ?_
  refine lv_ixor hx hb dJ9_floorMod_7cf53_6 ?_
  refine lv_if_ge (tgt := 18) hx hb dJ9_floorMod_7cf53_7 (by decide) (fun c7 => ?_) (fun c7 => ?_)
  · have h := ub_if_t c7 h
    refine lv_iload_n hx hb dJ9_floorMod_7cf53_18 rfl (lv_at hl 0 rfl) ?_
    cases h
    exact hret H locs _ ls dJ9_floorMod_7cf53_19 rfl hP hD hS
  · have h := ub_if_f c7 h
    refine lv_iload_n hx hb dJ9_floorMod_7cf53_10 rfl (lv_at hl 0 rfl) ?_
    refine lv_if_eq (tgt := 18) hx hb dJ9_floorMod_7cf53_11 (by decide) (fun c11 => ?_) (fun c11 => ?_)
    · have h := ub_if_t c11 h
      refine lv_iload_n hx hb dJ9_floorMod_7cf53_18 rfl (lv_at hl 0 rfl) ?_
      cases h
      exact hret H locs _ ls dJ9_floorMod_7cf53_19 rfl hP hD hS
    · have h := ub_if_f c11 h
      refine lv_iload_n hx hb dJ9_floorMod_7cf53_14 rfl (lv_at hl 0 rfl) ?_
      refine lv_iload_n hx hb dJ9_floorMod_7cf53_15 rfl (lv_at hl 2 rfl) ?_
      refine lv_iadd hx hb dJ9_floorMod_7cf53_16 ?_
      cases h
      exact hret H locs _ ls dJ9_floorMod_7cf53_17 rfl hP hD hS
set_option maxHeartbeats 4000000 in
set_option maxRecDepth 100000 in
theorem ucJ9_floorMod_7cf53 (l : Launch) (D : va_G) (cI cT : ClassId) {l0 : Int32} {l1 : Int32} {rr : Int32} {sz : Nat} (h : ufJ9_floorMod_7cf53 l0 l1 = some rr) : Met l yJ9_floorMod_7cf53 wsJ9_floorMod_7cf53 ({ frames := 0, cells := 0, slots := 0, locals := 0 } : Room) (va_Pc [.int l0, .int l1] (ub_pc D cI cT (udJ9_floorMod_7cf53 cI) sz)) (va_Qi (fun (r' : Int32) (_ : Unit) => r' = rr) (fun _ t => ub_pq D (udJ9_floorMod_7cf53 cI) (va_A (udJ9_floorMod_7cf53 cI) sz) t) (va_A (udJ9_floorMod_7cf53 cI) sz)) 0 0 (va_A (udJ9_floorMod_7cf53 cI) sz) :=
  ub_met_iF (by decide +kernel) rfl (Nat.le_of_ble_eq_true rfl) fun _ _ _ _ _ _ _ _ _ _ K hret _ hl hP hD hS => uwJ9_floorMod_7cf53_E K hret h hl hP hD hS
