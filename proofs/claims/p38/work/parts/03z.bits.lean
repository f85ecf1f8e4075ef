-- X9_next
def udX9_next (cI : ClassId) (h0 : Nat) (ym_bits : Int32) : va_W := [(h0, .inr (11, [.int ym_bits]))]
def ufX9_next (ym_bits : Int32) (l1 : Int32) : Option (Int32 × Int32) :=
  ub_nm ((ym_bits * 1103515245) + 12345) fun x_1 =>
  ub_nz l1 <|
  ub_nm (((Int32.toUInt32 x_1 >>> (Int32.toUInt32 16 &&& Int32.toUInt32 31)).toInt32) - ((Int32.toUInt32 x_1 >>> (Int32.toUInt32 16 &&& Int32.toUInt32 31)).toInt32) / l1 * l1) fun x_2 =>
  some (x_2, x_1)
theorem uvX9_next_1 : Cond.fieldLink RX9 7 "UnheardBellsLaw$Bits" "bits" "I" ∈ wsX9_next := List.mem_cons_of_mem _ us_m783
theorem uvX9_next_2 : Cond.constant RX9 13 (1103515245) ∈ wsX9_next := List.mem_cons_of_mem _ us_m791
theorem uiX9_next_X9 : ∀ w ∈ u_ws RX9 TX9 1, w ∈ wsX9_next := fun w h => List.mem_cons_of_mem _ (us_inX9 w h)
theorem uhX9_next : yX9_next.cls ≠ "java/lang/invoke/MethodHandle" ∧ yX9_next.cls ≠ "java/lang/invoke/VarHandle" ∧ (parseMethodDescriptor yX9_next.desc).map (fun d => d.parameters.length) = some 1 := by decide +kernel
set_option maxHeartbeats 4000000 in
set_option maxRecDepth 100000 in
theorem uwX9_next_E {p : Program} {l : Launch} {e : Env} {s : State} {m : MethodId} {args : Array Value} {below : List Frame} {meth : Method} {c : Code} {Q : State → Prop} {D : va_G} {cI cT : ClassId} {A : Nat → Prop} (K : ub_kx p s m args meth c cX9_next 2 RX9 wsX9_next D cI cT A) {h0 : Nat} {ym_bits : Int32} {l1 : Int32} {rr : Int32} {w_ym_bits : Int32} (hret : ∀ (H : Heap) (locs : List Loc) (pc : Nat) (ls : Array Slot), decode cX9_next pc = .ok (.ireturn, 1) → narrow .int (.int rr) = .int rr → va_P D vwCl (udX9_next cI h0 w_ym_bits) H → va_D A (udX9_next cI h0 w_ym_bits) → va_S A s.heap H locs → W p l e ({ frames := 0, cells := 0, slots := 0, locals := 0 } : Room) s m args below meth c H locs 0 0 Q (F0 m pc ls [.int rr])) (h : ufX9_next ym_bits l1 = some (rr, w_ym_bits)) {H : Heap} {locs : List Loc} {ls : Array Slot} (hl : lv_has ls 2 [(0, .ref h0), (1, .int l1)]) (hP : va_P D vwCl (udX9_next cI h0 ym_bits) H) (hD : va_D A (udX9_next cI h0 ym_bits)) (hS : va_S A s.heap H locs) : W p l e ({ frames := 0, cells := 0, slots := 0, locals := 0 } : Room) s m args below meth c H locs 0 0 Q (F0 m 0 ls []) := by
  have K0 := K
  obtain ⟨hx, hb, hml, hown, hts, hK, hN, hA⟩ := K
  unfold ufX9_next at h
  refine lv_aload_n hx hb dX9_next_0 rfl (lv_at hl 0 rfl) ?_
  refine lv_aload_n hx hb dX9_next_1 rfl (lv_at hl 0 rfl) ?_
  refine va_get (ci := 11) (v := .int ym_bits) (C := RX9) (T := TX9) (N := 1) hx hb hts uiX9_next_X9 hown hK hP 0 rfl rfl 0 (by decide) (hts _ uvX9_next_1) (fun _ h9 => h9) rfl dX9_next_2 ?_
  refine lv_ldc (v := 1103515245) hx hb hown (hts _ uvX9_next_2) dX9_next_5 ?_
  refine lv_imul hx hb dX9_next_7 ?_
  refine lv_sipush (v := 12345) hx hb dX9_next_8 (by decide) ?_
  refine lv_iadd hx hb dX9_next_11 ?_
  obtain ⟨x_1, ex_1, h⟩ := ub_nm_some h
  refine ub_topi ex_1 ?_
  refine ub_put (ws' := (udX9_next cI h0 x_1)) (ci := 11) (C := RX9) (T := TX9) (N := 1) hx hb hts uiX9_next_X9 tyX9 tyX9_ok nmX9 hown hK hP hD hS 0 0 (v := .int x_1) (ty := tyX9 0) rfl rfl (by decide) (hts _ uvX9_next_1) (fun _ h9 => h9) rfl (tyX9_ok 0 (by decide)) rfl rfl (Nat.le_of_ble_eq_true rfl) rfl dX9_next_12 (fun H locs hP hD hS => ?_)
  refine lv_aload_n hx hb dX9_next_15 rfl (lv_at hl 0 rfl) ?_
  refine va_get (ci := 11) (v := .int x_1) (C := RX9) (T := TX9) (N := 1) hx hb hts uiX9_next_X9 hown hK hP 0 rfl rfl 0 (by decide) (hts _ uvX9_next_1) (fun _ h9 => h9) rfl dX9_next_16 ?_
  refine lv_bipush (v := 16) hx hb dX9_next_19 (by decide) ?_
  refine lv_iushr hx hb dX9_next_21 rfl ?_
  refine lv_iload_n hx hb dX9_next_22 rfl (lv_at hl 1 rfl) ?_
  obtain ⟨hz23, h⟩ := ub_nz_some h
  refine lv_irem hx hb dX9_next_23 hz23 ?_
  obtain ⟨x_2, ex_2, h⟩ := ub_nm_some h
  refine ub_topi ex_2 ?_
  cases h
  exact hret H locs _ ls dX9_next_24 rfl hP hD hS
set_option maxHeartbeats 4000000 in
set_option maxRecDepth 100000 in
theorem ucX9_next (l : Launch) (D : va_G) (cI cT : ClassId) {h0 : Nat} {l1 : Int32} {rr : Int32} {w_ym_bits : Int32} {ym_bits : Int32} {sz : Nat} (h : ufX9_next ym_bits l1 = some (rr, w_ym_bits)) : Met l yX9_next wsX9_next ({ frames := 0, cells := 0, slots := 0, locals := 0 } : Room) (va_Pc [.ref h0, .int l1] (ub_pc D cI cT (udX9_next cI h0 ym_bits) sz)) (va_Qi (fun (r' : Int32) (_ : Unit) => r' = rr) (fun _ t => ub_pq D (udX9_next cI h0 w_ym_bits) (va_A (udX9_next cI h0 ym_bits) sz) t) (va_A (udX9_next cI h0 ym_bits) sz)) 0 0 (va_A (udX9_next cI h0 ym_bits) sz) :=
  ub_met_i (by decide +kernel) rfl (Nat.le_of_ble_eq_true rfl) fun _ _ _ _ _ _ _ _ _ _ K hret _ hl hP hD hS => uwX9_next_E K hret h hl hP hD hS
