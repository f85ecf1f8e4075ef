-- X0_copyFrom
def udX0_copyFrom (cI : ClassId) (h0 : Nat) (h1 : Nat) (h2 : Nat) (h3 : Nat) (h4 : Nat) (h5 : Nat) (h6 : Nat) (h7 : Nat) (h8 : Nat) (h9 : Nat) (ym_number : Int32) (ym_latest : Int32) (ym_day : Nat → Int32) (ym_hour : Nat → Int32) (ym_rope : Nat → Int32) (ym_strength : Nat → Int32) (yo_number : Int32) (yo_latest : Int32) (yo_day : Nat → Int32) (yo_hour : Nat → Int32) (yo_rope : Nat → Int32) (yo_strength : Nat → Int32) : va_W := [(h0, .inr (2, [.int ym_number, .int ym_latest, .ref h3, .ref h2, .ref h1, .ref h4])), (h1, .inl (cI, 20, .inl ym_day)), (h2, .inl (cI, 20, .inl ym_hour)), (h3, .inl (cI, 20, .inl ym_rope)), (h4, .inl (cI, 20, .inl ym_strength)), (h5, .inr (2, [.int yo_number, .int yo_latest, .ref h8, .ref h7, .ref h6, .ref h9])), (h6, .inl (cI, 20, .inl yo_day)), (h7, .inl (cI, 20, .inl yo_hour)), (h8, .inl (cI, 20, .inl yo_rope)), (h9, .inl (cI, 20, .inl yo_strength))]
def ufX0_copyFrom (ym_latest : Int32) (ym_number : Int32) (ym_day : Nat → Int32) (ym_hour : Nat → Int32) (ym_rope : Nat → Int32) (ym_strength : Nat → Int32) (yo_latest : Int32) (yo_number : Int32) (yo_day : Nat → Int32) (yo_hour : Nat → Int32) (yo_rope : Nat → Int32) (yo_strength : Nat → Int32) : Option (Int32 × Int32 × (Nat → Int32) × (Nat → Int32) × (Nat → Int32) × (Nat → Int32)) :=
  ub_b1 (ufX8_copy 20 20 yo_rope ym_rope) fun ym_rope_1 =>
  ub_b1 (ufX8_copy 20 20 yo_hour ym_hour) fun ym_hour_2 =>
  ub_b1 (ufX8_copy 20 20 yo_day ym_day) fun ym_day_3 =>
  ub_b1 (ufX8_copy 20 20 yo_strength ym_strength) fun ym_strength_4 =>
  some (yo_latest, yo_number, ym_day_3, ym_hour_2, ym_rope_1, ym_strength_4)
theorem uvX0_copyFrom_1 : Cond.fieldLink RX0 24 "UnheardBells$Answers" "number" "I" ∈ wsX0_copyFrom := List.mem_cons_of_mem _ us_m149
theorem uvX0_copyFrom_2 : Cond.fieldLink RX0 28 "UnheardBells$Answers" "latest" "I" ∈ wsX0_copyFrom := List.mem_cons_of_mem _ us_m151
theorem uvX0_copyFrom_3 : Cond.fieldLink RX0 9 "UnheardBells$Answers" "rope" "[I" ∈ wsX0_copyFrom := List.mem_cons_of_mem _ us_m152
theorem uvX0_copyFrom_8 : Cond.initialized RX8 ∈ wsX0_copyFrom := List.mem_cons_of_mem _ us_m40
theorem uvX0_copyFrom_7 : Cond.static yX8_copy ∈ wsX0_copyFrom := List.mem_cons_of_mem _ us_m345
theorem uvX0_copyFrom_4 : Cond.fieldLink RX0 15 "UnheardBells$Answers" "hour" "[I" ∈ wsX0_copyFrom := List.mem_cons_of_mem _ us_m154
theorem uvX0_copyFrom_5 : Cond.fieldLink RX0 18 "UnheardBells$Answers" "day" "[I" ∈ wsX0_copyFrom := List.mem_cons_of_mem _ us_m156
theorem uvX0_copyFrom_6 : Cond.fieldLink RX0 21 "UnheardBells$Answers" "strength" "[I" ∈ wsX0_copyFrom := List.mem_cons_of_mem _ us_m158
theorem uiX0_copyFrom_X0 : ∀ w ∈ u_ws RX0 TX0 6, w ∈ wsX0_copyFrom := fun w h => List.mem_cons_of_mem _ (us_inX0 w h)
theorem uhX0_copyFrom : yX0_copyFrom.cls ≠ "java/lang/invoke/MethodHandle" ∧ yX0_copyFrom.cls ≠ "java/lang/invoke/VarHandle" ∧ (parseMethodDescriptor yX0_copyFrom.desc).map (fun d => d.parameters.length) = some 1 := by decide +kernel
set_option maxHeartbeats 4000000 in
set_option maxRecDepth 100000 in
theorem uwX0_copyFrom_E {p : Program} {l : Launch} {e : Env} {s : State} {m : MethodId} {args : Array Value} {below : List Frame} {meth : Method} {c : Code} {Q : State → Prop} {D : va_G} {cI cT : ClassId} {A : Nat → Prop} (K : ub_kx p s m args meth c cX0_copyFrom 2 RX0 wsX0_copyFrom D cI cT A) {h0 h1 h2 h3 h4 h5 h6 h7 h8 h9 : Nat} {ym_number : Int32} {ym_latest : Int32} {ym_day : (Nat → Int32)} {ym_hour : (Nat → Int32)} {ym_rope : (Nat → Int32)} {ym_strength : (Nat → Int32)} {yo_number : Int32} {yo_latest : Int32} {yo_day : (Nat → Int32)} {yo_hour : (Nat → Int32)} {yo_rope : (Nat → Int32)} {yo_strength : (Nat → Int32)} {w_ym_latest : Int32} {w_ym_number : Int32} {w_ym_day : (Nat → Int32)} {w_ym_hour : (Nat → Int32)} {w_ym_rope : (Nat → Int32)} {w_ym_strength : (Nat → Int32)} (hret : ∀ (H : Heap) (locs : List Loc) (pc : Nat) (ls : Array Slot), decode cX0_copyFrom pc = .ok (.return_, 1) → va_P D vwCl (udX0_copyFrom cI h0 h1 h2 h3 h4 h5 h6 h7 h8 h9 w_ym_number w_ym_latest w_ym_day w_ym_hour w_ym_rope w_ym_strength yo_number yo_latest yo_day yo_hour yo_rope yo_strength) H → va_D A (udX0_copyFrom cI h0 h1 h2 h3 h4 h5 h6 h7 h8 h9 w_ym_number w_ym_latest w_ym_day w_ym_hour w_ym_rope w_ym_strength yo_number yo_latest yo_day yo_hour yo_rope yo_strength) → va_S A s.heap H locs → W p l e ({ frames := 2, cells := 0, slots := 0, locals := 47 } : Room) s m args below meth c H locs 0 0 Q (F0 m pc ls [])) (h : ufX0_copyFrom ym_latest ym_number ym_day ym_hour ym_rope ym_strength yo_latest yo_number yo_day yo_hour yo_rope yo_strength = some (w_ym_latest, w_ym_number, w_ym_day, w_ym_hour, w_ym_rope, w_ym_strength)) {H : Heap} {locs : List Loc} {ls : Array Slot} (hl : lv_has ls 2 [(0, .ref h0), (1, .ref h5)]) (hP : va_P D vwCl (udX0_copyFrom cI h0 h1 h2 h3 h4 h5 h6 h7 h8 h9 ym_number ym_latest ym_day ym_hour ym_rope ym_strength yo_number yo_latest yo_day yo_hour yo_rope yo_strength) H) (hD : va_D A (udX0_copyFrom cI h0 h1 h2 h3 h4 h5 h6 h7 h8 h9 ym_number ym_latest ym_day ym_hour ym_rope ym_strength yo_number yo_latest yo_day yo_hour yo_rope yo_strength)) (hS : va_S A s.heap H locs) : W p l e ({ frames := 2, cells := 0, slots := 0, locals := 47 } : Room) s m args below meth c H locs 0 0 Q (F0 m 0 ls []) := by
  have K0 := K
  obtain ⟨hx, hb, hml, hown, hts, hK, hN, hA⟩ := K
  unfold ufX0_copyFrom at h
  refine lv_aload_n hx hb dX0_copyFrom_0 rfl (lv_at hl 0 rfl) ?_
  refine lv_aload_n hx hb dX0_copyFrom_1 rfl (lv_at hl 1 rfl) ?_
  refine va_get (ci := 2) (v := .int yo_number) (C := RX0) (T := TX0) (N := 6) hx hb hts uiX0_copyFrom_X0 hown hK hP 5 rfl rfl 0 (by decide) (hts _ uvX0_copyFrom_1) (fun _ h9 => h9) rfl dX0_copyFrom_2 ?_
  refine ub_put (ws' := (udX0_copyFrom cI h0 h1 h2 h3 h4 h5 h6 h7 h8 h9 yo_number ym_latest ym_day ym_hour ym_rope ym_strength yo_number yo_latest yo_day yo_hour yo_rope yo_strength)) (ci := 2) (C := RX0) (T := TX0) (N := 6) hx hb hts uiX0_copyFrom_X0 tyX0 tyX0_ok nmX0 hown hK hP hD hS 0 0 (v := .int yo_number) (ty := tyX0 0) rfl rfl (by decide) (hts _ uvX0_copyFrom_1) (fun _ h9 => h9) rfl (tyX0_ok 0 (by decide)) rfl rfl (Nat.le_of_ble_eq_true rfl) rfl dX0_copyFrom_5 (fun H locs hP hD hS => ?_)
  refine lv_aload_n hx hb dX0_copyFrom_8 rfl (lv_at hl 0 rfl) ?_
  refine lv_aload_n hx hb dX0_copyFrom_9 rfl (lv_at hl 1 rfl) ?_
  refine va_get (ci := 2) (v := .int yo_latest) (C := RX0) (T := TX0) (N := 6) hx hb hts uiX0_copyFrom_X0 hown hK hP 5 rfl rfl 1 (by decide) (hts _ uvX0_copyFrom_2) (fun _ h9 => h9) rfl dX0_copyFrom_10 ?_
  refine ub_put (ws' := (udX0_copyFrom cI h0 h1 h2 h3 h4 h5 h6 h7 h8 h9 yo_number yo_latest ym_day ym_hour ym_rope ym_strength yo_number yo_latest yo_day yo_hour yo_rope yo_strength)) (ci := 2) (C := RX0) (T := TX0) (N := 6) hx hb hts uiX0_copyFrom_X0 tyX0 tyX0_ok nmX0 hown hK hP hD hS 0 1 (v := .int yo_latest) (ty := tyX0 1) rfl rfl (by decide) (hts _ uvX0_copyFrom_2) (fun _ h9 => h9) rfl (tyX0_ok 1 (by decide)) rfl rfl (Nat.le_of_ble_eq_true rfl) rfl dX0_copyFrom_13 (fun H locs hP hD hS => ?_)
  refine lv_aload_n hx hb dX0_copyFrom_16 rfl (lv_at hl 1 rfl) ?_
  refine va_get (ci := 2) (v := .ref h8) (C := RX0) (T := TX0) (N := 6) hx hb hts uiX0_copyFrom_X0 hown hK hP 5 rfl rfl 2 (by decide) (hts _ uvX0_copyFrom_3) (fun _ h9 => h9) rfl dX0_copyFrom_17 ?_
  refine lv_aload_n hx hb dX0_copyFrom_20 rfl (lv_at hl 0 rfl) ?_
  refine va_get (ci := 2) (v := .ref h3) (C := RX0) (T := TX0) (N := 6) hx hb hts uiX0_copyFrom_X0 hown hK hP 0 rfl rfl 2 (by decide) (hts _ uvX0_copyFrom_3) (fun _ h9 => h9) rfl dX0_copyFrom_21 ?_
  obtain ⟨ym_rope_1, hc24, h⟩ := ub_b1_some h
  have hPc : va_P D vwCl (udX8_copy cI 20 20 h8 h3 yo_rope ym_rope) H := ub_pickP hP [8, 3] rfl
  have hDc : va_D A (udX8_copy cI 20 20 h8 h3 yo_rope ym_rope) := hD.sub [8, 3] (by decide) rfl
  refine ub_callv (ws' := (udX0_copyFrom cI h0 h1 h2 h3 h4 h5 h6 h7 h8 h9 yo_number yo_latest ym_day ym_hour ym_rope_1 ym_strength yo_number yo_latest yo_day yo_hour yo_rope yo_strength)) (va_runSN (As := [.ref h8, .ref h3]) (rest := []) ⟨hx, hb, hml, hown, hts⟩ (ucX8_copy l D cI cT hc24) ⟨va_cnB 2 hts gX0_copyFrom_X8_copy_n31 rfl rfl rfl (hN.at 11 rfl) (hts _ uvX0_copyFrom_8) uhX8_copy ⟨Nat.le_of_ble_eq_true rfl, Nat.le_of_ble_eq_true rfl⟩, (hts _ uvX0_copyFrom_7), trivial⟩ (ub_preS hPc hDc hK hN) rfl rfl hl.1 rfl (lv_room (Nat.le_of_ble_eq_true rfl)) dX0_copyFrom_24 ⟨Nat.le_of_ble_eq_true rfl, Nat.le_of_ble_eq_true rfl⟩) hP hD hS hA [8, 3] rfl (by decide) rfl rfl (fun H locs hP hD hS => ?_)
  refine lv_aload_n hx hb dX0_copyFrom_27 rfl (lv_at hl 1 rfl) ?_
  refine va_get (ci := 2) (v := .ref h7) (C := RX0) (T := TX0) (N := 6) hx hb hts uiX0_copyFrom_X0 hown hK hP 5 rfl rfl 3 (by decide) (hts _ uvX0_copyFrom_4) (fun _ h9 => h9) rfl dX0_copyFrom_28 ?_
  refine lv_aload_n hx hb dX0_copyFrom_31 rfl (lv_at hl 0 rfl) ?_
  refine va_get (ci := 2) (v := .ref h2) (C := RX0) (T := TX0) (N := 6) hx hb hts uiX0_copyFrom_X0 hown hK hP 0 rfl rfl 3 (by decide) (hts _ uvX0_copyFrom_4) (fun _ h9 => h9) rfl dX0_copyFrom_32 ?_
  obtain ⟨ym_hour_2, hc35, h⟩ := ub_b1_some h
  have hPc : va_P D vwCl (udX8_copy cI 20 20 h7 h2 yo_hour ym_hour) H := ub_pickP hP [7, 2] rfl
  have hDc : va_D A (udX8_copy cI 20 20 h7 h2 yo_hour ym_hour) := hD.sub [7, 2] (by decide) rfl
  refine ub_callv (ws' := (udX0_copyFrom cI h0 h1 h2 h3 h4 h5 h6 h7 h8 h9 yo_number yo_latest ym_day ym_hour_2 ym_rope_1 ym_strength yo_number yo_latest yo_day yo_hour yo_rope yo_strength)) (va_runSN (As := [.ref h7, .ref h2]) (rest := []) ⟨hx, hb, hml, hown, hts⟩ (ucX8_copy l D cI cT hc35) ⟨va_cnB 2 hts gX0_copyFrom_X8_copy_n31 rfl rfl rfl (hN.at 11 rfl) (hts _ uvX0_copyFrom_8) uhX8_copy ⟨Nat.le_of_ble_eq_true rfl, Nat.le_of_ble_eq_true rfl⟩, (hts _ uvX0_copyFrom_7), trivial⟩ (ub_preS hPc hDc hK hN) rfl rfl hl.1 rfl (lv_room (Nat.le_of_ble_eq_true rfl)) dX0_copyFrom_35 ⟨Nat.le_of_ble_eq_true rfl, Nat.le_of_ble_eq_true rfl⟩) hP hD hS hA [7, 2] rfl (by decide) rfl rfl (fun H locs hP hD hS => ?_)
  refine lv_aload_n hx hb dX0_copyFrom_38 rfl (lv_at hl 1 rfl) ?_
  refine va_get (ci := 2) (v := .ref h6) (C := RX0) (T := TX0) (N := 6) hx hb hts uiX0_copyFrom_X0 hown hK hP 5 rfl rfl 4 (by decide) (hts _ uvX0_copyFrom_5) (fun _ h9 => h9) rfl dX0_copyFrom_39 ?_
  refine lv_aload_n hx hb dX0_copyFrom_42 rfl (lv_at hl 0 rfl) ?_
  refine va_get (ci := 2) (v := .ref h1) (C := RX0) (T := TX0) (N := 6) hx hb hts uiX0_copyFrom_X0 hown hK hP 0 rfl rfl 4 (by decide) (hts _ uvX0_copyFrom_5) (fun _ h9 => h9) rfl dX0_copyFrom_43 ?_
  obtain ⟨ym_day_3, hc46, h⟩ := ub_b1_some h
  have hPc : va_P D vwCl (udX8_copy cI 20 20 h6 h1 yo_day ym_day) H := ub_pickP hP [6, 1] rfl
  have hDc : va_D A (udX8_copy cI 20 20 h6 h1 yo_day ym_day) := hD.sub [6, 1] (by decide) rfl
  refine ub_callv (ws' := (udX0_copyFrom cI h0 h1 h2 h3 h4 h5 h6 h7 h8 h9 yo_number yo_latest ym_day_3 ym_hour_2 ym_rope_1 ym_strength yo_number yo_latest yo_day yo_hour yo_rope yo_strength)) (va_runSN (As := [.ref h6, .ref h1]) (rest := []) ⟨hx, hb, hml, hown, hts⟩ (ucX8_copy l D cI cT hc46) ⟨va_cnB 2 hts gX0_copyFrom_X8_copy_n31 rfl rfl rfl (hN.at 11 rfl) (hts _ uvX0_copyFrom_8) uhX8_copy ⟨Nat.le_of_ble_eq_true rfl, Nat.le_of_ble_eq_true rfl⟩, (hts _ uvX0_copyFrom_7), trivial⟩ (ub_preS hPc hDc hK hN) rfl rfl hl.1 rfl (lv_room (Nat.le_of_ble_eq_true rfl)) dX0_copyFrom_46 ⟨Nat.le_of_ble_eq_true rfl, Nat.le_of_ble_eq_true rfl⟩) hP hD hS hA [6, 1] rfl (by decide) rfl rfl (fun H locs hP hD hS => ?_)
  refine lv_aload_n hx hb dX0_copyFrom_49 rfl (lv_at hl 1 rfl) ?_
  refine va_get (ci := 2) (v := .ref h9) (C := RX0) (T := TX0) (N := 6) hx hb hts uiX0_copyFrom_X0 hown hK hP 5 rfl rfl 5 (by decide) (hts _ uvX0_copyFrom_6) (fun _ h9 => h9) rfl dX0_copyFrom_50 ?_
  refine lv_aload_n hx hb dX0_copyFrom_53 rfl (lv_at hl 0 rfl) ?_
  refine va_get (ci := 2) (v := .ref h4) (C := RX0) (T := TX0) (N := 6) hx hb hts uiX0_copyFrom_X0 hown hK hP 0 rfl rfl 5 (by decide) (hts _ uvX0_copyFrom_6) (fun _ h9 => h9) rfl dX0_copyFrom_54 ?_
  obtain ⟨ym_strength_4, hc57, h⟩ := ub_b1_some h
  have hPc : va_P D vwCl (udX8_copy cI 20 20 h9 h4 yo_strength ym_strength) H := ub_pickP hP [9, 4] rfl
  have hDc : va_D A (udX8_copy cI 20 20 h9 h4 yo_strength ym_strength) := hD.sub [9, 4] (by decide) rfl
  refine ub_callv (ws' := (udX0_copyFrom cI h0 h1 h2 h3 h4 h5 h6 h7 h8 h9 yo_number yo_latest ym_day_3 ym_hour_2 ym_rope_1 ym_strength_4 yo_number yo_latest yo_day yo_hour yo_rope yo_strength)) (va_runSN (As := [.ref h9, .ref h4]) (rest := []) ⟨hx, hb, hml, hown, hts⟩ (ucX8_copy l D cI cT hc57) ⟨va_cnB 2 hts gX0_copyFrom_X8_copy_n31 rfl rfl rfl (hN.at 11 rfl) (hts _ uvX0_copyFrom_8) uhX8_copy ⟨Nat.le_of_ble_eq_true rfl, Nat.le_of_ble_eq_true rfl⟩, (hts _ uvX0_copyFrom_7), trivial⟩ (ub_preS hPc hDc hK hN) rfl rfl hl.1 rfl (lv_room (Nat.le_of_ble_eq_true rfl)) dX0_copyFrom_57 ⟨Nat.le_of_ble_eq_true rfl, Nat.le_of_ble_eq_true rfl⟩) hP hD hS hA [9, 4] rfl (by decide) rfl rfl (fun H locs hP hD hS => ?_)
  cases h
  exact hret H locs _ ls dX0_copyFrom_60 hP hD hS
set_option maxHeartbeats 4000000 in
set_option maxRecDepth 100000 in
theorem ucX0_copyFrom (l : Launch) (D : va_G) (cI cT : ClassId) {h0 h1 h2 h3 h4 h5 h6 h7 h8 h9 : Nat} {w_ym_latest : Int32} {w_ym_number : Int32} {w_ym_day : (Nat → Int32)} {w_ym_hour : (Nat → Int32)} {w_ym_rope : (Nat → Int32)} {w_ym_strength : (Nat → Int32)} {ym_number : Int32} {ym_latest : Int32} {ym_day : (Nat → Int32)} {ym_hour : (Nat → Int32)} {ym_rope : (Nat → Int32)} {ym_strength : (Nat → Int32)} {yo_number : Int32} {yo_latest : Int32} {yo_day : (Nat → Int32)} {yo_hour : (Nat → Int32)} {yo_rope : (Nat → Int32)} {yo_strength : (Nat → Int32)} {sz : Nat} (h : ufX0_copyFrom ym_latest ym_number ym_day ym_hour ym_rope ym_strength yo_latest yo_number yo_day yo_hour yo_rope yo_strength = some (w_ym_latest, w_ym_number, w_ym_day, w_ym_hour, w_ym_rope, w_ym_strength)) : Met l yX0_copyFrom wsX0_copyFrom ({ frames := 2, cells := 0, slots := 0, locals := 47 } : Room) (va_Pc [.ref h0, .ref h5] (ub_pc D cI cT (udX0_copyFrom cI h0 h1 h2 h3 h4 h5 h6 h7 h8 h9 ym_number ym_latest ym_day ym_hour ym_rope ym_strength yo_number yo_latest yo_day yo_hour yo_rope yo_strength) sz)) (va_Qv (fun (_ : Unit) => True) (fun _ t => ub_pq D (udX0_copyFrom cI h0 h1 h2 h3 h4 h5 h6 h7 h8 h9 w_ym_number w_ym_latest w_ym_day w_ym_hour w_ym_rope w_ym_strength yo_number yo_latest yo_day yo_hour yo_rope yo_strength) (va_A (udX0_copyFrom cI h0 h1 h2 h3 h4 h5 h6 h7 h8 h9 ym_number ym_latest ym_day ym_hour ym_rope ym_strength yo_number yo_latest yo_day yo_hour yo_rope yo_strength) sz) t) (va_A (udX0_copyFrom cI h0 h1 h2 h3 h4 h5 h6 h7 h8 h9 ym_number ym_latest ym_day ym_hour ym_rope ym_strength yo_number yo_latest yo_day yo_hour yo_rope yo_strength) sz)) 0 0 (va_A (udX0_copyFrom cI h0 h1 h2 h3 h4 h5 h6 h7 h8 h9 ym_number ym_latest ym_day ym_hour ym_rope ym_strength yo_number yo_latest yo_day yo_hour yo_rope yo_strength) sz) :=
  ub_met_v (by decide +kernel) rfl (Nat.le_of_ble_eq_true rfl) fun _ _ _ _ _ _ _ _ _ _ K hret _ hl hP hD hS => uwX0_copyFrom_E K hret h hl hP hD hS
-- X0_has
def udX0_has (cI : ClassId) (h0 : Nat) (z0 : Nat) (z1 : Nat) (z2 : Nat) (z3 : Nat) (ym_number : Int32) (ym_latest : Int32) : va_W := [(h0, .inr (2, [.int ym_number, .int ym_latest, .ref z0, .ref z1, .ref z2, .ref z3]))]
def ufX0_has (ym_number : Int32) (l1 : Int32) : Option (Int32) :=
  if l1 < 0 then
    some (0)
  else
    if ym_number ≤ l1 then
      some (0)
    else
      some (1)
theorem uvX0_has_1 : Cond.fieldLink RX0 24 "UnheardBells$Answers" "number" "I" ∈ wsX0_has := List.mem_cons_of_mem _ us_m149
theorem uiX0_has_X0 : ∀ w ∈ u_ws RX0 TX0 6, w ∈ wsX0_has := fun w h => List.mem_cons_of_mem _ (us_inX0 w h)
theorem uhX0_has : yX0_has.cls ≠ "java/lang/invoke/MethodHandle" ∧ yX0_has.cls ≠ "java/lang/invoke/VarHandle" ∧ (parseMethodDescriptor yX0_has.desc).map (fun d => d.parameters.length) = some 1 := by decide +kernel
set_option maxHeartbeats 4000000 in
set_option maxRecDepth 100000 in
theorem uwX0_has_E {p : Program} {l : Launch} {e : Env} {s : State} {m : MethodId} {args : Array Value} {below : List Frame} {meth : Method} {c : Code} {Q : State → Prop} {D : va_G} {cI cT : ClassId} {A : Nat → Prop} (K : ub_kx p s m args meth c cX0_has 2 RX0 wsX0_has D cI cT A) {h0 : Nat} {z0 : Nat} {z1 : Nat} {z2 : Nat} {z3 : Nat} {ym_number : Int32} {ym_latest : Int32} {l1 : Int32} {rr : Int32} (hret : ∀ (H : Heap) (locs : List Loc) (pc : Nat) (ls : Array Slot), decode cX0_has pc = .ok (.ireturn, 1) → narrow .boolean (.int rr) = .int rr → va_P D vwCl (udX0_has cI h0 z0 z1 z2 z3 ym_number ym_latest) H → va_D A (udX0_has cI h0 z0 z1 z2 z3 ym_number ym_latest) → va_S A s.heap H locs → W p l e ({ frames := 0, cells := 0, slots := 0, locals := 0 } : Room) s m args below meth c H locs 0 0 Q (F0 m pc ls [.int rr])) (h : ufX0_has ym_number l1 = some rr) {H : Heap} {locs : List Loc} {ls : Array Slot} (hl : lv_has ls 2 [(0, .ref h0), (1, .int l1)]) (hP : va_P D vwCl (udX0_has cI h0 z0 z1 z2 z3 ym_number ym_latest) H) (hD : va_D A (udX0_has cI h0 z0 z1 z2 z3 ym_number ym_latest)) (hS : va_S A s.heap H locs) : W p l e ({ frames := 0, cells := 0, slots := 0, locals := 0 } : Room) s m args below meth c H locs 0 0 Q (F0 m 0 ls []) := by
  have K0 := K
  obtain ⟨hx, hb, hml, hown, hts, hK, hN, hA⟩ := K
  unfold ufX0_has at h
  refine lv_iload_n hx hb dX0_has_0 rfl (lv_at hl 1 rfl) ?_
  refine lv_if_lt (tgt := 16) hx hb dX0_has_1 (by decide) (fun c1 => ?_) (fun c1 => ?_)
  · have h := ub_if_t c1 h
    refine lv_iconst (v := 0) hx hb dX0_has_16 (by decide) ?_
    cases h
    exact hret H locs _ ls dX0_has_17 rfl hP hD hS
  · have h := ub_if_f c1 h
    refine lv_iload_n hx hb dX0_has_4 rfl (lv_at hl 1 rfl) ?_
    refine lv_aload_n hx hb dX0_has_5 rfl (lv_at hl 0 rfl) ?_
    refine va_get (ci := 2) (v := .int ym_number) (C := RX0) (T := TX0) (N := 6) hx hb hts uiX0_has_X0 hown hK hP 0 rfl rfl 0 (by decide) (hts _ uvX0_has_1) (fun _ h9 => h9) rfl dX0_has_6 ?_
    refine lv_icmp_ge (tgt := 16) hx hb dX0_has_9 (by decide) (fun c9 => ?_) (fun c9 => ?_)
    · have h := ub_if_t c9 h
      refine lv_iconst (v := 0) hx hb dX0_has_16 (by decide) ?_
      cases h
      exact hret H locs _ ls dX0_has_17 rfl hP hD hS
    · have h := ub_if_f c9 h
      refine lv_iconst (v := 1) hx hb dX0_has_12 (by decide) ?_
      refine lv_goto (tgt := 17) hx hb dX0_has_13 (by decide) ?_
      cases h
      exact hret H locs _ ls dX0_has_17 rfl hP hD hS
set_option maxHeartbeats 4000000 in
set_option maxRecDepth 100000 in
theorem ucX0_has (l : Launch) (D : va_G) (cI cT : ClassId) {h0 : Nat} {z0 : Nat} {z1 : Nat} {z2 : Nat} {z3 : Nat} {l1 : Int32} {rr : Int32} {ym_number : Int32} {ym_latest : Int32} {sz : Nat} (h : ufX0_has ym_number l1 = some rr) : Met l yX0_has wsX0_has ({ frames := 0, cells := 0, slots := 0, locals := 0 } : Room) (va_Pc [.ref h0, .int l1] (ub_pc D cI cT (udX0_has cI h0 z0 z1 z2 z3 ym_number ym_latest) sz)) (va_Qi (fun (r' : Int32) (_ : Unit) => r' = rr) (fun _ t => ub_pq D (udX0_has cI h0 z0 z1 z2 z3 ym_number ym_latest) (va_A (udX0_has cI h0 z0 z1 z2 z3 ym_number ym_latest) sz) t) (va_A (udX0_has cI h0 z0 z1 z2 z3 ym_number ym_latest) sz)) 0 0 (va_A (udX0_has cI h0 z0 z1 z2 z3 ym_number ym_latest) sz) :=
  ub_met_i (by decide +kernel) rfl (Nat.le_of_ble_eq_true rfl) fun _ _ _ _ _ _ _ _ _ _ K hret _ hl hP hD hS => uwX0_has_E K hret h hl hP hD hS
-- X0_indexOf
def udX0_indexOf (cI : ClassId) (h0 : Nat) (z0 : Nat) (z1 : Nat) (z2 : Nat) (z3 : Nat) (ym_number : Int32) (ym_latest : Int32) : va_W := [(h0, .inr (2, [.int ym_number, .int ym_latest, .ref z0, .ref z1, .ref z2, .ref z3]))]
def ufX0_indexOf (ym_latest : Int32) (l1 : Int32) : Option (Int32) :=
  ub_b1 (ufJ9_floorMod_7cf53 (ym_latest - l1) 20) fun x_1 =>
  some (x_1)
theorem uvX0_indexOf_1 : Cond.fieldLink RX0 28 "UnheardBells$Answers" "latest" "I" ∈ wsX0_indexOf := List.mem_cons_of_mem _ us_m151
theorem uiX0_indexOf_X0 : ∀ w ∈ u_ws RX0 TX0 6, w ∈ wsX0_indexOf := fun w h => List.mem_cons_of_mem _ (us_inX0 w h)
theorem uhX0_indexOf : yX0_indexOf.cls ≠ "java/lang/invoke/MethodHandle" ∧ yX0_indexOf.cls ≠ "java/lang/invoke/VarHandle" ∧ (parseMethodDescriptor yX0_indexOf.desc).map (fun d => d.parameters.length) = some 1 := by decide +kernel
set_option maxHeartbeats 4000000 in
set_option maxRecDepth 100000 in
theorem uwX0_indexOf_E {p : Program} {l : Launch} {e : Env} {s : State} {m : MethodId} {args : Array Value} {below : List Frame} {meth : Method} {c : Code} {Q : State → Prop} {D : va_G} {cI cT : ClassId} {A : Nat → Prop} (K : ub_kx p s m args meth c cX0_indexOf 2 RX0 wsX0_indexOf D cI cT A) {h0 : Nat} {z0 : Nat} {z1 : Nat} {z2 : Nat} {z3 : Nat} {ym_number : Int32} {ym_latest : Int32} {l1 : Int32} {rr : Int32} (hret : ∀ (H : Heap) (locs : List Loc) (pc : Nat) (ls : Array Slot), decode cX0_indexOf pc = .ok (.ireturn, 1) → narrow .int (.int rr) = .int rr → va_P D vwCl (udX0_indexOf cI h0 z0 z1 z2 z3 ym_number ym_latest) H → va_D A (udX0_indexOf cI h0 z0 z1 z2 z3 ym_number ym_latest) → va_S A s.heap H locs → W p l e ({ frames := 1, cells := 0, slots := 0, locals := 22 } : Room) s m args below meth c H locs 0 0 Q (F0 m pc ls [.int rr])) (h : ufX0_indexOf ym_latest l1 = some rr) {H : Heap} {locs : List Loc} {ls : Array Slot} (hl : lv_has ls 2 [(0, .ref h0), (1, .int l1)]) (hP : va_P D vwCl (udX0_indexOf cI h0 z0 z1 z2 z3 ym_number ym_latest) H) (hD : va_D A (udX0_indexOf cI h0 z0 z1 z2 z3 ym_number ym_latest)) (hS : va_S A s.heap H locs) : W p l e ({ frames := 1, cells := 0, slots := 0, locals := 22 } : Room) s m args below meth c H locs 0 0 Q (F0 m 0 ls []) := by
  have K0 := K
  obtain ⟨hx, hb, hml, hown, hts, hK, hN, hA⟩ := K
  unfold ufX0_indexOf at h
  refine lv_aload_n hx hb dX0_indexOf_0 rfl (lv_at hl 0 rfl) ?_
  refine va_get (ci := 2) (v := .int ym_latest) (C := RX0) (T := TX0) (N := 6) hx hb hts uiX0_indexOf_X0 hown hK hP 0 rfl rfl 1 (by decide) (hts _ uvX0_indexOf_1) (fun _ h9 => h9) rfl dX0_indexOf_1 ?_
  refine lv_iload_n hx hb dX0_indexOf_4 rfl (lv_at hl 1 rfl) ?_
  refine lv_isub hx hb dX0_indexOf_5 ?_
  refine lv_bipush (v := 20) hx hb dX0_indexOf_6 (by decide) ?_
  obtain ⟨x_1, hc8, h⟩ := ub_b1_some h
  have hPc : va_P D vwCl (udJ9_floorMod_7cf53 cI) H := ub_pickP hP [] rfl
  have hDc : va_D A (udJ9_floorMod_7cf53 cI) := hD.sub [] (by decide) rfl
  refine ub_calli (ws' := (udX0_indexOf cI h0 z0 z1 z2 z3 ym_number ym_latest)) (va_runS (As := [.int (ym_latest - l1), .int 20]) (rest := []) ⟨hx, hb, hml, hown, hts⟩ (ucJ9_floorMod_7cf53 l D cI cT hc8) (va_cwS 2 hts gX0_indexOf_J9_floorMod_7cf53 rfl rfl rfl uhJ9_floorMod_7cf53 ⟨Nat.le_of_ble_eq_true rfl, Nat.le_of_ble_eq_true rfl⟩) (ub_preS hPc hDc hK hN) rfl rfl hl.1 rfl (lv_room (Nat.le_of_ble_eq_true rfl)) dX0_indexOf_8 ⟨Nat.le_of_ble_eq_true rfl, Nat.le_of_ble_eq_true rfl⟩) hP hD hS hA [] rfl (by decide) rfl rfl (fun H locs hP hD hS => ?_)
  cases h
  exact hret H locs _ ls dX0_indexOf_11 rfl hP hD hS
set_option maxHeartbeats 4000000 in
set_option maxRecDepth 100000 in
theorem ucX0_indexOf (l : Launch) (D : va_G) (cI cT : ClassId) {h0 : Nat} {z0 : Nat} {z1 : Nat} {z2 : Nat} {z3 : Nat} {l1 : Int32} {rr : Int32} {ym_number : Int32} {ym_latest : Int32} {sz : Nat} (h : ufX0_indexOf ym_latest l1 = some rr) : Met l yX0_indexOf wsX0_indexOf ({ frames := 1, cells := 0, slots := 0, locals := 22 } : Room) (va_Pc [.ref h0, .int l1] (ub_pc D cI cT (udX0_indexOf cI h0 z0 z1 z2 z3 ym_number ym_latest) sz)) (va_Qi (fun (r' : Int32) (_ : Unit) => r' = rr) (fun _ t => ub_pq D (udX0_indexOf cI h0 z0 z1 z2 z3 ym_number ym_latest) (va_A (udX0_indexOf cI h0 z0 z1 z2 z3 ym_number ym_latest) sz) t) (va_A (udX0_indexOf cI h0 z0 z1 z2 z3 ym_number ym_latest) sz)) 0 0 (va_A (udX0_indexOf cI h0 z0 z1 z2 z3 ym_number ym_latest) sz) :=
  ub_met_i (by decide +kernel) rfl (Nat.le_of_ble_eq_true rfl) fun _ _ _ _ _ _ _ _ _ _ K hret _ hl hP hD hS => uwX0_indexOf_E K hret h hl hP hD hS
-- X0_remember
def udX0_remember (cI : ClassId) (h0 : Nat) (h1 : Nat) (h2 : Nat) (h3 : Nat) (h4 : Nat) (ym_number : Int32) (ym_latest : Int32) (ym_day : Nat → Int32) (ym_hour : Nat → Int32) (ym_rope : Nat → Int32) (ym_strength : Nat → Int32) : va_W := [(h0, .inr (2, [.int ym_number, .int ym_latest, .ref h3, .ref h2, .ref h1, .ref h4])), (h1, .inl (cI, 20, .inl ym_day)), (h2, .inl (cI, 20, .inl ym_hour)), (h3, .inl (cI, 20, .inl ym_rope)), (h4, .inl (cI, 20, .inl ym_strength))]
def ufX0_remember (ym_latest : Int32) (ym_number : Int32) (ym_day : Nat → Int32) (ym_hour : Nat → Int32) (ym_rope : Nat → Int32) (ym_strength : Nat → Int32) (l1 : Int32) (l2 : Int32) (l3 : Int32) (l4 : Int32) : Option (Int32 × Int32 × (Nat → Int32) × (Nat → Int32) × (Nat → Int32) × (Nat → Int32)) :=
  ub_b1 (ufJ9_floorMod_7cf53 (ym_latest + 1) 20) fun x_1 =>
  ub_b1 (ufX8_put 20 ym_rope x_1 l1) fun ym_rope_2 =>
  ub_b1 (ufX8_put 20 ym_hour x_1 l2) fun ym_hour_3 =>
  ub_b1 (ufX8_put 20 ym_day x_1 l3) fun ym_day_4 =>
  ub_b1 (ufX8_put 20 ym_strength x_1 l4) fun ym_strength_5 =>
  ub_nm (if 20 < (ym_number + 1) then 20 else (ym_number + 1)) fun x_6 =>
  some (x_1, x_6, ym_day_4, ym_hour_3, ym_rope_2, ym_strength_5)
theorem uvX0_remember_1 : Cond.fieldLink RX0 28 "UnheardBells$Answers" "latest" "I" ∈ wsX0_remember := List.mem_cons_of_mem _ us_m151
theorem uvX0_remember_2 : Cond.fieldLink RX0 9 "UnheardBells$Answers" "rope" "[I" ∈ wsX0_remember := List.mem_cons_of_mem _ us_m152
theorem uvX0_remember_16 : Cond.initialized RX8 ∈ wsX0_remember := List.mem_cons_of_mem _ us_m40
theorem uvX0_remember_15 : Cond.static yX8_put ∈ wsX0_remember := List.mem_cons_of_mem _ us_m380
theorem uvX0_remember_3 : Cond.fieldLink RX0 15 "UnheardBells$Answers" "hour" "[I" ∈ wsX0_remember := List.mem_cons_of_mem _ us_m154
theorem uvX0_remember_4 : Cond.fieldLink RX0 18 "UnheardBells$Answers" "day" "[I" ∈ wsX0_remember := List.mem_cons_of_mem _ us_m156
theorem uvX0_remember_5 : Cond.fieldLink RX0 21 "UnheardBells$Answers" "strength" "[I" ∈ wsX0_remember := List.mem_cons_of_mem _ us_m158
theorem uvX0_remember_6 : Cond.fieldLink RX0 24 "UnheardBells$Answers" "number" "I" ∈ wsX0_remember := List.mem_cons_of_mem _ us_m149
theorem uvX0_remember_7 : Cond.methodLink RX0 45 Lib.Math.min.name ∈ wsX0_remember := List.mem_cons_of_mem _ us_m500
theorem uvX0_remember_8 : Cond.static Lib.Math.min.name ∈ wsX0_remember := List.mem_cons_of_mem _ us_m348
theorem uvX0_remember_9 : Cond.initialized "java/lang/Math" ∈ wsX0_remember := List.mem_cons_of_mem _ us_m49
theorem uvX0_remember_10 : Cond.code Lib.Math.min.name Lib.Math.min.code 2 (some .int) ∈ wsX0_remember := List.mem_cons_of_mem _ us_m349
theorem uiX0_remember_X0 : ∀ w ∈ u_ws RX0 TX0 6, w ∈ wsX0_remember := fun w h => List.mem_cons_of_mem _ (us_inX0 w h)
theorem uhX0_remember : yX0_remember.cls ≠ "java/lang/invoke/MethodHandle" ∧ yX0_remember.cls ≠ "java/lang/invoke/VarHandle" ∧ (parseMethodDescriptor yX0_remember.desc).map (fun d => d.parameters.length) = some 4 := by decide +kernel
set_option maxHeartbeats 4000000 in
set_option maxRecDepth 100000 in
theorem uwX0_remember_E {p : Program} {l : Launch} {e : Env} {s : State} {m : MethodId} {args : Array Value} {below : List Frame} {meth : Method} {c : Code} {Q : State → Prop} {D : va_G} {cI cT : ClassId} {A : Nat → Prop} (K : ub_kx p s m args meth c cX0_remember 5 RX0 wsX0_remember D cI cT A) {h0 h1 h2 h3 h4 : Nat} {ym_number : Int32} {ym_latest : Int32} {ym_day : (Nat → Int32)} {ym_hour : (Nat → Int32)} {ym_rope : (Nat → Int32)} {ym_strength : (Nat → Int32)} {l1 : Int32} {l2 : Int32} {l3 : Int32} {l4 : Int32} {w_ym_latest : Int32} {w_ym_number : Int32} {w_ym_day : (Nat → Int32)} {w_ym_hour : (Nat → Int32)} {w_ym_rope : (Nat → Int32)} {w_ym_strength : (Nat → Int32)} (hret : ∀ (H : Heap) (locs : List Loc) (pc : Nat) (ls : Array Slot), decode cX0_remember pc = .ok (.return_, 1) → va_P D vwCl (udX0_remember cI h0 h1 h2 h3 h4 w_ym_number w_ym_latest w_ym_day w_ym_hour w_ym_rope w_ym_strength) H → va_D A (udX0_remember cI h0 h1 h2 h3 h4 w_ym_number w_ym_latest w_ym_day w_ym_hour w_ym_rope w_ym_strength) → va_S A s.heap H locs → W p l e ({ frames := 1, cells := 0, slots := 0, locals := 22 } : Room) s m args below meth c H locs 0 0 Q (F0 m pc ls [])) (h : ufX0_remember ym_latest ym_number ym_day ym_hour ym_rope ym_strength l1 l2 l3 l4 = some (w_ym_latest, w_ym_number, w_ym_day, w_ym_hour, w_ym_rope, w_ym_strength)) {H : Heap} {locs : List Loc} {ls : Array Slot} (hl : lv_has ls 5 [(0, .ref h0), (1, .int l1), (2, .int l2), (3, .int l3), (4, .int l4)]) (hP : va_P D vwCl (udX0_remember cI h0 h1 h2 h3 h4 ym_number ym_latest ym_day ym_hour ym_rope ym_strength) H) (hD : va_D A (udX0_remember cI h0 h1 h2 h3 h4 ym_number ym_latest ym_day ym_hour ym_rope ym_strength)) (hS : va_S A s.heap H locs) : W p l e ({ frames := 1, cells := 0, slots := 0, locals := 22 } : Room) s m args below meth c H locs 0 0 Q (F0 m 0 ls []) := by
  have K0 := K
  obtain ⟨hx, hb, hml, hown, hts, hK, hN, hA⟩ := K
  unfold ufX0_remember at h
  refine lv_aload_n hx hb dX0_remember_0 rfl (lv_at hl 0 rfl) ?_
  refine lv_aload_n hx hb dX0_remember_1 rfl (lv_at hl 0 rfl) ?_
  refine va_get (ci := 2) (v := .int ym_latest) (C := RX0) (T := TX0) (N := 6) hx hb hts uiX0_remember_X0 hown hK hP 0 rfl rfl 1 (by decide) (hts _ uvX0_remember_1) (fun _ h9 => h9) rfl dX0_remember_2 ?_
  refine lv_iconst (v := 1) hx hb dX0_remember_5 (by decide) ?_
  refine lv_iadd hx hb dX0_remember_6 ?_
  refine lv_bipush (v := 20) hx hb dX0_remember_7 (by decide) ?_
  obtain ⟨x_1, hc9, h⟩ := ub_b1_some h
  have hPc : va_P D vwCl (udJ9_floorMod_7cf53 cI) H := ub_pickP hP [] rfl
  have hDc : va_D A (udJ9_floorMod_7cf53 cI) := hD.sub [] (by decide) rfl
  refine ub_calli (ws' := (udX0_remember cI h0 h1 h2 h3 h4 ym_number ym_latest ym_day ym_hour ym_rope ym_strength)) (va_runS (As := [.int (ym_latest + 1), .int 20]) (rest := [.ref h0]) ⟨hx, hb, hml, hown, hts⟩ (ucJ9_floorMod_7cf53 l D cI cT hc9) (va_cwS 2 hts gX0_remember_J9_floorMod_7cf53 rfl rfl rfl uhJ9_floorMod_7cf53 ⟨Nat.le_of_ble_eq_true rfl, Nat.le_of_ble_eq_true rfl⟩) (ub_preS hPc hDc hK hN) rfl rfl hl.1 rfl (lv_room (Nat.le_of_ble_eq_true rfl)) dX0_remember_9 ⟨Nat.le_of_ble_eq_true rfl, Nat.le_of_ble_eq_true rfl⟩) hP hD hS hA [] rfl (by decide) rfl rfl (fun H locs hP hD hS => ?_)
  refine ub_put (ws' := (udX0_remember cI h0 h1 h2 h3 h4 ym_number x_1 ym_day ym_hour ym_rope ym_strength)) (ci := 2) (C := RX0) (T := TX0) (N := 6) hx hb hts uiX0_remember_X0 tyX0 tyX0_ok nmX0 hown hK hP hD hS 0 1 (v := .int x_1) (ty := tyX0 1) rfl rfl (by decide) (hts _ uvX0_remember_1) (fun _ h9 => h9) rfl (tyX0_ok 1 (by decide)) rfl rfl (Nat.le_of_ble_eq_true rfl) rfl dX0_remember_12 (fun H locs hP hD hS => ?_)
  refine lv_aload_n hx hb dX0_remember_15 rfl (lv_at hl 0 rfl) ?_
  refine va_get (ci := 2) (v := .ref h3) (C := RX0) (T := TX0) (N := 6) hx hb hts uiX0_remember_X0 hown hK hP 0 rfl rfl 2 (by decide) (hts _ uvX0_remember_2) (fun _ h9 => h9) rfl dX0_remember_16 ?_
  refine lv_aload_n hx hb dX0_remember_19 rfl (lv_at hl 0 rfl) ?_
  refine va_get (ci := 2) (v := .int x_1) (C := RX0) (T := TX0) (N := 6) hx hb hts uiX0_remember_X0 hown hK hP 0 rfl rfl 1 (by decide) (hts _ uvX0_remember_1) (fun _ h9 => h9) rfl dX0_remember_20 ?_
  refine lv_iload_n hx hb dX0_remember_23 rfl (lv_at hl 1 rfl) ?_
  obtain ⟨ym_rope_2, hc24, h⟩ := ub_b1_some h
  have hPc : va_P D vwCl (udX8_put cI 20 h3 ym_rope) H := ub_pickP hP [3] rfl
  have hDc : va_D A (udX8_put cI 20 h3 ym_rope) := hD.sub [3] (by decide) rfl
  refine ub_callv (ws' := (udX0_remember cI h0 h1 h2 h3 h4 ym_number x_1 ym_day ym_hour ym_rope_2 ym_strength)) (va_runSN (As := [.ref h3, .int x_1, .int l1]) (rest := []) ⟨hx, hb, hml, hown, hts⟩ (ucX8_put l D cI cT hc24) ⟨va_cnB 3 hts gX0_remember_X8_put_n41 rfl rfl rfl (hN.at 22 rfl) (hts _ uvX0_remember_16) uhX8_put ⟨Nat.le_of_ble_eq_true rfl, Nat.le_of_ble_eq_true rfl⟩, (hts _ uvX0_remember_15), trivial⟩ (ub_preS hPc hDc hK hN) rfl rfl hl.1 rfl (lv_room (Nat.le_of_ble_eq_true rfl)) dX0_remember_24 ⟨Nat.le_of_ble_eq_true rfl, Nat.le_of_ble_eq_true rfl⟩) hP hD hS hA [3] rfl (by decide) rfl rfl (fun H locs hP hD hS => ?_)
  refine lv_aload_n hx hb dX0_remember_27 rfl (lv_at hl 0 rfl) ?_
  refine va_get (ci := 2) (v := .ref h2) (C := RX0) (T := TX0) (N := 6) hx hb hts uiX0_remember_X0 hown hK hP 0 rfl rfl 3 (by decide) (hts _ uvX0_remember_3) (fun _ h9 => h9) rfl dX0_remember_28 ?_
  refine lv_aload_n hx hb dX0_remember_31 rfl (lv_at hl 0 rfl) ?_
  refine va_get (ci := 2) (v := .int x_1) (C := RX0) (T := TX0) (N := 6) hx hb hts uiX0_remember_X0 hown hK hP 0 rfl rfl 1 (by decide) (hts _ uvX0_remember_1) (fun _ h9 => h9) rfl dX0_remember_32 ?_
  refine lv_iload_n hx hb dX0_remember_35 rfl (lv_at hl 2 rfl) ?_
  obtain ⟨ym_hour_3, hc36, h⟩ := ub_b1_some h
  have hPc : va_P D vwCl (udX8_put cI 20 h2 ym_hour) H := ub_pickP hP [2] rfl
  have hDc : va_D A (udX8_put cI 20 h2 ym_hour) := hD.sub [2] (by decide) rfl
  refine ub_callv (ws' := (udX0_remember cI h0 h1 h2 h3 h4 ym_number x_1 ym_day ym_hour_3 ym_rope_2 ym_strength)) (va_runSN (As := [.ref h2, .int x_1, .int l2]) (rest := []) ⟨hx, hb, hml, hown, hts⟩ (ucX8_put l D cI cT hc36) ⟨va_cnB 3 hts gX0_remember_X8_put_n41 rfl rfl rfl (hN.at 22 rfl) (hts _ uvX0_remember_16) uhX8_put ⟨Nat.le_of_ble_eq_true rfl, Nat.le_of_ble_eq_true rfl⟩, (hts _ uvX0_remember_15), trivial⟩ (ub_preS hPc hDc hK hN) rfl rfl hl.1 rfl (lv_room (Nat.le_of_ble_eq_true rfl)) dX0_remember_36 ⟨Nat.le_of_ble_eq_true rfl, Nat.le_of_ble_eq_true rfl⟩) hP hD hS hA [2] rfl (by decide) rfl rfl (fun H locs hP hD hS => ?_)
  refine lv_aload_n hx hb dX0_remember_39 rfl (lv_at hl 0 rfl) ?_
  refine va_get (ci := 2) (v := .ref h1) (C := RX0) (T := TX0) (N := 6) hx hb hts uiX0_remember_X0 hown hK hP 0 rfl rfl 4 (by decide) (hts _ uvX0_remember_4) (fun _ h9 => h9) rfl dX0_remember_40 ?_
  refine lv_aload_n hx hb dX0_remember_43 rfl (lv_at hl 0 rfl) ?_
  refine va_get (ci := 2) (v := .int x_1) (C := RX0) (T := TX0) (N := 6) hx hb hts uiX0_remember_X0 hown hK hP 0 rfl rfl 1 (by decide) (hts _ uvX0_remember_1) (fun _ h9 => h9) rfl dX0_remember_44 ?_
  refine lv_iload_n hx hb dX0_remember_47 rfl (lv_at hl 3 rfl) ?_
  obtain ⟨ym_day_4, hc48, h⟩ := ub_b1_some h
  have hPc : va_P D vwCl (udX8_put cI 20 h1 ym_day) H := ub_pickP hP [1] rfl
  have hDc : va_D A (udX8_put cI 20 h1 ym_day) := hD.sub [1] (by decide) rfl
  refine ub_callv (ws' := (udX0_remember cI h0 h1 h2 h3 h4 ym_number x_1 ym_day_4 ym_hour_3 ym_rope_2 ym_strength)) (va_runSN (As := [.ref h1, .int x_1, .int l3]) (rest := []) ⟨hx, hb, hml, hown, hts⟩ (ucX8_put l D cI cT hc48) ⟨va_cnB 3 hts gX0_remember_X8_put_n41 rfl rfl rfl (hN.at 22 rfl) (hts _ uvX0_remember_16) uhX8_put ⟨Nat.le_of_ble_eq_true rfl, Nat.le_of_ble_eq_true rfl⟩, (hts _ uvX0_remember_15), trivial⟩ (ub_preS hPc hDc hK hN) rfl rfl hl.1 rfl (lv_room (Nat.le_of_ble_eq_true rfl)) dX0_remember_48 ⟨Nat.le_of_ble_eq_true rfl, Nat.le_of_ble_eq_true rfl⟩) hP hD hS hA [1] rfl (by decide) rfl rfl (fun H locs hP hD hS => ?_)
  refine lv_aload_n hx hb dX0_remember_51 rfl (lv_at hl 0 rfl) ?_
  refine va_get (ci := 2) (v := .ref h4) (C := RX0) (T := TX0) (N := 6) hx hb hts uiX0_remember_X0 hown hK hP 0 rfl rfl 5 (by decide) (hts _ uvX0_remember_5) (fun _ h9 => h9) rfl dX0_remember_52 ?_
  refine lv_aload_n hx hb dX0_remember_55 rfl (lv_at hl 0 rfl) ?_
  refine va_get (ci := 2) (v := .int x_1) (C := RX0) (T := TX0) (N := 6) hx hb hts uiX0_remember_X0 hown hK hP 0 rfl rfl 1 (by decide) (hts _ uvX0_remember_1) (fun _ h9 => h9) rfl dX0_remember_56 ?_
  refine lv_iload hx hb dX0_remember_59 (lv_at hl 4 rfl) ?_
  obtain ⟨ym_strength_5, hc61, h⟩ := ub_b1_some h
  have hPc : va_P D vwCl (udX8_put cI 20 h4 ym_strength) H := ub_pickP hP [4] rfl
  have hDc : va_D A (udX8_put cI 20 h4 ym_strength) := hD.sub [4] (by decide) rfl
  refine ub_callv (ws' := (udX0_remember cI h0 h1 h2 h3 h4 ym_number x_1 ym_day_4 ym_hour_3 ym_rope_2 ym_strength_5)) (va_runSN (As := [.ref h4, .int x_1, .int l4]) (rest := []) ⟨hx, hb, hml, hown, hts⟩ (ucX8_put l D cI cT hc61) ⟨va_cnB 3 hts gX0_remember_X8_put_n41 rfl rfl rfl (hN.at 22 rfl) (hts _ uvX0_remember_16) uhX8_put ⟨Nat.le_of_ble_eq_true rfl, Nat.le_of_ble_eq_true rfl⟩, (hts _ uvX0_remember_15), trivial⟩ (ub_preS hPc hDc hK hN) rfl rfl hl.1 rfl (lv_room (Nat.le_of_ble_eq_true rfl)) dX0_remember_61 ⟨Nat.le_of_ble_eq_true rfl, Nat.le_of_ble_eq_true rfl⟩) hP hD hS hA [4] rfl (by decide) rfl rfl (fun H locs hP hD hS => ?_)
  refine lv_aload_n hx hb dX0_remember_64 rfl (lv_at hl 0 rfl) ?_
  refine lv_aload_n hx hb dX0_remember_65 rfl (lv_at hl 0 rfl) ?_
  refine va_get (ci := 2) (v := .int ym_number) (C := RX0) (T := TX0) (N := 6) hx hb hts uiX0_remember_X0 hown hK hP 0 rfl rfl 0 (by decide) (hts _ uvX0_remember_6) (fun _ h9 => h9) rfl dX0_remember_66 ?_
  refine lv_iconst (v := 1) hx hb dX0_remember_69 (by decide) ?_
  refine lv_iadd hx hb dX0_remember_70 ?_
  refine lv_bipush (v := 20) hx hb dX0_remember_71 (by decide) ?_
  refine va_mmin hx hb (hml.trans hl.1.symm) hown (hts _ uvX0_remember_7) (hts _ uvX0_remember_8) (hts _ uvX0_remember_9) (hts _ uvX0_remember_10) (Nat.le_of_ble_eq_true rfl) (Nat.le_of_ble_eq_true rfl) (Nat.le_of_ble_eq_true rfl) (Nat.le_of_ble_eq_true rfl) dX0_remember_73 ?_
  obtain ⟨x_6, ex_6, h⟩ := ub_nm_some h
  refine ub_topi ex_6 ?_
  refine ub_put (ws' := (udX0_remember cI h0 h1 h2 h3 h4 x_6 x_1 ym_day_4 ym_hour_3 ym_rope_2 ym_strength_5)) (ci := 2) (C := RX0) (T := TX0) (N := 6) hx hb hts uiX0_remember_X0 tyX0 tyX0_ok nmX0 hown hK hP hD hS 0 0 (v := .int x_6) (ty := tyX0 0) rfl rfl (by decide) (hts _ uvX0_remember_6) (fun _ h9 => h9) rfl (tyX0_ok 0 (by decide)) rfl rfl (Nat.le_of_ble_eq_true rfl) rfl dX0_remember_76 (fun H locs hP hD hS => ?_)
  cases h
  exact hret H locs _ ls dX0_remember_79 hP hD hS
set_option maxHeartbeats 4000000 in
set_option maxRecDepth 100000 in
theorem ucX0_remember (l : Launch) (D : va_G) (cI cT : ClassId) {h0 h1 h2 h3 h4 : Nat} {l1 : Int32} {l2 : Int32} {l3 : Int32} {l4 : Int32} {w_ym_latest : Int32} {w_ym_number : Int32} {w_ym_day : (Nat → Int32)} {w_ym_hour : (Nat → Int32)} {w_ym_rope : (Nat → Int32)} {w_ym_strength : (Nat → Int32)} {ym_number : Int32} {ym_latest : Int32} {ym_day : (Nat → Int32)} {ym_hour : (Nat → Int32)} {ym_rope : (Nat → Int32)} {ym_strength : (Nat → Int32)} {sz : Nat} (h : ufX0_remember ym_latest ym_number ym_day ym_hour ym_rope ym_strength l1 l2 l3 l4 = some (w_ym_latest, w_ym_number, w_ym_day, w_ym_hour, w_ym_rope, w_ym_strength)) : Met l yX0_remember wsX0_remember ({ frames := 1, cells := 0, slots := 0, locals := 22 } : Room) (va_Pc [.ref h0, .int l1, .int l2, .int l3, .int l4] (ub_pc D cI cT (udX0_remember cI h0 h1 h2 h3 h4 ym_number ym_latest ym_day ym_hour ym_rope ym_strength) sz)) (va_Qv (fun (_ : Unit) => True) (fun _ t => ub_pq D (udX0_remember cI h0 h1 h2 h3 h4 w_ym_number w_ym_latest w_ym_day w_ym_hour w_ym_rope w_ym_strength) (va_A (udX0_remember cI h0 h1 h2 h3 h4 ym_number ym_latest ym_day ym_hour ym_rope ym_strength) sz) t) (va_A (udX0_remember cI h0 h1 h2 h3 h4 ym_number ym_latest ym_day ym_hour ym_rope ym_strength) sz)) 0 0 (va_A (udX0_remember cI h0 h1 h2 h3 h4 ym_number ym_latest ym_day ym_hour ym_rope ym_strength) sz) :=
  ub_met_v (by decide +kernel) rfl (Nat.le_of_ble_eq_true rfl) fun _ _ _ _ _ _ _ _ _ _ K hret _ hl hP hD hS => uwX0_remember_E K hret h hl hP hD hS
-- X4_copyFrom
def udX4_copyFrom (cI : ClassId) (h0 : Nat) (h1 : Nat) (h2 : Nat) (h3 : Nat) (h4 : Nat) (h5 : Nat) (h6 : Nat) (h7 : Nat) (ym_number : Int32) (ym_hour : Nat → Int32) (ym_rope : Nat → Int32) (ym_strength : Nat → Int32) (yo_number : Int32) (yo_hour : Nat → Int32) (yo_rope : Nat → Int32) (yo_strength : Nat → Int32) : va_W := [(h0, .inr (6, [.int ym_number, .ref h2, .ref h1, .ref h3])), (h1, .inl (cI, 16, .inl ym_hour)), (h2, .inl (cI, 16, .inl ym_rope)), (h3, .inl (cI, 16, .inl ym_strength)), (h4, .inr (6, [.int yo_number, .ref h6, .ref h5, .ref h7])), (h5, .inl (cI, 16, .inl yo_hour)), (h6, .inl (cI, 16, .inl yo_rope)), (h7, .inl (cI, 16, .inl yo_strength))]
def ufX4_copyFrom (ym_number : Int32) (ym_hour : Nat → Int32) (ym_rope : Nat → Int32) (ym_strength : Nat → Int32) (yo_number : Int32) (yo_hour : Nat → Int32) (yo_rope : Nat → Int32) (yo_strength : Nat → Int32) : Option (Int32 × (Nat → Int32) × (Nat → Int32) × (Nat → Int32)) :=
  ub_b1 (ufX8_copy 16 16 yo_rope ym_rope) fun ym_rope_1 =>
  ub_b1 (ufX8_copy 16 16 yo_hour ym_hour) fun ym_hour_2 =>
  ub_b1 (ufX8_copy 16 16 yo_strength ym_strength) fun ym_strength_3 =>
  some (yo_number, ym_hour_2, ym_rope_1, ym_strength_3)
theorem uvX4_copyFrom_1 : Cond.fieldLink RX4 21 "UnheardBells$Pulls" "number" "I" ∈ wsX4_copyFrom := List.mem_cons_of_mem _ us_m122
theorem uvX4_copyFrom_2 : Cond.fieldLink RX4 9 "UnheardBells$Pulls" "rope" "[I" ∈ wsX4_copyFrom := List.mem_cons_of_mem _ us_m125
theorem uvX4_copyFrom_6 : Cond.initialized RX8 ∈ wsX4_copyFrom := List.mem_cons_of_mem _ us_m40
theorem uvX4_copyFrom_5 : Cond.static yX8_copy ∈ wsX4_copyFrom := List.mem_cons_of_mem _ us_m345
theorem uvX4_copyFrom_3 : Cond.fieldLink RX4 15 "UnheardBells$Pulls" "hour" "[I" ∈ wsX4_copyFrom := List.mem_cons_of_mem _ us_m128
theorem uvX4_copyFrom_4 : Cond.fieldLink RX4 18 "UnheardBells$Pulls" "strength" "[I" ∈ wsX4_copyFrom := List.mem_cons_of_mem _ us_m131
theorem uiX4_copyFrom_X4 : ∀ w ∈ u_ws RX4 TX4 4, w ∈ wsX4_copyFrom := fun w h => List.mem_cons_of_mem _ (us_inX4 w h)
theorem uhX4_copyFrom : yX4_copyFrom.cls ≠ "java/lang/invoke/MethodHandle" ∧ yX4_copyFrom.cls ≠ "java/lang/invoke/VarHandle" ∧ (parseMethodDescriptor yX4_copyFrom.desc).map (fun d => d.parameters.length) = some 1 := by decide +kernel
set_option maxHeartbeats 4000000 in
set_option maxRecDepth 100000 in
theorem uwX4_copyFrom_E {p : Program} {l : Launch} {e : Env} {s : State} {m : MethodId} {args : Array Value} {below : List Frame} {meth : Method} {c : Code} {Q : State → Prop} {D : va_G} {cI cT : ClassId} {A : Nat → Prop} (K : ub_kx p s m args meth c cX4_copyFrom 2 RX4 wsX4_copyFrom D cI cT A) {h0 h1 h2 h3 h4 h5 h6 h7 : Nat} {ym_number : Int32} {ym_hour : (Nat → Int32)} {ym_rope : (Nat → Int32)} {ym_strength : (Nat → Int32)} {yo_number : Int32} {yo_hour : (Nat → Int32)} {yo_rope : (Nat → Int32)} {yo_strength : (Nat → Int32)} {w_ym_number : Int32} {w_ym_hour : (Nat → Int32)} {w_ym_rope : (Nat → Int32)} {w_ym_strength : (Nat → Int32)} (hret : ∀ (H : Heap) (locs : List Loc) (pc : Nat) (ls : Array Slot), decode cX4_copyFrom pc = .ok (.return_, 1) → va_P D vwCl (udX4_copyFrom cI h0 h1 h2 h3 h4 h5 h6 h7 w_ym_number w_ym_hour w_ym_rope w_ym_strength yo_number yo_hour yo_rope yo_strength) H → va_D A (udX4_copyFrom cI h0 h1 h2 h3 h4 h5 h6 h7 w_ym_number w_ym_hour w_ym_rope w_ym_strength yo_number yo_hour yo_rope yo_strength) → va_S A s.heap H locs → W p l e ({ frames := 2, cells := 0, slots := 0, locals := 47 } : Room) s m args below meth c H locs 0 0 Q (F0 m pc ls [])) (h : ufX4_copyFrom ym_number ym_hour ym_rope ym_strength yo_number yo_hour yo_rope yo_strength = some (w_ym_number, w_ym_hour, w_ym_rope, w_ym_strength)) {H : Heap} {locs : List Loc} {ls : Array Slot} (hl : lv_has ls 2 [(0, .ref h0), (1, .ref h4)]) (hP : va_P D vwCl (udX4_copyFrom cI h0 h1 h2 h3 h4 h5 h6 h7 ym_number ym_hour ym_rope ym_strength yo_number yo_hour yo_rope yo_strength) H) (hD : va_D A (udX4_copyFrom cI h0 h1 h2 h3 h4 h5 h6 h7 ym_number ym_hour ym_rope ym_strength yo_number yo_hour yo_rope yo_strength)) (hS : va_S A s.heap H locs) : W p l e ({ frames := 2, cells := 0, slots := 0, locals := 47 } : Room) s m args below meth c H locs 0 0 Q (F0 m 0 ls []) := by
  have K0 := K
  obtain ⟨hx, hb, hml, hown, hts, hK, hN, hA⟩ := K
  unfold ufX4_copyFrom at h
  refine lv_aload_n hx hb dX4_copyFrom_0 rfl (lv_at hl 0 rfl) ?_
  refine lv_aload_n hx hb dX4_copyFrom_1 rfl (lv_at hl 1 rfl) ?_
  refine va_get (ci := 6) (v := .int yo_number) (C := RX4) (T := TX4) (N := 4) hx hb hts uiX4_copyFrom_X4 hown hK hP 4 rfl rfl 0 (by decide) (hts _ uvX4_copyFrom_1) (fun _ h9 => h9) rfl dX4_copyFrom_2 ?_
  refine ub_put (ws' := (udX4_copyFrom cI h0 h1 h2 h3 h4 h5 h6 h7 yo_number ym_hour ym_rope ym_strength yo_number yo_hour yo_rope yo_strength)) (ci := 6) (C := RX4) (T := TX4) (N := 4) hx hb hts uiX4_copyFrom_X4 tyX4 tyX4_ok nmX4 hown hK hP hD hS 0 0 (v := .int yo_number) (ty := tyX4 0) rfl rfl (by decide) (hts _ uvX4_copyFrom_1) (fun _ h9 => h9) rfl (tyX4_ok 0 (by decide)) rfl rfl (Nat.le_of_ble_eq_true rfl) rfl dX4_copyFrom_5 (fun H locs hP hD hS => ?_)
  refine lv_aload_n hx hb dX4_copyFrom_8 rfl (lv_at hl 1 rfl) ?_
  refine va_get (ci := 6) (v := .ref h6) (C := RX4) (T := TX4) (N := 4) hx hb hts uiX4_copyFrom_X4 hown hK hP 4 rfl rfl 1 (by decide) (hts _ uvX4_copyFrom_2) (fun _ h9 => h9) rfl dX4_copyFrom_9 ?_
  refine lv_aload_n hx hb dX4_copyFrom_12 rfl (lv_at hl 0 rfl) ?_
  refine va_get (ci := 6) (v := .ref h2) (C := RX4) (T := TX4) (N := 4) hx hb hts uiX4_copyFrom_X4 hown hK hP 0 rfl rfl 1 (by decide) (hts _ uvX4_copyFrom_2) (fun _ h9 => h9) rfl dX4_copyFrom_13 ?_
  obtain ⟨ym_rope_1, hc16, h⟩ := ub_b1_some h
  have hPc : va_P D vwCl (udX8_copy cI 16 16 h6 h2 yo_rope ym_rope) H := ub_pickP hP [6, 2] rfl
  have hDc : va_D A (udX8_copy cI 16 16 h6 h2 yo_rope ym_rope) := hD.sub [6, 2] (by decide) rfl
  refine ub_callv (ws' := (udX4_copyFrom cI h0 h1 h2 h3 h4 h5 h6 h7 yo_number ym_hour ym_rope_1 ym_strength yo_number yo_hour yo_rope yo_strength)) (va_runSN (As := [.ref h6, .ref h2]) (rest := []) ⟨hx, hb, hml, hown, hts⟩ (ucX8_copy l D cI cT hc16) ⟨va_cnB 2 hts gX4_copyFrom_X8_copy_n25 rfl rfl rfl (hN.at 10 rfl) (hts _ uvX4_copyFrom_6) uhX8_copy ⟨Nat.le_of_ble_eq_true rfl, Nat.le_of_ble_eq_true rfl⟩, (hts _ uvX4_copyFrom_5), trivial⟩ (ub_preS hPc hDc hK hN) rfl rfl hl.1 rfl (lv_room (Nat.le_of_ble_eq_true rfl)) dX4_copyFrom_16 ⟨Nat.le_of_ble_eq_true rfl, Nat.le_of_ble_eq_true rfl⟩) hP hD hS hA [6, 2] rfl (by decide) rfl rfl (fun H locs hP hD hS => ?_)
  refine lv_aload_n hx hb dX4_copyFrom_19 rfl (lv_at hl 1 rfl) ?_
  refine va_get (ci := 6) (v := .ref h5) (C := RX4) (T := TX4) (N := 4) hx hb hts uiX4_copyFrom_X4 hown hK hP 4 rfl rfl 2 (by decide) (hts _ uvX4_copyFrom_3) (fun _ h9 => h9) rfl dX4_copyFrom_20 ?_
  refine lv_aload_n hx hb dX4_copyFrom_23 rfl (lv_at hl 0 rfl) ?_
  refine va_get (ci := 6) (v := .ref h1) (C := RX4) (T := TX4) (N := 4) hx hb hts uiX4_copyFrom_X4 hown hK hP 0 rfl rfl 2 (by decide) (hts _ uvX4_copyFrom_3) (fun _ h9 => h9) rfl dX4_copyFrom_24 ?_
  obtain ⟨ym_hour_2, hc27, h⟩ := ub_b1_some h
  have hPc : va_P D vwCl (udX8_copy cI 16 16 h5 h1 yo_hour ym_hour) H := ub_pickP hP [5, 1] rfl
  have hDc : va_D A (udX8_copy cI 16 16 h5 h1 yo_hour ym_hour) := hD.sub [5, 1] (by decide) rfl
  refine ub_callv (ws' := (udX4_copyFrom cI h0 h1 h2 h3 h4 h5 h6 h7 yo_number ym_hour_2 ym_rope_1 ym_strength yo_number yo_hour yo_rope yo_strength)) (va_runSN (As := [.ref h5, .ref h1]) (rest := []) ⟨hx, hb, hml, hown, hts⟩ (ucX8_copy l D cI cT hc27) ⟨va_cnB 2 hts gX4_copyFrom_X8_copy_n25 rfl rfl rfl (hN.at 10 rfl) (hts _ uvX4_copyFrom_6) uhX8_copy ⟨Nat.le_of_ble_eq_true rfl, Nat.le_of_ble_eq_true rfl⟩, (hts _ uvX4_copyFrom_5), trivial⟩ (ub_preS hPc hDc hK hN) rfl rfl hl.1 rfl (lv_room (Nat.le_of_ble_eq_true rfl)) dX4_copyFrom_27 ⟨Nat.le_of_ble_eq_true rfl, Nat.le_of_ble_eq_true rfl⟩) hP hD hS hA [5, 1] rfl (by decide) rfl rfl (fun H locs hP hD hS => ?_)
  refine lv_aload_n hx hb dX4_copyFrom_30 rfl (lv_at hl 1 rfl) ?_
  refine va_get (ci := 6) (v := .ref h7) (C := RX4) (T := TX4) (N := 4) hx hb hts uiX4_copyFrom_X4 hown hK hP 4 rfl rfl 3 (by decide) (hts _ uvX4_copyFrom_4) (fun _ h9 => h9) rfl dX4_copyFrom_31 ?_
  refine lv_aload_n hx hb dX4_copyFrom_34 rfl (lv_at hl 0 rfl) ?_
  refine va_get (ci := 6) (v := .ref h3) (C := RX4) (T := TX4) (N := 4) hx hb hts uiX4_copyFrom_X4 hown hK hP 0 rfl rfl 3 (by decide) (hts _ uvX4_copyFrom_4) (fun _ h9 => h9) rfl dX4_copyFrom_35 ?_
  obtain ⟨ym_strength_3, hc38, h⟩ := ub_b1_some h
  have hPc : va_P D vwCl (udX8_copy cI 16 16 h7 h3 yo_strength ym_strength) H := ub_pickP hP [7, 3] rfl
  have hDc : va_D A (udX8_copy cI 16 16 h7 h3 yo_strength ym_strength) := hD.sub [7, 3] (by decide) rfl
  refine ub_callv (ws' := (udX4_copyFrom cI h0 h1 h2 h3 h4 h5 h6 h7 yo_number ym_hour_2 ym_rope_1 ym_strength_3 yo_number yo_hour yo_rope yo_strength)) (va_runSN (As := [.ref h7, .ref h3]) (rest := []) ⟨hx, hb, hml, hown, hts⟩ (ucX8_copy l D cI cT hc38) ⟨va_cnB 2 hts gX4_copyFrom_X8_copy_n25 rfl rfl rfl (hN.at 10 rfl) (hts _ uvX4_copyFrom_6) uhX8_copy ⟨Nat.le_of_ble_eq_true rfl, Nat.le_of_ble_eq_true rfl⟩, (hts _ uvX4_copyFrom_5), trivial⟩ (ub_preS hPc hDc hK hN) rfl rfl hl.1 rfl (lv_room (Nat.le_of_ble_eq_true rfl)) dX4_copyFrom_38 ⟨Nat.le_of_ble_eq_true rfl, Nat.le_of_ble_eq_true rfl⟩) hP hD hS hA [7, 3] rfl (by decide) rfl rfl (fun H locs hP hD hS => ?_)
  cases h
  exact hret H locs _ ls dX4_copyFrom_41 hP hD hS
set_option maxHeartbeats 4000000 in
set_option maxRecDepth 100000 in
theorem ucX4_copyFrom (l : Launch) (D : va_G) (cI cT : ClassId) {h0 h1 h2 h3 h4 h5 h6 h7 : Nat} {w_ym_number : Int32} {w_ym_hour : (Nat → Int32)} {w_ym_rope : (Nat → Int32)} {w_ym_strength : (Nat → Int32)} {ym_number : Int32} {ym_hour : (Nat → Int32)} {ym_rope : (Nat → Int32)} {ym_strength : (Nat → Int32)} {yo_number : Int32} {yo_hour : (Nat → Int32)} {yo_rope : (Nat → Int32)} {yo_strength : (Nat → Int32)} {sz : Nat} (h : ufX4_copyFrom ym_number ym_hour ym_rope ym_strength yo_number yo_hour yo_rope yo_strength = some (w_ym_number, w_ym_hour, w_ym_rope, w_ym_strength)) : Met l yX4_copyFrom wsX4_copyFrom ({ frames := 2, cells := 0, slots := 0, locals := 47 } : Room) (va_Pc [.ref h0, .ref h4] (ub_pc D cI cT (udX4_copyFrom cI h0 h1 h2 h3 h4 h5 h6 h7 ym_number ym_hour ym_rope ym_strength yo_number yo_hour yo_rope yo_strength) sz)) (va_Qv (fun (_ : Unit) => True) (fun _ t => ub_pq D (udX4_copyFrom cI h0 h1 h2 h3 h4 h5 h6 h7 w_ym_number w_ym_hour w_ym_rope w_ym_strength yo_number yo_hour yo_rope yo_strength) (va_A (udX4_copyFrom cI h0 h1 h2 h3 h4 h5 h6 h7 ym_number ym_hour ym_rope ym_strength yo_number yo_hour yo_rope yo_strength) sz) t) (va_A (udX4_copyFrom cI h0 h1 h2 h3 h4 h5 h6 h7 ym_number ym_hour ym_rope ym_strength yo_number yo_hour yo_rope yo_strength) sz)) 0 0 (va_A (udX4_copyFrom cI h0 h1 h2 h3 h4 h5 h6 h7 ym_number ym_hour ym_rope ym_strength yo_number yo_hour yo_rope yo_strength) sz) :=
  ub_met_v (by decide +kernel) rfl (Nat.le_of_ble_eq_true rfl) fun _ _ _ _ _ _ _ _ _ _ K hret _ hl hP hD hS => uwX4_copyFrom_E K hret h hl hP hD hS
-- X4_has
def udX4_has (cI : ClassId) (h0 : Nat) (z0 : Nat) (z1 : Nat) (z2 : Nat) (ym_number : Int32) : va_W := [(h0, .inr (6, [.int ym_number, .ref z0, .ref z1, .ref z2]))]
def ufX4_has (ym_number : Int32) (l1 : Int32) : Option (Int32) :=
  if l1 < 0 then
    some (0)
  else
    if ym_number ≤ l1 then
      some (0)
    else
      some (1)
theorem uvX4_has_1 : Cond.fieldLink RX4 21 "UnheardBells$Pulls" "number" "I" ∈ wsX4_has := List.mem_cons_of_mem _ us_m122
theorem uiX4_has_X4 : ∀ w ∈ u_ws RX4 TX4 4, w ∈ wsX4_has := fun w h => List.mem_cons_of_mem _ (us_inX4 w h)
theorem uhX4_has : yX4_has.cls ≠ "java/lang/invoke/MethodHandle" ∧ yX4_has.cls ≠ "java/lang/invoke/VarHandle" ∧ (parseMethodDescriptor yX4_has.desc).map (fun d => d.parameters.length) = some 1 := by decide +kernel
set_option maxHeartbeats 4000000 in
set_option maxRecDepth 100000 in
theorem uwX4_has_E {p : Program} {l : Launch} {e : Env} {s : State} {m : MethodId} {args : Array Value} {below : List Frame} {meth : Method} {c : Code} {Q : State → Prop} {D : va_G} {cI cT : ClassId} {A : Nat → Prop} (K : ub_kx p s m args meth c cX4_has 2 RX4 wsX4_has D cI cT A) {h0 : Nat} {z0 : Nat} {z1 : Nat} {z2 : Nat} {ym_number : Int32} {l1 : Int32} {rr : Int32} (hret : ∀ (H : Heap) (locs : List Loc) (pc : Nat) (ls : Array Slot), decode cX4_has pc = .ok (.ireturn, 1) → narrow .boolean (.int rr) = .int rr → va_P D vwCl (udX4_has cI h0 z0 z1 z2 ym_number) H → va_D A (udX4_has cI h0 z0 z1 z2 ym_number) → va_S A s.heap H locs → W p l e ({ frames := 0, cells := 0, slots := 0, locals := 0 } : Room) s m args below meth c H locs 0 0 Q (F0 m pc ls [.int rr])) (h : ufX4_has ym_number l1 = some rr) {H : Heap} {locs : List Loc} {ls : Array Slot} (hl : lv_has ls 2 [(0, .ref h0), (1, .int l1)]) (hP : va_P D vwCl (udX4_has cI h0 z0 z1 z2 ym_number) H) (hD : va_D A (udX4_has cI h0 z0 z1 z2 ym_number)) (hS : va_S A s.heap H locs) : W p l e ({ frames := 0, cells := 0, slots := 0, locals := 0 } : Room) s m args below meth c H locs 0 0 Q (F0 m 0 ls []) := by
  have K0 := K
  obtain ⟨hx, hb, hml, hown, hts, hK, hN, hA⟩ := K
  unfold ufX4_has at h
  refine lv_iload_n hx hb dX4_has_0 rfl (lv_at hl 1 rfl) ?_
  refine lv_if_lt (tgt := 16) hx hb dX4_has_1 (by decide) (fun c1 => ?_) (fun c1 => ?_)
  · have h := ub_if_t c1 h
    refine lv_iconst (v := 0) hx hb dX4_has_16 (by decide) ?_
    cases h
    exact hret H locs _ ls dX4_has_17 rfl hP hD hS
  · have h := ub_if_f c1 h
    refine lv_iload_n hx hb dX4_has_4 rfl (lv_at hl 1 rfl) ?_
    refine lv_aload_n hx hb dX4_has_5 rfl (lv_at hl 0 rfl) ?_
    refine va_get (ci := 6) (v := .int ym_number) (C := RX4) (T := TX4) (N := 4) hx hb hts uiX4_has_X4 hown hK hP 0 rfl rfl 0 (by decide) (hts _ uvX4_has_1) (fun _ h9 => h9) rfl dX4_has_6 ?_
    refine lv_icmp_ge (tgt := 16) hx hb dX4_has_9 (by decide) (fun c9 => ?_) (fun c9 => ?_)
    · have h := ub_if_t c9 h
      refine lv_iconst (v := 0) hx hb dX4_has_16 (by decide) ?_
      cases h
      exact hret H locs _ ls dX4_has_17 rfl hP hD hS
    · have h := ub_if_f c9 h
      refine lv_iconst (v := 1) hx hb dX4_has_12 (by decide) ?_
      refine lv_goto (tgt := 17) hx hb dX4_has_13 (by decide) ?_
      cases h
      exact hret H locs _ ls dX4_has_17 rfl hP hD hS
set_option maxHeartbeats 4000000 in
set_option maxRecDepth 100000 in
theorem ucX4_has (l : Launch) (D : va_G) (cI cT : ClassId) {h0 : Nat} {z0 : Nat} {z1 : Nat} {z2 : Nat} {l1 : Int32} {rr : Int32} {ym_number : Int32} {sz : Nat} (h : ufX4_has ym_number l1 = some rr) : Met l yX4_has wsX4_has ({ frames := 0, cells := 0, slots := 0, locals := 0 } : Room) (va_Pc [.ref h0, .int l1] (ub_pc D cI cT (udX4_has cI h0 z0 z1 z2 ym_number) sz)) (va_Qi (fun (r' : Int32) (_ : Unit) => r' = rr) (fun _ t => ub_pq D (udX4_has cI h0 z0 z1 z2 ym_number) (va_A (udX4_has cI h0 z0 z1 z2 ym_number) sz) t) (va_A (udX4_has cI h0 z0 z1 z2 ym_number) sz)) 0 0 (va_A (udX4_has cI h0 z0 z1 z2 ym_number) sz) :=
  ub_met_i (by decide +kernel) rfl (Nat.le_of_ble_eq_true rfl) fun _ _ _ _ _ _ _ _ _ _ K hret _ hl hP hD hS => uwX4_has_E K hret h hl hP hD hS
-- X4_isNextAt
def udX4_isNextAt (cI : ClassId) (h0 : Nat) (h1 : Nat) (z0 : Nat) (z1 : Nat) (ym_number : Int32) (ym_hour : Nat → Int32) : va_W := [(h0, .inr (6, [.int ym_number, .ref z0, .ref h1, .ref z1])), (h1, .inl (cI, 16, .inl ym_hour))]
def ufX4_isNextAt (ym_number : Int32) (ym_hour : Nat → Int32) (l1 : Int32) : Option (Int32) :=
  if ym_number ≤ 0 then
    some (0)
  else
    ub_b1 (ufX8_at 16 ym_hour 0) fun x_1 =>
    if x_1 = l1 then
      some (1)
    else
      some (0)
theorem uvX4_isNextAt_1 : Cond.fieldLink RX4 21 "UnheardBells$Pulls" "number" "I" ∈ wsX4_isNextAt := List.mem_cons_of_mem _ us_m122
theorem uvX4_isNextAt_2 : Cond.fieldLink RX4 15 "UnheardBells$Pulls" "hour" "[I" ∈ wsX4_isNextAt := List.mem_cons_of_mem _ us_m128
theorem uvX4_isNextAt_4 : Cond.initialized RX8 ∈ wsX4_isNextAt := List.mem_cons_of_mem _ us_m40
theorem uvX4_isNextAt_3 : Cond.static yX8_at ∈ wsX4_isNextAt := List.mem_cons_of_mem _ us_m404
theorem uiX4_isNextAt_X4 : ∀ w ∈ u_ws RX4 TX4 4, w ∈ wsX4_isNextAt := fun w h => List.mem_cons_of_mem _ (us_inX4 w h)
theorem uhX4_isNextAt : yX4_isNextAt.cls ≠ "java/lang/invoke/MethodHandle" ∧ yX4_isNextAt.cls ≠ "java/lang/invoke/VarHandle" ∧ (parseMethodDescriptor yX4_isNextAt.desc).map (fun d => d.parameters.length) = some 1 := by decide +kernel
set_option maxHeartbeats 4000000 in
set_option maxRecDepth 100000 in
theorem uwX4_isNextAt_E {p : Program} {l : Launch} {e : Env} {s : State} {m : MethodId} {args : Array Value} {below : List Frame} {meth : Method} {c : Code} {Q : State → Prop} {D : va_G} {cI cT : ClassId} {A : Nat → Prop} (K : ub_kx p s m args meth c cX4_isNextAt 2 RX4 wsX4_isNextAt D cI cT A) {h0 h1 : Nat} {z0 : Nat} {z1 : Nat} {ym_number : Int32} {ym_hour : (Nat → Int32)} {l1 : Int32} {rr : Int32} (hret : ∀ (H : Heap) (locs : List Loc) (pc : Nat) (ls : Array Slot), decode cX4_isNextAt pc = .ok (.ireturn, 1) → narrow .boolean (.int rr) = .int rr → va_P D vwCl (udX4_isNextAt cI h0 h1 z0 z1 ym_number ym_hour) H → va_D A (udX4_isNextAt cI h0 h1 z0 z1 ym_number ym_hour) → va_S A s.heap H locs → W p l e ({ frames := 1, cells := 0, slots := 0, locals := 21 } : Room) s m args below meth c H locs 0 0 Q (F0 m pc ls [.int rr])) (h : ufX4_isNextAt ym_number ym_hour l1 = some rr) {H : Heap} {locs : List Loc} {ls : Array Slot} (hl : lv_has ls 2 [(0, .ref h0), (1, .int l1)]) (hP : va_P D vwCl (udX4_isNextAt cI h0 h1 z0 z1 ym_number ym_hour) H) (hD : va_D A (udX4_isNextAt cI h0 h1 z0 z1 ym_number ym_hour)) (hS : va_S A s.heap H locs) : W p l e ({ frames := 1, cells := 0, slots := 0, locals := 21 } : Room) s m args below meth c H locs 0 0 Q (F0 m 0 ls []) := by
  have K0 := K
  obtain ⟨hx, hb, hml, hown, hts, hK, hN, hA⟩ := K
  unfold ufX4_isNextAt at h
  refine lv_aload_n hx hb dX4_isNextAt_0 rfl (lv_at hl 0 rfl) ?_
  refine va_get (ci := 6) (v := .int ym_number) (C := RX4) (T := TX4) (N := 4) hx hb hts uiX4_isNextAt_X4 hown hK hP 0 rfl rfl 0 (by decide) (hts _ uvX4_isNextAt_1) (fun _ h9 => h9) rfl dX4_isNextAt_1 ?_
  refine lv_if_le (tgt := 23) hx hb dX4_isNextAt_4 (by decide) (fun c4 => ?_) (fun c4 => ?_)
  · have h := ub_if_t c4 h
    refine lv_iconst (v := 0) hx hb dX4_isNextAt_23 (by decide) ?_
    cases h
    exact hret H locs _ ls dX4_isNextAt_24 rfl hP hD hS
  · have h := ub_if_f c4 h
    refine lv_aload_n hx hb dX4_isNextAt_7 rfl (lv_at hl 0 rfl) ?_
    refine va_get (ci := 6) (v := .ref h1) (C := RX4) (T := TX4) (N := 4) hx hb hts uiX4_isNextAt_X4 hown hK hP 0 rfl rfl 2 (by decide) (hts _ uvX4_isNextAt_2) (fun _ h9 => h9) rfl dX4_isNextAt_8 ?_
    refine lv_iconst (v := 0) hx hb dX4_isNextAt_11 (by decide) ?_
    obtain ⟨x_1, hc12, h⟩ := ub_b1_some h
    have hPc : va_P D vwCl (udX8_at cI 16 h1 ym_hour) H := ub_pickP hP [1] rfl
    have hDc : va_D A (udX8_at cI 16 h1 ym_hour) := hD.sub [1] (by decide) rfl
    refine ub_calli (ws' := (udX4_isNextAt cI h0 h1 z0 z1 ym_number ym_hour)) (va_runSN (As := [.ref h1, .int 0]) (rest := []) ⟨hx, hb, hml, hown, hts⟩ (ucX8_at l D cI cT hc12) ⟨va_cnB 2 hts gX4_isNextAt_X8_at_n29 rfl rfl rfl (hN.at 14 rfl) (hts _ uvX4_isNextAt_4) uhX8_at ⟨Nat.le_of_ble_eq_true rfl, Nat.le_of_ble_eq_true rfl⟩, (hts _ uvX4_isNextAt_3), trivial⟩ (ub_preS hPc hDc hK hN) rfl rfl hl.1 rfl (lv_room (Nat.le_of_ble_eq_true rfl)) dX4_isNextAt_12 ⟨Nat.le_of_ble_eq_true rfl, Nat.le_of_ble_eq_true rfl⟩) hP hD hS hA [1] rfl (by decide) rfl rfl (fun H locs hP hD hS => ?_)
    refine lv_iload_n hx hb dX4_isNextAt_15 rfl (lv_at hl 1 rfl) ?_
    refine lv_icmp_ne (tgt := 23) hx hb dX4_isNextAt_16 (by decide) (fun c16 => ?_) (fun c16 => ?_)
    · have h := ub_if_f c16 h
      refine lv_iconst (v := 0) hx hb dX4_isNextAt_23 (by decide) ?_
      cases h
      exact hret H locs _ ls dX4_isNextAt_24 rfl hP hD hS
    · have h := ub_if_t c16 h
      refine lv_iconst (v := 1) hx hb dX4_isNextAt_19 (by decide) ?_
      refine lv_goto (tgt := 24) hx hb dX4_isNextAt_20 (by decide) ?_
      cases h
      exact hret H locs _ ls dX4_isNextAt_24 rfl hP hD hS
set_option maxHeartbeats 4000000 in
set_option maxRecDepth 100000 in
theorem ucX4_isNextAt (l : Launch) (D : va_G) (cI cT : ClassId) {h0 h1 : Nat} {z0 : Nat} {z1 : Nat} {l1 : Int32} {rr : Int32} {ym_number : Int32} {ym_hour : (Nat → Int32)} {sz : Nat} (h : ufX4_isNextAt ym_number ym_hour l1 = some rr) : Met l yX4_isNextAt wsX4_isNextAt ({ frames := 1, cells := 0, slots := 0, locals := 21 } : Room) (va_Pc [.ref h0, .int l1] (ub_pc D cI cT (udX4_isNextAt cI h0 h1 z0 z1 ym_number ym_hour) sz)) (va_Qi (fun (r' : Int32) (_ : Unit) => r' = rr) (fun _ t => ub_pq D (udX4_isNextAt cI h0 h1 z0 z1 ym_number ym_hour) (va_A (udX4_isNextAt cI h0 h1 z0 z1 ym_number ym_hour) sz) t) (va_A (udX4_isNextAt cI h0 h1 z0 z1 ym_number ym_hour) sz)) 0 0 (va_A (udX4_isNextAt cI h0 h1 z0 z1 ym_number ym_hour) sz) :=
  ub_met_i (by decide +kernel) rfl (Nat.le_of_ble_eq_true rfl) fun _ _ _ _ _ _ _ _ _ _ K hret _ hl hP hD hS => uwX4_isNextAt_E K hret h hl hP hD hS
-- X4_numberIn
def udX4_numberIn (cI : ClassId) (h0 : Nat) (h1 : Nat) (z0 : Nat) (z1 : Nat) (ym_number : Int32) (ym_rope : Nat → Int32) : va_W := [(h0, .inr (6, [.int ym_number, .ref h1, .ref z0, .ref z1])), (h1, .inl (cI, 16, .inl ym_rope))]
def ulX4_numberIn_4 (ym_number : Int32) (ym_rope : Nat → Int32) (l1 : Int32) : Nat → Int32 → Int32 → Option (Int32)
  | 0, _, _ => none
  | k + 1, l2, l3 =>
    if ym_number ≤ l3 then
      some (l2)
    else
      ub_b1 (ufX8_at 16 ym_rope l3) fun x_1 =>
      ub_b1 (ufX8_isIn l1 x_1) fun x_2 =>
      if x_2 = 0 then
        ulX4_numberIn_4 ym_number ym_rope l1 k l2 (l3 + 1)
      else
        ulX4_numberIn_4 ym_number ym_rope l1 k (l2 + 1) (l3 + 1)
def ufX4_numberIn (ym_number : Int32) (ym_rope : Nat → Int32) (l1 : Int32) : Option (Int32) :=
  ulX4_numberIn_4 ym_number ym_rope l1 ub_F 0 0
theorem uvX4_numberIn_1 : Cond.fieldLink RX4 21 "UnheardBells$Pulls" "number" "I" ∈ wsX4_numberIn := List.mem_cons_of_mem _ us_m122
theorem uvX4_numberIn_2 : Cond.fieldLink RX4 9 "UnheardBells$Pulls" "rope" "[I" ∈ wsX4_numberIn := List.mem_cons_of_mem _ us_m125
theorem uvX4_numberIn_4 : Cond.initialized RX8 ∈ wsX4_numberIn := List.mem_cons_of_mem _ us_m40
theorem uvX4_numberIn_3 : Cond.static yX8_at ∈ wsX4_numberIn := List.mem_cons_of_mem _ us_m404
theorem uvX4_numberIn_6 : Cond.static yX8_isIn ∈ wsX4_numberIn := List.mem_cons_of_mem _ us_m467
theorem uiX4_numberIn_X4 : ∀ w ∈ u_ws RX4 TX4 4, w ∈ wsX4_numberIn := fun w h => List.mem_cons_of_mem _ (us_inX4 w h)
theorem uhX4_numberIn : yX4_numberIn.cls ≠ "java/lang/invoke/MethodHandle" ∧ yX4_numberIn.cls ≠ "java/lang/invoke/VarHandle" ∧ (parseMethodDescriptor yX4_numberIn.desc).map (fun d => d.parameters.length) = some 1 := by decide +kernel
set_option maxHeartbeats 4000000 in
set_option maxRecDepth 100000 in
theorem uwX4_numberIn_4 {p : Program} {l : Launch} {e : Env} {s : State} {m : MethodId} {args : Array Value} {below : List Frame} {meth : Method} {c : Code} {Q : State → Prop} {D : va_G} {cI cT : ClassId} {A : Nat → Prop} (K : ub_kx p s m args meth c cX4_numberIn 4 RX4 wsX4_numberIn D cI cT A) {h0 h1 : Nat} {z0 : Nat} {z1 : Nat} {ym_number : Int32} {ym_rope : (Nat → Int32)} {l1 : Int32} {rr : Int32} (hret : ∀ (H : Heap) (locs : List Loc) (pc : Nat) (ls : Array Slot), decode cX4_numberIn pc = .ok (.ireturn, 1) → narrow .int (.int rr) = .int rr → va_P D vwCl (udX4_numberIn cI h0 h1 z0 z1 ym_number ym_rope) H → va_D A (udX4_numberIn cI h0 h1 z0 z1 ym_number ym_rope) → va_S A s.heap H locs → W p l e ({ frames := 1, cells := 0, slots := 0, locals := 21 } : Room) s m args below meth c H locs 0 0 Q (F0 m pc ls [.int rr])) : ∀ (k : Nat) (l2 : Int32) (l3 : Int32), ulX4_numberIn_4 ym_number ym_rope l1 k l2 l3 = some rr → ∀ (H : Heap) (locs : List Loc) (ls : Array Slot), lv_has ls 4 [(0, .ref h0), (1, .int l1), (2, .int l2), (3, .int l3)] → va_P D vwCl (udX4_numberIn cI h0 h1 z0 z1 ym_number ym_rope) H → va_D A (udX4_numberIn cI h0 h1 z0 z1 ym_number ym_rope) → va_S A s.heap H locs → W p l e ({ frames := 1, cells := 0, slots := 0, locals := 21 } : Room) s m args below meth c H locs 0 0 Q (F0 m 4 ls []) := by
  have K0 := K
  obtain ⟨hx, hb, hml, hown, hts, hK, hN, hA⟩ := K
  intro k
  induction k with
  | zero =>
    intro l2 l3 h
    rw [ulX4_numberIn_4] at h
    cases h
  | succ k ih =>
    intro l2 l3 h H locs ls hl hP hD hS
    rw [ulX4_numberIn_4] at h
    refine lv_iload_n hx hb dX4_numberIn_4 rfl (lv_at hl 3 rfl) ?_
    refine lv_aload_n hx hb dX4_numberIn_5 rfl (lv_at hl 0 rfl) ?_
    refine va_get (ci := 6) (v := .int ym_number) (C := RX4) (T := TX4) (N := 4) hx hb hts uiX4_numberIn_X4 hown hK hP 0 rfl rfl 0 (by decide) (hts _ uvX4_numberIn_1) (fun _ h9 => h9) rfl dX4_numberIn_6 ?_
    refine lv_icmp_ge (tgt := 36) hx hb dX4_numberIn_9 (by decide) (fun c9 => ?_) (fun c9 => ?_)
    · have h := ub_if_t c9 h
      refine lv_iload_n hx hb dX4_numberIn_36 rfl (lv_at hl 2 rfl) ?_
      cases h
      exact hret H locs _ ls dX4_numberIn_37 rfl hP hD hS
    · have h := ub_if_f c9 h
      refine lv_iload_n hx hb dX4_numberIn_12 rfl (lv_at hl 1 rfl) ?_
      refine lv_aload_n hx hb dX4_numberIn_13 rfl (lv_at hl 0 rfl) ?_
      refine va_get (ci := 6) (v := .ref h1) (C := RX4) (T := TX4) (N := 4) hx hb hts uiX4_numberIn_X4 hown hK hP 0 rfl rfl 1 (by decide) (hts _ uvX4_numberIn_2) (fun _ h9 => h9) rfl dX4_numberIn_14 ?_
      refine lv_iload_n hx hb dX4_numberIn_17 rfl (lv_at hl 3 rfl) ?_
      obtain ⟨x_1, hc18, h⟩ := ub_b1_some h
      have hPc : va_P D vwCl (udX8_at cI 16 h1 ym_rope) H := ub_pickP hP [1] rfl
      have hDc : va_D A (udX8_at cI 16 h1 ym_rope) := hD.sub [1] (by decide) rfl
      refine ub_calli (ws' := (udX4_numberIn cI h0 h1 z0 z1 ym_number ym_rope)) (va_runSN (As := [.ref h1, .int l3]) (rest := [.int l1]) ⟨hx, hb, hml, hown, hts⟩ (ucX8_at l D cI cT hc18) ⟨va_cnB 2 hts gX4_numberIn_X8_at_n29 rfl rfl rfl (hN.at 14 rfl) (hts _ uvX4_numberIn_4) uhX8_at ⟨Nat.le_of_ble_eq_true rfl, Nat.le_of_ble_eq_true rfl⟩, (hts _ uvX4_numberIn_3), trivial⟩ (ub_preS hPc hDc hK hN) rfl rfl hl.1 rfl (lv_room (Nat.le_of_ble_eq_true rfl)) dX4_numberIn_18 ⟨Nat.le_of_ble_eq_true rfl, Nat.le_of_ble_eq_true rfl⟩) hP hD hS hA [1] rfl (by decide) rfl rfl (fun H locs hP hD hS => ?_)
      obtain ⟨x_2, hc21, h⟩ := ub_b1_some h
      have hPc : va_P D vwCl (udX8_isIn cI) H := ub_pickP hP [] rfl
      have hDc : va_D A (udX8_isIn cI) := hD.sub [] (by decide) rfl
      refine ub_calli (ws' := (udX4_numberIn cI h0 h1 z0 z1 ym_number ym_rope)) (va_runSN (As := [.int l1, .int x_1]) (rest := []) ⟨hx, hb, hml, hown, hts⟩ (ucX8_isIn l D cI cT hc21) ⟨va_cnB 2 hts gX4_numberIn_X8_isIn_n40 rfl rfl rfl (hN.at 29 rfl) (hts _ uvX4_numberIn_4) uhX8_isIn ⟨Nat.le_of_ble_eq_true rfl, Nat.le_of_ble_eq_true rfl⟩, (hts _ uvX4_numberIn_6), trivial⟩ (ub_preS hPc hDc hK hN) rfl rfl hl.1 rfl (lv_room (Nat.le_of_ble_eq_true rfl)) dX4_numberIn_21 ⟨Nat.le_of_ble_eq_true rfl, Nat.le_of_ble_eq_true rfl⟩) hP hD hS hA [] rfl (by decide) rfl rfl (fun H locs hP hD hS => ?_)
      refine lv_if_eq (tgt := 30) hx hb dX4_numberIn_24 (by decide) (fun c24 => ?_) (fun c24 => ?_)
      · have h := ub_if_t c24 h
        refine lv_iinc (v := l3 + 1) (lv' := [(3, .int (l3 + 1)), (0, .ref h0), (1, .int l1), (2, .int l2)]) hx hb dX4_numberIn_30 hl (k := 3) rfl rfl (by decide) rfl (fun ls hl => ?_)
        refine lv_goto (tgt := 4) hx hb dX4_numberIn_33 (by decide) ?_
        exact ih l2 (l3 + 1) h H locs ls (lv_sub hl [1, 2, 3, 0] rfl) hP hD hS
      · have h := ub_if_f c24 h
        refine lv_iinc (v := l2 + 1) (lv' := [(2, .int (l2 + 1)), (0, .ref h0), (1, .int l1), (3, .int l3)]) hx hb dX4_numberIn_27 hl (k := 2) rfl rfl (by decide) rfl (fun ls hl => ?_)
        refine lv_iinc (v := l3 + 1) (lv' := [(3, .int (l3 + 1)), (2, .int (l2 + 1)), (0, .ref h0), (1, .int l1)]) hx hb dX4_numberIn_30 hl (k := 3) rfl rfl (by decide) rfl (fun ls hl => ?_)
        refine lv_goto (tgt := 4) hx hb dX4_numberIn_33 (by decide) ?_
        exact ih (l2 + 1) (l3 + 1) h H locs ls (lv_sub hl [2, 3, 1, 0] rfl) hP hD hS
set_option maxHeartbeats 4000000 in
set_option maxRecDepth 100000 in
theorem uwX4_numberIn_E {p : Program} {l : Launch} {e : Env} {s : State} {m : MethodId} {args : Array Value} {below : List Frame} {meth : Method} {c : Code} {Q : State → Prop} {D : va_G} {cI cT : ClassId} {A : Nat → Prop} (K : ub_kx p s m args meth c cX4_numberIn 4 RX4 wsX4_numberIn D cI cT A) {h0 h1 : Nat} {z0 : Nat} {z1 : Nat} {ym_number : Int32} {ym_rope : (Nat → Int32)} {l1 : Int32} {rr : Int32} (hret : ∀ (H : Heap) (locs : List Loc) (pc : Nat) (ls : Array Slot), decode cX4_numberIn pc = .ok (.ireturn, 1) → narrow .int (.int rr) = .int rr → va_P D vwCl (udX4_numberIn cI h0 h1 z0 z1 ym_number ym_rope) H → va_D A (udX4_numberIn cI h0 h1 z0 z1 ym_number ym_rope) → va_S A s.heap H locs → W p l e ({ frames := 1, cells := 0, slots := 0, locals := 21 } : Room) s m args below meth c H locs 0 0 Q (F0 m pc ls [.int rr])) (h : ufX4_numberIn ym_number ym_rope l1 = some rr) {H : Heap} {locs : List Loc} {ls : Array Slot} (hl : lv_has ls 4 [(0, .ref h0), (1, .int l1)]) (hP : va_P D vwCl (udX4_numberIn cI h0 h1 z0 z1 ym_number ym_rope) H) (hD : va_D A (udX4_numberIn cI h0 h1 z0 z1 ym_number ym_rope)) (hS : va_S A s.heap H locs) : W p l e ({ frames := 1, cells := 0, slots := 0, locals := 21 } : Room) s m args below meth c H locs 0 0 Q (F0 m 0 ls []) := by
  have K0 := K
  obtain ⟨hx, hb, hml, hown, hts, hK, hN, hA⟩ := K
  unfold ufX4_numberIn at h
  refine lv_iconst (v := 0) hx hb dX4_numberIn_0 (by decide) ?_
  refine lv_istore_n (lv' := [(2, .int 0), (0, .ref h0), (1, .int l1)]) hx hb dX4_numberIn_1 rfl hl (by decide) rfl (fun ls hl => ?_)
  refine lv_iconst (v := 0) hx hb dX4_numberIn_2 (by decide) ?_
  refine lv_istore_n (lv' := [(3, .int 0), (2, .int 0), (0, .ref h0), (1, .int l1)]) hx hb dX4_numberIn_3 rfl hl (by decide) rfl (fun ls hl => ?_)
  exact uwX4_numberIn_4 K0 hret ub_F 0 0 h H locs ls (lv_sub hl [2, 3, 1, 0] rfl) hP hD hS
set_option maxHeartbeats 4000000 in
set_option maxRecDepth 100000 in
theorem ucX4_numberIn (l : Launch) (D : va_G) (cI cT : ClassId) {h0 h1 : Nat} {z0 : Nat} {z1 : Nat} {l1 : Int32} {rr : Int32} {ym_number : Int32} {ym_rope : (Nat → Int32)} {sz : Nat} (h : ufX4_numberIn ym_number ym_rope l1 = some rr) : Met l yX4_numberIn wsX4_numberIn ({ frames := 1, cells := 0, slots := 0, locals := 21 } : Room) (va_Pc [.ref h0, .int l1] (ub_pc D cI cT (udX4_numberIn cI h0 h1 z0 z1 ym_number ym_rope) sz)) (va_Qi (fun (r' : Int32) (_ : Unit) => r' = rr) (fun _ t => ub_pq D (udX4_numberIn cI h0 h1 z0 z1 ym_number ym_rope) (va_A (udX4_numberIn cI h0 h1 z0 z1 ym_number ym_rope) sz) t) (va_A (udX4_numberIn cI h0 h1 z0 z1 ym_number ym_rope) sz)) 0 0 (va_A (udX4_numberIn cI h0 h1 z0 z1 ym_number ym_rope) sz) :=
  ub_met_i (by decide +kernel) rfl (Nat.le_of_ble_eq_true rfl) fun _ _ _ _ _ _ _ _ _ _ K hret _ hl hP hD hS => uwX4_numberIn_E K hret h hl hP hD hS
-- X4_numberOf
def udX4_numberOf (cI : ClassId) (h0 : Nat) (h1 : Nat) (z0 : Nat) (z1 : Nat) (ym_number : Int32) (ym_rope : Nat → Int32) : va_W := [(h0, .inr (6, [.int ym_number, .ref h1, .ref z0, .ref z1])), (h1, .inl (cI, 16, .inl ym_rope))]
def ufX4_numberOf (ym_number : Int32) (ym_rope : Nat → Int32) (l1 : Int32) : Option (Int32) :=
  ub_b1 (ufX8_bit l1) fun x_1 =>
  ub_b1 (ufX4_numberIn ym_number ym_rope x_1) fun x_2 =>
  some (x_2)
theorem uvX4_numberOf_2 : Cond.initialized RX8 ∈ wsX4_numberOf := List.mem_cons_of_mem _ us_m40
theorem uvX4_numberOf_1 : Cond.static yX8_bit ∈ wsX4_numberOf := List.mem_cons_of_mem _ us_m491
theorem uiX4_numberOf_X4 : ∀ w ∈ u_ws RX4 TX4 4, w ∈ wsX4_numberOf := fun w h => List.mem_cons_of_mem _ (us_inX4 w h)
theorem uhX4_numberOf : yX4_numberOf.cls ≠ "java/lang/invoke/MethodHandle" ∧ yX4_numberOf.cls ≠ "java/lang/invoke/VarHandle" ∧ (parseMethodDescriptor yX4_numberOf.desc).map (fun d => d.parameters.length) = some 1 := by decide +kernel
set_option maxHeartbeats 4000000 in
set_option maxRecDepth 100000 in
theorem uwX4_numberOf_E {p : Program} {l : Launch} {e : Env} {s : State} {m : MethodId} {args : Array Value} {below : List Frame} {meth : Method} {c : Code} {Q : State → Prop} {D : va_G} {cI cT : ClassId} {A : Nat → Prop} (K : ub_kx p s m args meth c cX4_numberOf 2 RX4 wsX4_numberOf D cI cT A) {h0 h1 : Nat} {z0 : Nat} {z1 : Nat} {ym_number : Int32} {ym_rope : (Nat → Int32)} {l1 : Int32} {rr : Int32} (hret : ∀ (H : Heap) (locs : List Loc) (pc : Nat) (ls : Array Slot), decode cX4_numberOf pc = .ok (.ireturn, 1) → narrow .int (.int rr) = .int rr → va_P D vwCl (udX4_numberOf cI h0 h1 z0 z1 ym_number ym_rope) H → va_D A (udX4_numberOf cI h0 h1 z0 z1 ym_number ym_rope) → va_S A s.heap H locs → W p l e ({ frames := 2, cells := 0, slots := 0, locals := 44 } : Room) s m args below meth c H locs 0 0 Q (F0 m pc ls [.int rr])) (h : ufX4_numberOf ym_number ym_rope l1 = some rr) {H : Heap} {locs : List Loc} {ls : Array Slot} (hl : lv_has ls 2 [(0, .ref h0), (1, .int l1)]) (hP : va_P D vwCl (udX4_numberOf cI h0 h1 z0 z1 ym_number ym_rope) H) (hD : va_D A (udX4_numberOf cI h0 h1 z0 z1 ym_number ym_rope)) (hS : va_S A s.heap H locs) : W p l e ({ frames := 2, cells := 0, slots := 0, locals := 44 } : Room) s m args below meth c H locs 0 0 Q (F0 m 0 ls []) := by
  have K0 := K
  obtain ⟨hx, hb, hml, hown, hts, hK, hN, hA⟩ := K
  unfold ufX4_numberOf at h
  refine lv_aload_n hx hb dX4_numberOf_0 rfl (lv_at hl 0 rfl) ?_
  refine lv_iload_n hx hb dX4_numberOf_1 rfl (lv_at hl 1 rfl) ?_
  obtain ⟨x_1, hc2, h⟩ := ub_b1_some h
  have hPc : va_P D vwCl (udX8_bit cI) H := ub_pickP hP [] rfl
  have hDc : va_D A (udX8_bit cI) := hD.sub [] (by decide) rfl
  refine ub_calli (ws' := (udX4_numberOf cI h0 h1 z0 z1 ym_number ym_rope)) (va_runSN (As := [.int l1]) (rest := [.ref h0]) ⟨hx, hb, hml, hown, hts⟩ (ucX8_bit l D cI cT hc2) ⟨va_cnB 1 hts gX4_numberOf_X8_bit_n33 rfl rfl rfl (hN.at 28 rfl) (hts _ uvX4_numberOf_2) uhX8_bit ⟨Nat.le_of_ble_eq_true rfl, Nat.le_of_ble_eq_true rfl⟩, (hts _ uvX4_numberOf_1), trivial⟩ (ub_preS hPc hDc hK hN) rfl rfl hl.1 rfl (lv_room (Nat.le_of_ble_eq_true rfl)) dX4_numberOf_2 ⟨Nat.le_of_ble_eq_true rfl, Nat.le_of_ble_eq_true rfl⟩) hP hD hS hA [] rfl (by decide) rfl rfl (fun H locs hP hD hS => ?_)
  obtain ⟨x_2, hc5, h⟩ := ub_b1_some h
  have hPc : va_P D vwCl (udX4_numberIn cI h0 h1 z0 z1 ym_number ym_rope) H := ub_pickP hP [0, 1] rfl
  have hDc : va_D A (udX4_numberIn cI h0 h1 z0 z1 ym_number ym_rope) := hD.sub [0, 1] (by decide) rfl
  refine ub_calli (ws' := (udX4_numberOf cI h0 h1 z0 z1 ym_number ym_rope)) (va_runV (As := [.int x_1]) (rest := []) ⟨hx, hb, hml, hown, hts⟩ (ucX4_numberIn l D cI cT hc5) (cwV 1 hts gX4_numberOf_X4_numberIn rfl rfl rfl ⟨rfl, uhX4_numberIn⟩ ⟨Nat.le_of_ble_eq_true rfl, Nat.le_of_ble_eq_true rfl⟩) (ub_preV hPc hDc hK hN 0 (ci := 6) rfl rfl rfl) rfl rfl hl.1 rfl (lv_room (Nat.le_of_ble_eq_true rfl)) dX4_numberOf_5 ⟨Nat.le_of_ble_eq_true rfl, Nat.le_of_ble_eq_true rfl⟩) hP hD hS hA [0, 1] rfl (by decide) rfl rfl (fun H locs hP hD hS => ?_)
  cases h
  exact hret H locs _ ls dX4_numberOf_8 rfl hP hD hS
set_option maxHeartbeats 4000000 in
set_option maxRecDepth 100000 in
theorem ucX4_numberOf (l : Launch) (D : va_G) (cI cT : ClassId) {h0 h1 : Nat} {z0 : Nat} {z1 : Nat} {l1 : Int32} {rr : Int32} {ym_number : Int32} {ym_rope : (Nat → Int32)} {sz : Nat} (h : ufX4_numberOf ym_number ym_rope l1 = some rr) : Met l yX4_numberOf wsX4_numberOf ({ frames := 2, cells := 0, slots := 0, locals := 44 } : Room) (va_Pc [.ref h0, .int l1] (ub_pc D cI cT (udX4_numberOf cI h0 h1 z0 z1 ym_number ym_rope) sz)) (va_Qi (fun (r' : Int32) (_ : Unit) => r' = rr) (fun _ t => ub_pq D (udX4_numberOf cI h0 h1 z0 z1 ym_number ym_rope) (va_A (udX4_numberOf cI h0 h1 z0 z1 ym_number ym_rope) sz) t) (va_A (udX4_numberOf cI h0 h1 z0 z1 ym_number ym_rope) sz)) 0 0 (va_A (udX4_numberOf cI h0 h1 z0 z1 ym_number ym_rope) sz) :=
  ub_met_i (by decide +kernel) rfl (Nat.le_of_ble_eq_true rfl) fun _ _ _ _ _ _ _ _ _ _ K hret _ hl hP hD hS => uwX4_numberOf_E K hret h hl hP hD hS
-- X4_isAheadOf
def udX4_isAheadOf (cI : ClassId) (h0 : Nat) (h1 : Nat) (h2 : Nat) (h3 : Nat) (ym_number : Int32) (ym_hour : Nat → Int32) (ym_rope : Nat → Int32) (ym_strength : Nat → Int32) : va_W := [(h0, .inr (6, [.int ym_number, .ref h2, .ref h1, .ref h3])), (h1, .inl (cI, 16, .inl ym_hour)), (h2, .inl (cI, 16, .inl ym_rope)), (h3, .inl (cI, 16, .inl ym_strength))]
def ufX4_isAheadOf (ym_hour : Nat → Int32) (ym_rope : Nat → Int32) (ym_strength : Nat → Int32) (l1 : Int32) (l2 : Int32) (l3 : Int32) (l4 : Int32) : Option (Int32) :=
  ub_b1 (ufX8_at 16 ym_hour l1) fun x_1 =>
  if l3 = x_1 then
    ub_b1 (ufX8_at 16 ym_strength l1) fun x_2 =>
    if l4 = x_2 then
      ub_b1 (ufX8_at 16 ym_rope l1) fun x_3 =>
      if x_3 ≤ l2 then
        some (0)
      else
        some (1)
    else
      ub_b1 (ufX8_at 16 ym_strength l1) fun x_4 =>
      if l4 ≤ x_4 then
        some (0)
      else
        some (1)
  else
    ub_b1 (ufX8_at 16 ym_hour l1) fun x_5 =>
    if x_5 ≤ l3 then
      some (0)
    else
      some (1)
theorem uvX4_isAheadOf_1 : Cond.fieldLink RX4 15 "UnheardBells$Pulls" "hour" "[I" ∈ wsX4_isAheadOf := List.mem_cons_of_mem _ us_m128
theorem uvX4_isAheadOf_5 : Cond.initialized RX8 ∈ wsX4_isAheadOf := List.mem_cons_of_mem _ us_m40
theorem uvX4_isAheadOf_4 : Cond.static yX8_at ∈ wsX4_isAheadOf := List.mem_cons_of_mem _ us_m404
theorem uvX4_isAheadOf_2 : Cond.fieldLink RX4 18 "UnheardBells$Pulls" "strength" "[I" ∈ wsX4_isAheadOf := List.mem_cons_of_mem _ us_m131
theorem uvX4_isAheadOf_3 : Cond.fieldLink RX4 9 "UnheardBells$Pulls" "rope" "[I" ∈ wsX4_isAheadOf := List.mem_cons_of_mem _ us_m125
theorem uiX4_isAheadOf_X4 : ∀ w ∈ u_ws RX4 TX4 4, w ∈ wsX4_isAheadOf := fun w h => List.mem_cons_of_mem _ (us_inX4 w h)
theorem uhX4_isAheadOf : yX4_isAheadOf.cls ≠ "java/lang/invoke/MethodHandle" ∧ yX4_isAheadOf.cls ≠ "java/lang/invoke/VarHandle" ∧ (parseMethodDescriptor yX4_isAheadOf.desc).map (fun d => d.parameters.length) = some 4 := by decide +kernel
set_option maxHeartbeats 4000000 in
set_option maxRecDepth 100000 in
theorem uwX4_isAheadOf_E {p : Program} {l : Launch} {e : Env} {s : State} {m : MethodId} {args : Array Value} {below : List Frame} {meth : Method} {c : Code} {Q : State → Prop} {D : va_G} {cI cT : ClassId} {A : Nat → Prop} (K : ub_kx p s m args meth c cX4_isAheadOf 5 RX4 wsX4_isAheadOf D cI cT A) {h0 h1 h2 h3 : Nat} {ym_number : Int32} {ym_hour : (Nat → Int32)} {ym_rope : (Nat → Int32)} {ym_strength : (Nat → Int32)} {l1 : Int32} {l2 : Int32} {l3 : Int32} {l4 : Int32} {rr : Int32} (hret : ∀ (H : Heap) (locs : List Loc) (pc : Nat) (ls : Array Slot), decode cX4_isAheadOf pc = .ok (.ireturn, 1) → narrow .boolean (.int rr) = .int rr → va_P D vwCl (udX4_isAheadOf cI h0 h1 h2 h3 ym_number ym_hour ym_rope ym_strength) H → va_D A (udX4_isAheadOf cI h0 h1 h2 h3 ym_number ym_hour ym_rope ym_strength) → va_S A s.heap H locs → W p l e ({ frames := 1, cells := 0, slots := 0, locals := 21 } : Room) s m args below meth c H locs 0 0 Q (F0 m pc ls [.int rr])) (h : ufX4_isAheadOf ym_hour ym_rope ym_strength l1 l2 l3 l4 = some rr) {H : Heap} {locs : List Loc} {ls : Array Slot} (hl : lv_has ls 5 [(0, .ref h0), (1, .int l1), (2, .int l2), (3, .int l3), (4, .int l4)]) (hP : va_P D vwCl (udX4_isAheadOf cI h0 h1 h2 h3 ym_number ym_hour ym_rope ym_strength) H) (hD : va_D A (udX4_isAheadOf cI h0 h1 h2 h3 ym_number ym_hour ym_rope ym_strength)) (hS : va_S A s.heap H locs) : W p l e ({ frames := 1, cells := 0, slots := 0, locals := 21 } : Room) s m args below meth c H locs 0 0 Q (F0 m 0 ls []) := by
  have K0 := K
  obtain ⟨hx, hb, hml, hown, hts, hK, hN, hA⟩ := K
  unfold ufX4_isAheadOf at h
  refine lv_iload_n hx hb dX4_isAheadOf_0 rfl (lv_at hl 3 rfl) ?_
  refine lv_aload_n hx hb dX4_isAheadOf_1 rfl (lv_at hl 0 rfl) ?_
  refine va_get (ci := 6) (v := .ref h1) (C := RX4) (T := TX4) (N := 4) hx hb hts uiX4_isAheadOf_X4 hown hK hP 0 rfl rfl 2 (by decide) (hts _ uvX4_isAheadOf_1) (fun _ h9 => h9) rfl dX4_isAheadOf_2 ?_
  refine lv_iload_n hx hb dX4_isAheadOf_5 rfl (lv_at hl 1 rfl) ?_
  obtain ⟨x_1, hc6, h⟩ := ub_b1_some h
  have hPc : va_P D vwCl (udX8_at cI 16 h1 ym_hour) H := ub_pickP hP [1] rfl
  have hDc : va_D A (udX8_at cI 16 h1 ym_hour) := hD.sub [1] (by decide) rfl
  refine ub_calli (ws' := (udX4_isAheadOf cI h0 h1 h2 h3 ym_number ym_hour ym_rope ym_strength)) (va_runSN (As := [.ref h1, .int l1]) (rest := [.int l3]) ⟨hx, hb, hml, hown, hts⟩ (ucX8_at l D cI cT hc6) ⟨va_cnB 2 hts gX4_isAheadOf_X8_at_n29 rfl rfl rfl (hN.at 14 rfl) (hts _ uvX4_isAheadOf_5) uhX8_at ⟨Nat.le_of_ble_eq_true rfl, Nat.le_of_ble_eq_true rfl⟩, (hts _ uvX4_isAheadOf_4), trivial⟩ (ub_preS hPc hDc hK hN) rfl rfl hl.1 rfl (lv_room (Nat.le_of_ble_eq_true rfl)) dX4_isAheadOf_6 ⟨Nat.le_of_ble_eq_true rfl, Nat.le_of_ble_eq_true rfl⟩) hP hD hS hA [1] rfl (by decide) rfl rfl (fun H locs hP hD hS => ?_)
  refine lv_icmp_eq (tgt := 30) hx hb dX4_isAheadOf_9 (by decide) (fun c9 => ?_) (fun c9 => ?_)
  · have h := ub_if_t c9 h
    refine lv_iload hx hb dX4_isAheadOf_30 (lv_at hl 4 rfl) ?_
    refine lv_aload_n hx hb dX4_isAheadOf_32 rfl (lv_at hl 0 rfl) ?_
    refine va_get (ci := 6) (v := .ref h3) (C := RX4) (T := TX4) (N := 4) hx hb hts uiX4_isAheadOf_X4 hown hK hP 0 rfl rfl 3 (by decide) (hts _ uvX4_isAheadOf_2) (fun _ h9 => h9) rfl dX4_isAheadOf_33 ?_
    refine lv_iload_n hx hb dX4_isAheadOf_36 rfl (lv_at hl 1 rfl) ?_
    obtain ⟨x_2, hc37, h⟩ := ub_b1_some h
    have hPc : va_P D vwCl (udX8_at cI 16 h3 ym_strength) H := ub_pickP hP [3] rfl
    have hDc : va_D A (udX8_at cI 16 h3 ym_strength) := hD.sub [3] (by decide) rfl
    refine ub_calli (ws' := (udX4_isAheadOf cI h0 h1 h2 h3 ym_number ym_hour ym_rope ym_strength)) (va_runSN (As := [.ref h3, .int l1]) (rest := [.int l4]) ⟨hx, hb, hml, hown, hts⟩ (ucX8_at l D cI cT hc37) ⟨va_cnB 2 hts gX4_isAheadOf_X8_at_n29 rfl rfl rfl (hN.at 14 rfl) (hts _ uvX4_isAheadOf_5) uhX8_at ⟨Nat.le_of_ble_eq_true rfl, Nat.le_of_ble_eq_true rfl⟩, (hts _ uvX4_isAheadOf_4), trivial⟩ (ub_preS hPc hDc hK hN) rfl rfl hl.1 rfl (lv_room (Nat.le_of_ble_eq_true rfl)) dX4_isAheadOf_37 ⟨Nat.le_of_ble_eq_true rfl, Nat.le_of_ble_eq_true rfl⟩) hP hD hS hA [3] rfl (by decide) rfl rfl (fun H locs hP hD hS => ?_)
    refine lv_icmp_eq (tgt := 62) hx hb dX4_isAheadOf_40 (by decide) (fun c40 => ?_) (fun c40 => ?_)
    · have h := ub_if_t c40 h
      refine lv_iload_n hx hb dX4_isAheadOf_62 rfl (lv_at hl 2 rfl) ?_
      refine lv_aload_n hx hb dX4_isAheadOf_63 rfl (lv_at hl 0 rfl) ?_
      refine va_get (ci := 6) (v := .ref h2) (C := RX4) (T := TX4) (N := 4) hx hb hts uiX4_isAheadOf_X4 hown hK hP 0 rfl rfl 1 (by decide) (hts _ uvX4_isAheadOf_3) (fun _ h9 => h9) rfl dX4_isAheadOf_64 ?_
      refine lv_iload_n hx hb dX4_isAheadOf_67 rfl (lv_at hl 1 rfl) ?_
      obtain ⟨x_3, hc68, h⟩ := ub_b1_some h
      have hPc : va_P D vwCl (udX8_at cI 16 h2 ym_rope) H := ub_pickP hP [2] rfl
      have hDc : va_D A (udX8_at cI 16 h2 ym_rope) := hD.sub [2] (by decide) rfl
      refine ub_calli (ws' := (udX4_isAheadOf cI h0 h1 h2 h3 ym_number ym_hour ym_rope ym_strength)) (va_runSN (As := [.ref h2, .int l1]) (rest := [.int l2]) ⟨hx, hb, hml, hown, hts⟩ (ucX8_at l D cI cT hc68) ⟨va_cnB 2 hts gX4_isAheadOf_X8_at_n29 rfl rfl rfl (hN.at 14 rfl) (hts _ uvX4_isAheadOf_5) uhX8_at ⟨Nat.le_of_ble_eq_true rfl, Nat.le_of_ble_eq_true rfl⟩, (hts _ uvX4_isAheadOf_4), trivial⟩ (ub_preS hPc hDc hK hN) rfl rfl hl.1 rfl (lv_room (Nat.le_of_ble_eq_true rfl)) dX4_isAheadOf_68 ⟨Nat.le_of_ble_eq_true rfl, Nat.le_of_ble_eq_true rfl⟩) hP hD hS hA [2] rfl (by decide) rfl rfl (fun H locs hP hD hS => ?_)
      refine lv_icmp_ge (tgt := 78) hx hb dX4_isAheadOf_71 (by decide) (fun c71 => ?_) (fun c71 => ?_)
      · have h := ub_if_t c71 h
        refine lv_iconst (v := 0) hx hb dX4_isAheadOf_78 (by decide) ?_
        cases h
        exact hret H locs _ ls dX4_isAheadOf_79 rfl hP hD hS
      · have h := ub_if_f c71 h
        refine lv_iconst (v := 1) hx hb dX4_isAheadOf_74 (by decide) ?_
        refine lv_goto (tgt := 79) hx hb dX4_isAheadOf_75 (by decide) ?_
        cases h
        exact hret H locs _ ls dX4_isAheadOf_79 rfl hP hD hS
    · have h := ub_if_f c40 h
      refine lv_iload hx hb dX4_isAheadOf_43 (lv_at hl 4 rfl) ?_
      refine lv_aload_n hx hb dX4_isAheadOf_45 rfl (lv_at hl 0 rfl) ?_
      refine va_get (ci := 6) (v := .ref h3) (C := RX4) (T := TX4) (N := 4) hx hb hts uiX4_isAheadOf_X4 hown hK hP 0 rfl rfl 3 (by decide) (hts _ uvX4_isAheadOf_2) (fun _ h9 => h9) rfl dX4_isAheadOf_46 ?_
      refine lv_iload_n hx hb dX4_isAheadOf_49 rfl (lv_at hl 1 rfl) ?_
      obtain ⟨x_4, hc50, h⟩ := ub_b1_some h
      have hPc : va_P D vwCl (udX8_at cI 16 h3 ym_strength) H := ub_pickP hP [3] rfl
      have hDc : va_D A (udX8_at cI 16 h3 ym_strength) := hD.sub [3] (by decide) rfl
      refine ub_calli (ws' := (udX4_isAheadOf cI h0 h1 h2 h3 ym_number ym_hour ym_rope ym_strength)) (va_runSN (As := [.ref h3, .int l1]) (rest := [.int l4]) ⟨hx, hb, hml, hown, hts⟩ (ucX8_at l D cI cT hc50) ⟨va_cnB 2 hts gX4_isAheadOf_X8_at_n29 rfl rfl rfl (hN.at 14 rfl) (hts _ uvX4_isAheadOf_5) uhX8_at ⟨Nat.le_of_ble_eq_true rfl, Nat.le_of_ble_eq_true rfl⟩, (hts _ uvX4_isAheadOf_4), trivial⟩ (ub_preS hPc hDc hK hN) rfl rfl hl.1 rfl (lv_room (Nat.le_of_ble_eq_true rfl)) dX4_isAheadOf_50 ⟨Nat.le_of_ble_eq_true rfl, Nat.le_of_ble_eq_true rfl⟩) hP hD hS hA [3] rfl (by decide) rfl rfl (fun H locs hP hD hS => ?_)
      refine lv_icmp_le (tgt := 60) hx hb dX4_isAheadOf_53 (by decide) (fun c53 => ?_) (fun c53 => ?_)
      · have h := ub_if_t c53 h
        refine lv_iconst (v := 0) hx hb dX4_isAheadOf_60 (by decide) ?_
        cases h
        exact hret H locs _ ls dX4_isAheadOf_61 rfl hP hD hS
      · have h := ub_if_f c53 h
        refine lv_iconst (v := 1) hx hb dX4_isAheadOf_56 (by decide) ?_
        refine lv_goto (tgt := 61) hx hb dX4_isAheadOf_57 (by decide) ?_
        cases h
        exact hret H locs _ ls dX4_isAheadOf_61 rfl hP hD hS
  · have h := ub_if_f c9 h
    refine lv_iload_n hx hb dX4_isAheadOf_12 rfl (lv_at hl 3 rfl) ?_
    refine lv_aload_n hx hb dX4_isAheadOf_13 rfl (lv_at hl 0 rfl) ?_
    refine va_get (ci := 6) (v := .ref h1) (C := RX4) (T := TX4) (N := 4) hx hb hts uiX4_isAheadOf_X4 hown hK hP 0 rfl rfl 2 (by decide) (hts _ uvX4_isAheadOf_1) (fun _ h9 => h9) rfl dX4_isAheadOf_14 ?_
    refine lv_iload_n hx hb dX4_isAheadOf_17 rfl (lv_at hl 1 rfl) ?_
    obtain ⟨x_5, hc18, h⟩ := ub_b1_some h
    have hPc : va_P D vwCl (udX8_at cI 16 h1 ym_hour) H := ub_pickP hP [1] rfl
    have hDc : va_D A (udX8_at cI 16 h1 ym_hour) := hD.sub [1] (by decide) rfl
    refine ub_calli (ws' := (udX4_isAheadOf cI h0 h1 h2 h3 ym_number ym_hour ym_rope ym_strength)) (va_runSN (As := [.ref h1, .int l1]) (rest := [.int l3]) ⟨hx, hb, hml, hown, hts⟩ (ucX8_at l D cI cT hc18) ⟨va_cnB 2 hts gX4_isAheadOf_X8_at_n29 rfl rfl rfl (hN.at 14 rfl) (hts _ uvX4_isAheadOf_5) uhX8_at ⟨Nat.le_of_ble_eq_true rfl, Nat.le_of_ble_eq_true rfl⟩, (hts _ uvX4_isAheadOf_4), trivial⟩ (ub_preS hPc hDc hK hN) rfl rfl hl.1 rfl (lv_room (Nat.le_of_ble_eq_true rfl)) dX4_isAheadOf_18 ⟨Nat.le_of_ble_eq_true rfl, Nat.le_of_ble_eq_true rfl⟩) hP hD hS hA [1] rfl (by decide) rfl rfl (fun H locs hP hD hS => ?_)
    refine lv_icmp_ge (tgt := 28) hx hb dX4_isAheadOf_21 (by decide) (fun c21 => ?_) (fun c21 => ?_)
    · have h := ub_if_t c21 h
      refine lv_iconst (v := 0) hx hb dX4_isAheadOf_28 (by decide) ?_
      cases h
      exact hret H locs _ ls dX4_isAheadOf_29 rfl hP hD hS
    · have h := ub_if_f c21 h
      refine lv_iconst (v := 1) hx hb dX4_isAheadOf_24 (by decide) ?_
      refine lv_goto (tgt := 29) hx hb dX4_isAheadOf_25 (by decide) ?_
      cases h
      exact hret H locs _ ls dX4_isAheadOf_29 rfl hP hD hS
set_option maxHeartbeats 4000000 in
set_option maxRecDepth 100000 in
theorem ucX4_isAheadOf (l : Launch) (D : va_G) (cI cT : ClassId) {h0 h1 h2 h3 : Nat} {l1 : Int32} {l2 : Int32} {l3 : Int32} {l4 : Int32} {rr : Int32} {ym_number : Int32} {ym_hour : (Nat → Int32)} {ym_rope : (Nat → Int32)} {ym_strength : (Nat → Int32)} {sz : Nat} (h : ufX4_isAheadOf ym_hour ym_rope ym_strength l1 l2 l3 l4 = some rr) : Met l yX4_isAheadOf wsX4_isAheadOf ({ frames := 1, cells := 0, slots := 0, locals := 21 } : Room) (va_Pc [.ref h0, .int l1, .int l2, .int l3, .int l4] (ub_pc D cI cT (udX4_isAheadOf cI h0 h1 h2 h3 ym_number ym_hour ym_rope ym_strength) sz)) (va_Qi (fun (r' : Int32) (_ : Unit) => r' = rr) (fun _ t => ub_pq D (udX4_isAheadOf cI h0 h1 h2 h3 ym_number ym_hour ym_rope ym_strength) (va_A (udX4_isAheadOf cI h0 h1 h2 h3 ym_number ym_hour ym_rope ym_strength) sz) t) (va_A (udX4_isAheadOf cI h0 h1 h2 h3 ym_number ym_hour ym_rope ym_strength) sz)) 0 0 (va_A (udX4_isAheadOf cI h0 h1 h2 h3 ym_number ym_hour ym_rope ym_strength) sz) :=
  ub_met_i (by decide +kernel) rfl (Nat.le_of_ble_eq_true rfl) fun _ _ _ _ _ _ _ _ _ _ K hret _ hl hP hD hS => uwX4_isAheadOf_E K hret h hl hP hD hS
-- X4_carry
def udX4_carry (cI : ClassId) (h0 : Nat) (h1 : Nat) (h2 : Nat) (h3 : Nat) (ym_number : Int32) (ym_hour : Nat → Int32) (ym_rope : Nat → Int32) (ym_strength : Nat → Int32) : va_W := [(h0, .inr (6, [.int ym_number, .ref h2, .ref h1, .ref h3])), (h1, .inl (cI, 16, .inl ym_hour)), (h2, .inl (cI, 16, .inl ym_rope)), (h3, .inl (cI, 16, .inl ym_strength))]
def ufX4_carry (ym_hour : Nat → Int32) (ym_rope : Nat → Int32) (ym_strength : Nat → Int32) (l1 : Int32) (l2 : Int32) : Option ((Nat → Int32) × (Nat → Int32) × (Nat → Int32)) :=
  ub_b1 (ufX8_at 16 ym_rope l1) fun x_1 =>
  ub_b1 (ufX8_put 16 ym_rope l2 x_1) fun ym_rope_2 =>
  ub_b1 (ufX8_at 16 ym_hour l1) fun x_3 =>
  ub_b1 (ufX8_put 16 ym_hour l2 x_3) fun ym_hour_4 =>
  ub_b1 (ufX8_at 16 ym_strength l1) fun x_5 =>
  ub_b1 (ufX8_put 16 ym_strength l2 x_5) fun ym_strength_6 =>
  some (ym_hour_4, ym_rope_2, ym_strength_6)
theorem uvX4_carry_1 : Cond.fieldLink RX4 9 "UnheardBells$Pulls" "rope" "[I" ∈ wsX4_carry := List.mem_cons_of_mem _ us_m125
theorem uvX4_carry_5 : Cond.initialized RX8 ∈ wsX4_carry := List.mem_cons_of_mem _ us_m40
theorem uvX4_carry_4 : Cond.static yX8_at ∈ wsX4_carry := List.mem_cons_of_mem _ us_m404
theorem uvX4_carry_7 : Cond.static yX8_put ∈ wsX4_carry := List.mem_cons_of_mem _ us_m380
theorem uvX4_carry_2 : Cond.fieldLink RX4 15 "UnheardBells$Pulls" "hour" "[I" ∈ wsX4_carry := List.mem_cons_of_mem _ us_m128
theorem uvX4_carry_3 : Cond.fieldLink RX4 18 "UnheardBells$Pulls" "strength" "[I" ∈ wsX4_carry := List.mem_cons_of_mem _ us_m131
theorem uiX4_carry_X4 : ∀ w ∈ u_ws RX4 TX4 4, w ∈ wsX4_carry := fun w h => List.mem_cons_of_mem _ (us_inX4 w h)
theorem uhX4_carry : yX4_carry.cls ≠ "java/lang/invoke/MethodHandle" ∧ yX4_carry.cls ≠ "java/lang/invoke/VarHandle" ∧ (parseMethodDescriptor yX4_carry.desc).map (fun d => d.parameters.length) = some 2 := by decide +kernel
set_option maxHeartbeats 4000000 in
set_option maxRecDepth 100000 in
theorem uwX4_carry_E {p : Program} {l : Launch} {e : Env} {s : State} {m : MethodId} {args : Array Value} {below : List Frame} {meth : Method} {c : Code} {Q : State → Prop} {D : va_G} {cI cT : ClassId} {A : Nat → Prop} (K : ub_kx p s m args meth c cX4_carry 3 RX4 wsX4_carry D cI cT A) {h0 h1 h2 h3 : Nat} {ym_number : Int32} {ym_hour : (Nat → Int32)} {ym_rope : (Nat → Int32)} {ym_strength : (Nat → Int32)} {l1 : Int32} {l2 : Int32} {w_ym_hour : (Nat → Int32)} {w_ym_rope : (Nat → Int32)} {w_ym_strength : (Nat → Int32)} (hret : ∀ (H : Heap) (locs : List Loc) (pc : Nat) (ls : Array Slot), decode cX4_carry pc = .ok (.return_, 1) → va_P D vwCl (udX4_carry cI h0 h1 h2 h3 ym_number w_ym_hour w_ym_rope w_ym_strength) H → va_D A (udX4_carry cI h0 h1 h2 h3 ym_number w_ym_hour w_ym_rope w_ym_strength) → va_S A s.heap H locs → W p l e ({ frames := 1, cells := 0, slots := 0, locals := 22 } : Room) s m args below meth c H locs 0 0 Q (F0 m pc ls [])) (h : ufX4_carry ym_hour ym_rope ym_strength l1 l2 = some (w_ym_hour, w_ym_rope, w_ym_strength)) {H : Heap} {locs : List Loc} {ls : Array Slot} (hl : lv_has ls 3 [(0, .ref h0), (1, .int l1), (2, .int l2)]) (hP : va_P D vwCl (udX4_carry cI h0 h1 h2 h3 ym_number ym_hour ym_rope ym_strength) H) (hD : va_D A (udX4_carry cI h0 h1 h2 h3 ym_number ym_hour ym_rope ym_strength)) (hS : va_S A s.heap H locs) : W p l e ({ frames := 1, cells := 0, slots := 0, locals := 22 } : Room) s m args below meth c H locs 0 0 Q (F0 m 0 ls []) := by
  have K0 := K
  obtain ⟨hx, hb, hml, hown, hts, hK, hN, hA⟩ := K
  unfold ufX4_carry at h
  refine lv_aload_n hx hb dX4_carry_0 rfl (lv_at hl 0 rfl) ?_
  refine va_get (ci := 6) (v := .ref h2) (C := RX4) (T := TX4) (N := 4) hx hb hts uiX4_carry_X4 hown hK hP 0 rfl rfl 1 (by decide) (hts _ uvX4_carry_1) (fun _ h9 => h9) rfl dX4_carry_1 ?_
  refine lv_iload_n hx hb dX4_carry_4 rfl (lv_at hl 2 rfl) ?_
  refine lv_aload_n hx hb dX4_carry_5 rfl (lv_at hl 0 rfl) ?_
  refine va_get (ci := 6) (v := .ref h2) (C := RX4) (T := TX4) (N := 4) hx hb hts uiX4_carry_X4 hown hK hP 0 rfl rfl 1 (by decide) (hts _ uvX4_carry_1) (fun _ h9 => h9) rfl dX4_carry_6 ?_
  refine lv_iload_n hx hb dX4_carry_9 rfl (lv_at hl 1 rfl) ?_
  obtain ⟨x_1, hc10, h⟩ := ub_b1_some h
  have hPc : va_P D vwCl (udX8_at cI 16 h2 ym_rope) H := ub_pickP hP [2] rfl
  have hDc : va_D A (udX8_at cI 16 h2 ym_rope) := hD.sub [2] (by decide) rfl
  refine ub_calli (ws' := (udX4_carry cI h0 h1 h2 h3 ym_number ym_hour ym_rope ym_strength)) (va_runSN (As := [.ref h2, .int l1]) (rest := [.int l2, .ref h2]) ⟨hx, hb, hml, hown, hts⟩ (ucX8_at l D cI cT hc10) ⟨va_cnB 2 hts gX4_carry_X8_at_n29 rfl rfl rfl (hN.at 14 rfl) (hts _ uvX4_carry_5) uhX8_at ⟨Nat.le_of_ble_eq_true rfl, Nat.le_of_ble_eq_true rfl⟩, (hts _ uvX4_carry_4), trivial⟩ (ub_preS hPc hDc hK hN) rfl rfl hl.1 rfl (lv_room (Nat.le_of_ble_eq_true rfl)) dX4_carry_10 ⟨Nat.le_of_ble_eq_true rfl, Nat.le_of_ble_eq_true rfl⟩) hP hD hS hA [2] rfl (by decide) rfl rfl (fun H locs hP hD hS => ?_)
  obtain ⟨ym_rope_2, hc13, h⟩ := ub_b1_some h
  have hPc : va_P D vwCl (udX8_put cI 16 h2 ym_rope) H := ub_pickP hP [2] rfl
  have hDc : va_D A (udX8_put cI 16 h2 ym_rope) := hD.sub [2] (by decide) rfl
  refine ub_callv (ws' := (udX4_carry cI h0 h1 h2 h3 ym_number ym_hour ym_rope_2 ym_strength)) (va_runSN (As := [.ref h2, .int l2, .int x_1]) (rest := []) ⟨hx, hb, hml, hown, hts⟩ (ucX8_put l D cI cT hc13) ⟨va_cnB 3 hts gX4_carry_X8_put_n52 rfl rfl rfl (hN.at 15 rfl) (hts _ uvX4_carry_5) uhX8_put ⟨Nat.le_of_ble_eq_true rfl, Nat.le_of_ble_eq_true rfl⟩, (hts _ uvX4_carry_7), trivial⟩ (ub_preS hPc hDc hK hN) rfl rfl hl.1 rfl (lv_room (Nat.le_of_ble_eq_true rfl)) dX4_carry_13 ⟨Nat.le_of_ble_eq_true rfl, Nat.le_of_ble_eq_true rfl⟩) hP hD hS hA [2] rfl (by decide) rfl rfl (fun H locs hP hD hS => ?_)
  refine lv_aload_n hx hb dX4_carry_16 rfl (lv_at hl 0 rfl) ?_
  refine va_get (ci := 6) (v := .ref h1) (C := RX4) (T := TX4) (N := 4) hx hb hts uiX4_carry_X4 hown hK hP 0 rfl rfl 2 (by decide) (hts _ uvX4_carry_2) (fun _ h9 => h9) rfl dX4_carry_17 ?_
  refine lv_iload_n hx hb dX4_carry_20 rfl (lv_at hl 2 rfl) ?_
  refine lv_aload_n hx hb dX4_carry_21 rfl (lv_at hl 0 rfl) ?_
  refine va_get (ci := 6) (v := .ref h1) (C := RX4) (T := TX4) (N := 4) hx hb hts uiX4_carry_X4 hown hK hP 0 rfl rfl 2 (by decide) (hts _ uvX4_carry_2) (fun _ h9 => h9) rfl dX4_carry_22 ?_
  refine lv_iload_n hx hb dX4_carry_25 rfl (lv_at hl 1 rfl) ?_
  obtain ⟨x_3, hc26, h⟩ := ub_b1_some h
  have hPc : va_P D vwCl (udX8_at cI 16 h1 ym_hour) H := ub_pickP hP [1] rfl
  have hDc : va_D A (udX8_at cI 16 h1 ym_hour) := hD.sub [1] (by decide) rfl
  refine ub_calli (ws' := (udX4_carry cI h0 h1 h2 h3 ym_number ym_hour ym_rope_2 ym_strength)) (va_runSN (As := [.ref h1, .int l1]) (rest := [.int l2, .ref h1]) ⟨hx, hb, hml, hown, hts⟩ (ucX8_at l D cI cT hc26) ⟨va_cnB 2 hts gX4_carry_X8_at_n29 rfl rfl rfl (hN.at 14 rfl) (hts _ uvX4_carry_5) uhX8_at ⟨Nat.le_of_ble_eq_true rfl, Nat.le_of_ble_eq_true rfl⟩, (hts _ uvX4_carry_4), trivial⟩ (ub_preS hPc hDc hK hN) rfl rfl hl.1 rfl (lv_room (Nat.le_of_ble_eq_true rfl)) dX4_carry_26 ⟨Nat.le_of_ble_eq_true rfl, Nat.le_of_ble_eq_true rfl⟩) hP hD hS hA [1] rfl (by decide) rfl rfl (fun H locs hP hD hS => ?_)
  obtain ⟨ym_hour_4, hc29, h⟩ := ub_b1_some h
  have hPc : va_P D vwCl (udX8_put cI 16 h1 ym_hour) H := ub_pickP hP [1] rfl
  have hDc : va_D A (udX8_put cI 16 h1 ym_hour) := hD.sub [1] (by decide) rfl
  refine ub_callv (ws' := (udX4_carry cI h0 h1 h2 h3 ym_number ym_hour_4 ym_rope_2 ym_strength)) (va_runSN (As := [.ref h1, .int l2, .int x_3]) (rest := []) ⟨hx, hb, hml, hown, hts⟩ (ucX8_put l D cI cT hc29) ⟨va_cnB 3 hts gX4_carry_X8_put_n52 rfl rfl rfl (hN.at 15 rfl) (hts _ uvX4_carry_5) uhX8_put ⟨Nat.le_of_ble_eq_true rfl, Nat.le_of_ble_eq_true rfl⟩, (hts _ uvX4_carry_7), trivial⟩ (ub_preS hPc hDc hK hN) rfl rfl hl.1 rfl (lv_room (Nat.le_of_ble_eq_true rfl)) dX4_carry_29 ⟨Nat.le_of_ble_eq_true rfl, Nat.le_of_ble_eq_true rfl⟩) hP hD hS hA [1] rfl (by decide) rfl rfl (fun H locs hP hD hS => ?_)
  refine lv_aload_n hx hb dX4_carry_32 rfl (lv_at hl 0 rfl) ?_
  refine va_get (ci := 6) (v := .ref h3) (C := RX4) (T := TX4) (N := 4) hx hb hts uiX4_carry_X4 hown hK hP 0 rfl rfl 3 (by decide) (hts _ uvX4_carry_3) (fun _ h9 => h9) rfl dX4_carry_33 ?_
  refine lv_iload_n hx hb dX4_carry_36 rfl (lv_at hl 2 rfl) ?_
  refine lv_aload_n hx hb dX4_carry_37 rfl (lv_at hl 0 rfl) ?_
  refine va_get (ci := 6) (v := .ref h3) (C := RX4) (T := TX4) (N := 4) hx hb hts uiX4_carry_X4 hown hK hP 0 rfl rfl 3 (by decide) (hts _ uvX4_carry_3) (fun _ h9 => h9) rfl dX4_carry_38 ?_
  refine lv_iload_n hx hb dX4_carry_41 rfl (lv_at hl 1 rfl) ?_
  obtain ⟨x_5, hc42, h⟩ := ub_b1_some h
  have hPc : va_P D vwCl (udX8_at cI 16 h3 ym_strength) H := ub_pickP hP [3] rfl
  have hDc : va_D A (udX8_at cI 16 h3 ym_strength) := hD.sub [3] (by decide) rfl
  refine ub_calli (ws' := (udX4_carry cI h0 h1 h2 h3 ym_number ym_hour_4 ym_rope_2 ym_strength)) (va_runSN (As := [.ref h3, .int l1]) (rest := [.int l2, .ref h3]) ⟨hx, hb, hml, hown, hts⟩ (ucX8_at l D cI cT hc42) ⟨va_cnB 2 hts gX4_carry_X8_at_n29 rfl rfl rfl (hN.at 14 rfl) (hts _ uvX4_carry_5) uhX8_at ⟨Nat.le_of_ble_eq_true rfl, Nat.le_of_ble_eq_true rfl⟩, (hts _ uvX4_carry_4), trivial⟩ (ub_preS hPc hDc hK hN) rfl rfl hl.1 rfl (lv_room (Nat.le_of_ble_eq_true rfl)) dX4_carry_42 ⟨Nat.le_of_ble_eq_true rfl, Nat.le_of_ble_eq_true rfl⟩) hP hD hS hA [3] rfl (by decide) rfl rfl (fun H locs hP hD hS => ?_)
  obtain ⟨ym_strength_6, hc45, h⟩ := ub_b1_some h
  have hPc : va_P D vwCl (udX8_put cI 16 h3 ym_strength) H := ub_pickP hP [3] rfl
  have hDc : va_D A (udX8_put cI 16 h3 ym_strength) := hD.sub [3] (by decide) rfl
  refine ub_callv (ws' := (udX4_carry cI h0 h1 h2 h3 ym_number ym_hour_4 ym_rope_2 ym_strength_6)) (va_runSN (As := [.ref h3, .int l2, .int x_5]) (rest := []) ⟨hx, hb, hml, hown, hts⟩ (ucX8_put l D cI cT hc45) ⟨va_cnB 3 hts gX4_carry_X8_put_n52 rfl rfl rfl (hN.at 15 rfl) (hts _ uvX4_carry_5) uhX8_put ⟨Nat.le_of_ble_eq_true rfl, Nat.le_of_ble_eq_true rfl⟩, (hts _ uvX4_carry_7), trivial⟩ (ub_preS hPc hDc hK hN) rfl rfl hl.1 rfl (lv_room (Nat.le_of_ble_eq_true rfl)) dX4_carry_45 ⟨Nat.le_of_ble_eq_true rfl, Nat.le_of_ble_eq_true rfl⟩) hP hD hS hA [3] rfl (by decide) rfl rfl (fun H locs hP hD hS => ?_)
  cases h
  exact hret H locs _ ls dX4_carry_48 hP hD hS
set_option maxHeartbeats 4000000 in
set_option maxRecDepth 100000 in
theorem ucX4_carry (l : Launch) (D : va_G) (cI cT : ClassId) {h0 h1 h2 h3 : Nat} {l1 : Int32} {l2 : Int32} {w_ym_hour : (Nat → Int32)} {w_ym_rope : (Nat → Int32)} {w_ym_strength : (Nat → Int32)} {ym_number : Int32} {ym_hour : (Nat → Int32)} {ym_rope : (Nat → Int32)} {ym_strength : (Nat → Int32)} {sz : Nat} (h : ufX4_carry ym_hour ym_rope ym_strength l1 l2 = some (w_ym_hour, w_ym_rope, w_ym_strength)) : Met l yX4_carry wsX4_carry ({ frames := 1, cells := 0, slots := 0, locals := 22 } : Room) (va_Pc [.ref h0, .int l1, .int l2] (ub_pc D cI cT (udX4_carry cI h0 h1 h2 h3 ym_number ym_hour ym_rope ym_strength) sz)) (va_Qv (fun (_ : Unit) => True) (fun _ t => ub_pq D (udX4_carry cI h0 h1 h2 h3 ym_number w_ym_hour w_ym_rope w_ym_strength) (va_A (udX4_carry cI h0 h1 h2 h3 ym_number ym_hour ym_rope ym_strength) sz) t) (va_A (udX4_carry cI h0 h1 h2 h3 ym_number ym_hour ym_rope ym_strength) sz)) 0 0 (va_A (udX4_carry cI h0 h1 h2 h3 ym_number ym_hour ym_rope ym_strength) sz) :=
  ub_met_v (by decide +kernel) rfl (Nat.le_of_ble_eq_true rfl) fun _ _ _ _ _ _ _ _ _ _ K hret _ hl hP hD hS => uwX4_carry_E K hret h hl hP hD hS
-- X4_insert
def udX4_insert (cI : ClassId) (h0 : Nat) (h1 : Nat) (h2 : Nat) (h3 : Nat) (ym_number : Int32) (ym_hour : Nat → Int32) (ym_rope : Nat → Int32) (ym_strength : Nat → Int32) : va_W := [(h0, .inr (6, [.int ym_number, .ref h2, .ref h1, .ref h3])), (h1, .inl (cI, 16, .inl ym_hour)), (h2, .inl (cI, 16, .inl ym_rope)), (h3, .inl (cI, 16, .inl ym_strength))]
def ujX4_insert_51 (ym_number : Int32) (ym_hour : Nat → Int32) (ym_rope : Nat → Int32) (ym_strength : Nat → Int32) (l1 : Int32) (l2 : Int32) (l3 : Int32) (l4 : Int32) : Option (Int32 × Int32 × (Nat → Int32) × (Nat → Int32) × (Nat → Int32)) :=
  ub_b1 (ufX8_put 16 ym_rope l4 l1) fun ym_rope_1 =>
  ub_b1 (ufX8_put 16 ym_hour l4 l2) fun ym_hour_2 =>
  ub_b1 (ufX8_put 16 ym_strength l4 l3) fun ym_strength_3 =>
  some (l4, ym_number, ym_hour_2, ym_rope_1, ym_strength_3)
def ulX4_insert_16 (ym_number : Int32) (l1 : Int32) (l2 : Int32) (l3 : Int32) : Nat → (Nat → Int32) → (Nat → Int32) → (Nat → Int32) → Int32 → Option (Int32 × Int32 × (Nat → Int32) × (Nat → Int32) × (Nat → Int32))
  | 0, _, _, _, _ => none
  | k + 1, ym_hour, ym_rope, ym_strength, l4 =>
    if l4 ≤ 0 then
      ujX4_insert_51 ym_number ym_hour ym_rope ym_strength l1 l2 l3 l4
    else
      ub_b1 (ufX4_isAheadOf ym_hour ym_rope ym_strength (l4 - 1) l1 l2 l3) fun x_4 =>
      if x_4 = 0 then
        ujX4_insert_51 ym_number ym_hour ym_rope ym_strength l1 l2 l3 l4
      else
        ub_b3 (ufX4_carry ym_hour ym_rope ym_strength (l4 - 1) l4) fun ym_hour_5 ym_rope_6 ym_strength_7 =>
        ulX4_insert_16 ym_number l1 l2 l3 k ym_hour_5 ym_rope_6 ym_strength_7 (l4 + (-1))
def ufX4_insert (ym_number : Int32) (ym_hour : Nat → Int32) (ym_rope : Nat → Int32) (ym_strength : Nat → Int32) (l1 : Int32) (l2 : Int32) (l3 : Int32) : Option (Int32 × Int32 × (Nat → Int32) × (Nat → Int32) × (Nat → Int32)) :=
  ulX4_insert_16 (ym_number + 1) l1 l2 l3 ub_F ym_hour ym_rope ym_strength ym_number
theorem uvX4_insert_1 : Cond.fieldLink RX4 21 "UnheardBells$Pulls" "number" "I" ∈ wsX4_insert := List.mem_cons_of_mem _ us_m122
theorem uvX4_insert_2 : Cond.fieldLink RX4 9 "UnheardBells$Pulls" "rope" "[I" ∈ wsX4_insert := List.mem_cons_of_mem _ us_m125
theorem uvX4_insert_11 : Cond.initialized RX8 ∈ wsX4_insert := List.mem_cons_of_mem _ us_m40
theorem uvX4_insert_17 : Cond.static yX8_put ∈ wsX4_insert := List.mem_cons_of_mem _ us_m380
theorem uvX4_insert_3 : Cond.fieldLink RX4 15 "UnheardBells$Pulls" "hour" "[I" ∈ wsX4_insert := List.mem_cons_of_mem _ us_m128
theorem uvX4_insert_4 : Cond.fieldLink RX4 18 "UnheardBells$Pulls" "strength" "[I" ∈ wsX4_insert := List.mem_cons_of_mem _ us_m131
theorem uiX4_insert_X4 : ∀ w ∈ u_ws RX4 TX4 4, w ∈ wsX4_insert := fun w h => List.mem_cons_of_mem _ (us_inX4 w h)
theorem uhX4_insert : yX4_insert.cls ≠ "java/lang/invoke/MethodHandle" ∧ yX4_insert.cls ≠ "java/lang/invoke/VarHandle" ∧ (parseMethodDescriptor yX4_insert.desc).map (fun d => d.parameters.length) = some 3 := by decide +kernel
set_option maxHeartbeats 4000000 in
set_option maxRecDepth 100000 in
theorem uwX4_insert_51 {p : Program} {l : Launch} {e : Env} {s : State} {m : MethodId} {args : Array Value} {below : List Frame} {meth : Method} {c : Code} {Q : State → Prop} {D : va_G} {cI cT : ClassId} {A : Nat → Prop} (K : ub_kx p s m args meth c cX4_insert 5 RX4 wsX4_insert D cI cT A) {h0 h1 h2 h3 : Nat} {ym_number : Int32} {ym_hour : (Nat → Int32)} {ym_rope : (Nat → Int32)} {ym_strength : (Nat → Int32)} {l1 : Int32} {l2 : Int32} {l3 : Int32} {l4 : Int32} {rr : Int32} {w_ym_number : Int32} {w_ym_hour : (Nat → Int32)} {w_ym_rope : (Nat → Int32)} {w_ym_strength : (Nat → Int32)} (hret : ∀ (H : Heap) (locs : List Loc) (pc : Nat) (ls : Array Slot), decode cX4_insert pc = .ok (.ireturn, 1) → narrow .int (.int rr) = .int rr → va_P D vwCl (udX4_insert cI h0 h1 h2 h3 w_ym_number w_ym_hour w_ym_rope w_ym_strength) H → va_D A (udX4_insert cI h0 h1 h2 h3 w_ym_number w_ym_hour w_ym_rope w_ym_strength) → va_S A s.heap H locs → W p l e ({ frames := 2, cells := 0, slots := 0, locals := 45 } : Room) s m args below meth c H locs 0 0 Q (F0 m pc ls [.int rr])) (h : ujX4_insert_51 ym_number ym_hour ym_rope ym_strength l1 l2 l3 l4 = some (rr, w_ym_number, w_ym_hour, w_ym_rope, w_ym_strength)) {H : Heap} {locs : List Loc} {ls : Array Slot} (hl : lv_has ls 5 [(0, .ref h0), (1, .int l1), (2, .int l2), (3, .int l3), (4, .int l4)]) (hP : va_P D vwCl (udX4_insert cI h0 h1 h2 h3 ym_number ym_hour ym_rope ym_strength) H) (hD : va_D A (udX4_insert cI h0 h1 h2 h3 ym_number ym_hour ym_rope ym_strength)) (hS : va_S A s.heap H locs) : W p l e ({ frames := 2, cells := 0, slots := 0, locals := 45 } : Room) s m args below meth c H locs 0 0 Q (F0 m 51 ls []) := by
  have K0 := K
  obtain ⟨hx, hb, hml, hown, hts, hK, hN, hA⟩ := K
  unfold ujX4_insert_51 at h
  refine lv_aload_n hx hb dX4_insert_51 rfl (lv_at hl 0 rfl) ?_
  refine va_get (ci := 6) (v := .ref h2) (C := RX4) (T := TX4) (N := 4) hx hb hts uiX4_insert_X4 hown hK hP 0 rfl rfl 1 (by decide) (hts _ uvX4_insert_2) (fun _ h9 => h9) rfl dX4_insert_52 ?_
  refine lv_iload hx hb dX4_insert_55 (lv_at hl 4 rfl) ?_
  refine lv_iload_n hx hb dX4_insert_57 rfl (lv_at hl 1 rfl) ?_
  obtain ⟨ym_rope_1, hc58, h⟩ := ub_b1_some h
  have hPc : va_P D vwCl (udX8_put cI 16 h2 ym_rope) H := ub_pickP hP [2] rfl
  have hDc : va_D A (udX8_put cI 16 h2 ym_rope) := hD.sub [2] (by decide) rfl
  refine ub_callv (ws' := (udX4_insert cI h0 h1 h2 h3 ym_number ym_hour ym_rope_1 ym_strength)) (va_runSN (As := [.ref h2, .int l4, .int l1]) (rest := []) ⟨hx, hb, hml, hown, hts⟩ (ucX8_put l D cI cT hc58) ⟨va_cnB 3 hts gX4_insert_X8_put_n52 rfl rfl rfl (hN.at 15 rfl) (hts _ uvX4_insert_11) uhX8_put ⟨Nat.le_of_ble_eq_true rfl, Nat.le_of_ble_eq_true rfl⟩, (hts _ uvX4_insert_17), trivial⟩ (ub_preS hPc hDc hK hN) rfl rfl hl.1 rfl (lv_room (Nat.le_of_ble_eq_true rfl)) dX4_insert_58 ⟨Nat.le_of_ble_eq_true rfl, Nat.le_of_ble_eq_true rfl⟩) hP hD hS hA [2] rfl (by decide) rfl rfl (fun H locs hP hD hS => ?_)
  refine lv_aload_n hx hb dX4_insert_61 rfl (lv_at hl 0 rfl) ?_
  refine va_get (ci := 6) (v := .ref h1) (C := RX4) (T := TX4) (N := 4) hx hb hts uiX4_insert_X4 hown hK hP 0 rfl rfl 2 (by decide) (hts _ uvX4_insert_3) (fun _ h9 => h9) rfl dX4_insert_62 ?_
  refine lv_iload hx hb dX4_insert_65 (lv_at hl 4 rfl) ?_
  refine lv_iload_n hx hb dX4_insert_67 rfl (lv_at hl 2 rfl) ?_
  obtain ⟨ym_hour_2, hc68, h⟩ := ub_b1_some h
  have hPc : va_P D vwCl (udX8_put cI 16 h1 ym_hour) H := ub_pickP hP [1] rfl
  have hDc : va_D A (udX8_put cI 16 h1 ym_hour) := hD.sub [1] (by decide) rfl
  refine ub_callv (ws' := (udX4_insert cI h0 h1 h2 h3 ym_number ym_hour_2 ym_rope_1 ym_strength)) (va_runSN (As := [.ref h1, .int l4, .int l2]) (rest := []) ⟨hx, hb, hml, hown, hts⟩ (ucX8_put l D cI cT hc68) ⟨va_cnB 3 hts gX4_insert_X8_put_n52 rfl rfl rfl (hN.at 15 rfl) (hts _ uvX4_insert_11) uhX8_put ⟨Nat.le_of_ble_eq_true rfl, Nat.le_of_ble_eq_true rfl⟩, (hts _ uvX4_insert_17), trivial⟩ (ub_preS hPc hDc hK hN) rfl rfl hl.1 rfl (lv_room (Nat.le_of_ble_eq_true rfl)) dX4_insert_68 ⟨Nat.le_of_ble_eq_true rfl, Nat.le_of_ble_eq_true rfl⟩) hP hD hS hA [1] rfl (by decide) rfl rfl (fun H locs hP hD hS => ?_)
  refine lv_aload_n hx hb dX4_insert_71 rfl (lv_at hl 0 rfl) ?_
  refine va_get (ci := 6) (v := .ref h3) (C := RX4) (T := TX4) (N := 4) hx hb hts uiX4_insert_X4 hown hK hP 0 rfl rfl 3 (by decide) (hts _ uvX4_insert_4) (fun _ h9 => h9) rfl dX4_insert_72 ?_
  refine lv_iload hx hb dX4_insert_75 (lv_at hl 4 rfl) ?_
  refine lv_iload_n hx hb dX4_insert_77 rfl (lv_at hl 3 rfl) ?_
  obtain ⟨ym_strength_3, hc78, h⟩ := ub_b1_some h
  have hPc : va_P D vwCl (udX8_put cI 16 h3 ym_strength) H := ub_pickP hP [3] rfl
  have hDc : va_D A (udX8_put cI 16 h3 ym_strength) := hD.sub [3] (by decide) rfl
  refine ub_callv (ws' := (udX4_insert cI h0 h1 h2 h3 ym_number ym_hour_2 ym_rope_1 ym_strength_3)) (va_runSN (As := [.ref h3, .int l4, .int l3]) (rest := []) ⟨hx, hb, hml, hown, hts⟩ (ucX8_put l D cI cT hc78) ⟨va_cnB 3 hts gX4_insert_X8_put_n52 rfl rfl rfl (hN.at 15 rfl) (hts _ uvX4_insert_11) uhX8_put ⟨Nat.le_of_ble_eq_true rfl, Nat.le_of_ble_eq_true rfl⟩, (hts _ uvX4_insert_17), trivial⟩ (ub_preS hPc hDc hK hN) rfl rfl hl.1 rfl (lv_room (Nat.le_of_ble_eq_true rfl)) dX4_insert_78 ⟨Nat.le_of_ble_eq_true rfl, Nat.le_of_ble_eq_true rfl⟩) hP hD hS hA [3] rfl (by decide) rfl rfl (fun H locs hP hD hS => ?_)
  refine lv_iload hx hb dX4_insert_81 (lv_at hl 4 rfl) ?_
  cases h
  exact hret H locs _ ls dX4_insert_83 rfl hP hD hS
set_option maxHeartbeats 4000000 in
set_option maxRecDepth 100000 in
theorem uwX4_insert_16 {p : Program} {l : Launch} {e : Env} {s : State} {m : MethodId} {args : Array Value} {below : List Frame} {meth : Method} {c : Code} {Q : State → Prop} {D : va_G} {cI cT : ClassId} {A : Nat → Prop} (K : ub_kx p s m args meth c cX4_insert 5 RX4 wsX4_insert D cI cT A) {h0 h1 h2 h3 : Nat} {ym_number : Int32} {l1 : Int32} {l2 : Int32} {l3 : Int32} {rr : Int32} {w_ym_number : Int32} {w_ym_hour : (Nat → Int32)} {w_ym_rope : (Nat → Int32)} {w_ym_strength : (Nat → Int32)} (hret : ∀ (H : Heap) (locs : List Loc) (pc : Nat) (ls : Array Slot), decode cX4_insert pc = .ok (.ireturn, 1) → narrow .int (.int rr) = .int rr → va_P D vwCl (udX4_insert cI h0 h1 h2 h3 w_ym_number w_ym_hour w_ym_rope w_ym_strength) H → va_D A (udX4_insert cI h0 h1 h2 h3 w_ym_number w_ym_hour w_ym_rope w_ym_strength) → va_S A s.heap H locs → W p l e ({ frames := 2, cells := 0, slots := 0, locals := 45 } : Room) s m args below meth c H locs 0 0 Q (F0 m pc ls [.int rr])) : ∀ (k : Nat) (ym_hour : (Nat → Int32)) (ym_rope : (Nat → Int32)) (ym_strength : (Nat → Int32)) (l4 : Int32), ulX4_insert_16 ym_number l1 l2 l3 k ym_hour ym_rope ym_strength l4 = some (rr, w_ym_number, w_ym_hour, w_ym_rope, w_ym_strength) → ∀ (H : Heap) (locs : List Loc) (ls : Array Slot), lv_has ls 5 [(0, .ref h0), (1, .int l1), (2, .int l2), (3, .int l3), (4, .int l4)] → va_P D vwCl (udX4_insert cI h0 h1 h2 h3 ym_number ym_hour ym_rope ym_strength) H → va_D A (udX4_insert cI h0 h1 h2 h3 ym_number ym_hour ym_rope ym_strength) → va_S A s.heap H locs → W p l e ({ frames := 2, cells := 0, slots := 0, locals := 45 } : Room) s m args below meth c H locs 0 0 Q (F0 m 16 ls []) := by
  have K0 := K
  obtain ⟨hx, hb, hml, hown, hts, hK, hN, hA⟩ := K
  intro k
  induction k with
  | zero =>
    intro ym_hour ym_rope ym_strength l4 h
    rw [ulX4_insert_16] at h
    cases h
  | succ k ih =>
    intro ym_hour ym_rope ym_strength l4 h H locs ls hl hP hD hS
    rw [ulX4_insert_16] at h
    refine lv_iload hx hb dX4_insert_16 (lv_at hl 4 rfl) ?_
    refine lv_if_le (tgt := 51) hx hb dX4_insert_18 (by decide) (fun c18 => ?_) (fun c18 => ?_)
    · have h := ub_if_t c18 h
      exact uwX4_insert_51 K0 hret h (lv_sub hl [0, 1, 2, 3, 4] rfl) hP hD hS
    · have h := ub_if_f c18 h
      refine lv_aload_n hx hb dX4_insert_21 rfl (lv_at hl 0 rfl) ?_
      refine lv_iload hx hb dX4_insert_22 (lv_at hl 4 rfl) ?_
      refine lv_iconst (v := 1) hx hb dX4_insert_24 (by decide) ?_
      refine lv_isub hx hb dX4_insert_25 ?_
      refine lv_iload_n hx hb dX4_insert_26 rfl (lv_at hl 1 rfl) ?_
      refine lv_iload_n hx hb dX4_insert_27 rfl (lv_at hl 2 rfl) ?_
      refine lv_iload_n hx hb dX4_insert_28 rfl (lv_at hl 3 rfl) ?_
      obtain ⟨x_4, hc29, h⟩ := ub_b1_some h
      have hPc : va_P D vwCl (udX4_isAheadOf cI h0 h1 h2 h3 ym_number ym_hour ym_rope ym_strength) H := ub_pickP hP [0, 1, 2, 3] rfl
      have hDc : va_D A (udX4_isAheadOf cI h0 h1 h2 h3 ym_number ym_hour ym_rope ym_strength) := hD.sub [0, 1, 2, 3] (by decide) rfl
      refine ub_calli (ws' := (udX4_insert cI h0 h1 h2 h3 ym_number ym_hour ym_rope ym_strength)) (va_runV (As := [.int (l4 - 1), .int l1, .int l2, .int l3]) (rest := []) ⟨hx, hb, hml, hown, hts⟩ (ucX4_isAheadOf l D cI cT hc29) (cwV 4 hts gX4_insert_X4_isAheadOf rfl rfl rfl ⟨rfl, uhX4_isAheadOf⟩ ⟨Nat.le_of_ble_eq_true rfl, Nat.le_of_ble_eq_true rfl⟩) (ub_preV hPc hDc hK hN 0 (ci := 6) rfl rfl rfl) rfl rfl hl.1 rfl (lv_room (Nat.le_of_ble_eq_true rfl)) dX4_insert_29 ⟨Nat.le_of_ble_eq_true rfl, Nat.le_of_ble_eq_true rfl⟩) hP hD hS hA [0, 1, 2, 3] rfl (by decide) rfl rfl (fun H locs hP hD hS => ?_)
      refine lv_if_eq (tgt := 51) hx hb dX4_insert_32 (by decide) (fun c32 => ?_) (fun c32 => ?_)
      · have h := ub_if_t c32 h
        exact uwX4_insert_51 K0 hret h (lv_sub hl [0, 1, 2, 3, 4] rfl) hP hD hS
      · have h := ub_if_f c32 h
        refine lv_aload_n hx hb dX4_insert_35 rfl (lv_at hl 0 rfl) ?_
        refine lv_iload hx hb dX4_insert_36 (lv_at hl 4 rfl) ?_
        refine lv_iconst (v := 1) hx hb dX4_insert_38 (by decide) ?_
        refine lv_isub hx hb dX4_insert_39 ?_
        refine lv_iload hx hb dX4_insert_40 (lv_at hl 4 rfl) ?_
        obtain ⟨ym_hour_5, ym_rope_6, ym_strength_7, hc42, h⟩ := ub_b3_some h
        have hPc : va_P D vwCl (udX4_carry cI h0 h1 h2 h3 ym_number ym_hour ym_rope ym_strength) H := ub_pickP hP [0, 1, 2, 3] rfl
        have hDc : va_D A (udX4_carry cI h0 h1 h2 h3 ym_number ym_hour ym_rope ym_strength) := hD.sub [0, 1, 2, 3] (by decide) rfl
        refine ub_callv (ws' := (udX4_insert cI h0 h1 h2 h3 ym_number ym_hour_5 ym_rope_6 ym_strength_7)) (va_runV (As := [.int (l4 - 1), .int l4]) (rest := []) ⟨hx, hb, hml, hown, hts⟩ (ucX4_carry l D cI cT hc42) (cwV 2 hts gX4_insert_X4_carry rfl rfl rfl ⟨rfl, uhX4_carry⟩ ⟨Nat.le_of_ble_eq_true rfl, Nat.le_of_ble_eq_true rfl⟩) (ub_preV hPc hDc hK hN 0 (ci := 6) rfl rfl rfl) rfl rfl hl.1 rfl (lv_room (Nat.le_of_ble_eq_true rfl)) dX4_insert_42 ⟨Nat.le_of_ble_eq_true rfl, Nat.le_of_ble_eq_true rfl⟩) hP hD hS hA [0, 1, 2, 3] rfl (by decide) rfl rfl (fun H locs hP hD hS => ?_)
        refine lv_iinc (v := l4 + (-1)) (lv' := [(4, .int (l4 + (-1))), (0, .ref h0), (1, .int l1), (2, .int l2), (3, .int l3)]) hx hb dX4_insert_45 hl (k := 4) rfl rfl (by decide) rfl (fun ls hl => ?_)
        refine lv_goto (tgt := 16) hx hb dX4_insert_48 (by decide) ?_
        exact ih ym_hour_5 ym_rope_6 ym_strength_7 (l4 + (-1)) h H locs ls (lv_sub hl [1, 2, 3, 4, 0] rfl) hP hD hS
set_option maxHeartbeats 4000000 in
set_option maxRecDepth 100000 in
theorem uwX4_insert_E {p : Program} {l : Launch} {e : Env} {s : State} {m : MethodId} {args : Array Value} {below : List Frame} {meth : Method} {c : Code} {Q : State → Prop} {D : va_G} {cI cT : ClassId} {A : Nat → Prop} (K : ub_kx p s m args meth c cX4_insert 5 RX4 wsX4_insert D cI cT A) {h0 h1 h2 h3 : Nat} {ym_number : Int32} {ym_hour : (Nat → Int32)} {ym_rope : (Nat → Int32)} {ym_strength : (Nat → Int32)} {l1 : Int32} {l2 : Int32} {l3 : Int32} {rr : Int32} {w_ym_number : Int32} {w_ym_hour : (Nat → Int32)} {w_ym_rope : (Nat → Int32)} {w_ym_strength : (Nat → Int32)} (hret : ∀ (H : Heap) (locs : List Loc) (pc : Nat) (ls : Array Slot), decode cX4_insert pc = .ok (.ireturn, 1) → narrow .int (.int rr) = .int rr → va_P D vwCl (udX4_insert cI h0 h1 h2 h3 w_ym_number w_ym_hour w_ym_rope w_ym_strength) H → va_D A (udX4_insert cI h0 h1 h2 h3 w_ym_number w_ym_hour w_ym_rope w_ym_strength) → va_S A s.heap H locs → W p l e ({ frames := 2, cells := 0, slots := 0, locals := 45 } : Room) s m args below meth c H locs 0 0 Q (F0 m pc ls [.int rr])) (h : ufX4_insert ym_number ym_hour ym_rope ym_strength l1 l2 l3 = some (rr, w_ym_number, w_ym_hour, w_ym_rope, w_ym_strength)) {H : Heap} {locs : List Loc} {ls : Array Slot} (hl : lv_has ls 5 [(0, .ref h0), (1, .int l1), (2, .int l2), (3, .int l3)]) (hP : va_P D vwCl (udX4_insert cI h0 h1 h2 h3 ym_number ym_hour ym_rope ym_strength) H) (hD : va_D A (udX4_insert cI h0 h1 h2 h3 ym_number ym_hour ym_rope ym_strength)) (hS : va_S A s.heap H locs) : W p l e ({ frames := 2, cells := 0, slots := 0, locals := 45 } : Room) s m args below meth c H locs 0 0 Q (F0 m 0 ls []) := by
  have K0 := K
  obtain ⟨hx, hb, hml, hown, hts, hK, hN, hA⟩ := K
  unfold ufX4_insert at h
  refine lv_aload_n hx hb dX4_insert_0 rfl (lv_at hl 0 rfl) ?_
  refine va_get (ci := 6) (v := .int ym_number) (C := RX4) (T := TX4) (N := 4) hx hb hts uiX4_insert_X4 hown hK hP 0 rfl rfl 0 (by decide) (hts _ uvX4_insert_1) (fun _ h9 => h9) rfl dX4_insert_1 ?_
  refine lv_istore (lv' := [(4, .int ym_number), (0, .ref h0), (1, .int l1), (2, .int l2), (3, .int l3)]) hx hb dX4_insert_4 hl (by decide) rfl (fun ls hl => ?_)
  refine lv_aload_n hx hb dX4_insert_6 rfl (lv_at hl 1 rfl) ?_
  refine lv_dup hx hb dX4_insert_7 rfl ?_
  refine va_get (ci := 6) (v := .int ym_number) (C := RX4) (T := TX4) (N := 4) hx hb hts uiX4_insert_X4 hown hK hP 0 rfl rfl 0 (by decide) (hts _ uvX4_insert_1) (fun _ h9 => h9) rfl dX4_insert_8 ?_
  refine lv_iconst (v := 1) hx hb dX4_insert_11 (by decide) ?_
  refine lv_iadd hx hb dX4_insert_12 ?_
  refine ub_put (ws' := (udX4_insert cI h0 h1 h2 h3 (ym_number + 1) ym_hour ym_rope ym_strength)) (ci := 6) (C := RX4) (T := TX4) (N := 4) hx hb hts uiX4_insert_X4 tyX4 tyX4_ok nmX4 hown hK hP hD hS 0 0 (v := .int (ym_number + 1)) (ty := tyX4 0) rfl rfl (by decide) (hts _ uvX4_insert_1) (fun _ h9 => h9) rfl (tyX4_ok 0 (by decide)) rfl rfl (Nat.le_of_ble_eq_true rfl) rfl dX4_insert_13 (fun H locs hP hD hS => ?_)
  exact uwX4_insert_16 K0 hret ub_F ym_hour ym_rope ym_strength ym_number h H locs ls (lv_sub hl [1, 2, 3, 4, 0] rfl) hP hD hS
set_option maxHeartbeats 4000000 in
set_option maxRecDepth 100000 in
theorem ucX4_insert (l : Launch) (D : va_G) (cI cT : ClassId) {h0 h1 h2 h3 : Nat} {l1 : Int32} {l2 : Int32} {l3 : Int32} {rr : Int32} {w_ym_number : Int32} {w_ym_hour : (Nat → Int32)} {w_ym_rope : (Nat → Int32)} {w_ym_strength : (Nat → Int32)} {ym_number : Int32} {ym_hour : (Nat → Int32)} {ym_rope : (Nat → Int32)} {ym_strength : (Nat → Int32)} {sz : Nat} (h : ufX4_insert ym_number ym_hour ym_rope ym_strength l1 l2 l3 = some (rr, w_ym_number, w_ym_hour, w_ym_rope, w_ym_strength)) : Met l yX4_insert wsX4_insert ({ frames := 2, cells := 0, slots := 0, locals := 45 } : Room) (va_Pc [.ref h0, .int l1, .int l2, .int l3] (ub_pc D cI cT (udX4_insert cI h0 h1 h2 h3 ym_number ym_hour ym_rope ym_strength) sz)) (va_Qi (fun (r' : Int32) (_ : Unit) => r' = rr) (fun _ t => ub_pq D (udX4_insert cI h0 h1 h2 h3 w_ym_number w_ym_hour w_ym_rope w_ym_strength) (va_A (udX4_insert cI h0 h1 h2 h3 ym_number ym_hour ym_rope ym_strength) sz) t) (va_A (udX4_insert cI h0 h1 h2 h3 ym_number ym_hour ym_rope ym_strength) sz)) 0 0 (va_A (udX4_insert cI h0 h1 h2 h3 ym_number ym_hour ym_rope ym_strength) sz) :=
  ub_met_i (by decide +kernel) rfl (Nat.le_of_ble_eq_true rfl) fun _ _ _ _ _ _ _ _ _ _ K hret _ hl hP hD hS => uwX4_insert_E K hret h hl hP hD hS
-- X4_removeFirst
def udX4_removeFirst (cI : ClassId) (h0 : Nat) (h1 : Nat) (h2 : Nat) (h3 : Nat) (ym_number : Int32) (ym_hour : Nat → Int32) (ym_rope : Nat → Int32) (ym_strength : Nat → Int32) : va_W := [(h0, .inr (6, [.int ym_number, .ref h2, .ref h1, .ref h3])), (h1, .inl (cI, 16, .inl ym_hour)), (h2, .inl (cI, 16, .inl ym_rope)), (h3, .inl (cI, 16, .inl ym_strength))]
def ulX4_removeFirst_2 (ym_number : Int32) : Nat → (Nat → Int32) → (Nat → Int32) → (Nat → Int32) → Int32 → Option (Int32 × (Nat → Int32) × (Nat → Int32) × (Nat → Int32))
  | 0, _, _, _, _ => none
  | k + 1, ym_hour, ym_rope, ym_strength, l1 =>
    if ym_number ≤ l1 then
      ub_nm (if (ym_number - 1) < 0 then 0 else (ym_number - 1)) fun x_1 =>
      some (x_1, ym_hour, ym_rope, ym_strength)
    else
      ub_b3 (ufX4_carry ym_hour ym_rope ym_strength l1 (l1 - 1)) fun ym_hour_2 ym_rope_3 ym_strength_4 =>
      ulX4_removeFirst_2 ym_number k ym_hour_2 ym_rope_3 ym_strength_4 (l1 + 1)
def ufX4_removeFirst (ym_number : Int32) (ym_hour : Nat → Int32) (ym_rope : Nat → Int32) (ym_strength : Nat → Int32) : Option (Int32 × (Nat → Int32) × (Nat → Int32) × (Nat → Int32)) :=
  ulX4_removeFirst_2 ym_number ub_F ym_hour ym_rope ym_strength 1
theorem uvX4_removeFirst_1 : Cond.fieldLink RX4 21 "UnheardBells$Pulls" "number" "I" ∈ wsX4_removeFirst := List.mem_cons_of_mem _ us_m122
theorem uvX4_removeFirst_2 : Cond.methodLink RX4 56 Lib.Math.max.name ∈ wsX4_removeFirst := List.mem_cons_of_mem _ us_m463
theorem uvX4_removeFirst_3 : Cond.static Lib.Math.max.name ∈ wsX4_removeFirst := List.mem_cons_of_mem _ us_m464
theorem uvX4_removeFirst_4 : Cond.initialized "java/lang/Math" ∈ wsX4_removeFirst := List.mem_cons_of_mem _ us_m49
theorem uvX4_removeFirst_5 : Cond.code Lib.Math.max.name Lib.Math.max.code 2 (some .int) ∈ wsX4_removeFirst := List.mem_cons_of_mem _ us_m465
theorem uiX4_removeFirst_X4 : ∀ w ∈ u_ws RX4 TX4 4, w ∈ wsX4_removeFirst := fun w h => List.mem_cons_of_mem _ (us_inX4 w h)
theorem uhX4_removeFirst : yX4_removeFirst.cls ≠ "java/lang/invoke/MethodHandle" ∧ yX4_removeFirst.cls ≠ "java/lang/invoke/VarHandle" ∧ (parseMethodDescriptor yX4_removeFirst.desc).map (fun d => d.parameters.length) = some 0 := by decide +kernel
set_option maxHeartbeats 4000000 in
set_option maxRecDepth 100000 in
theorem uwX4_removeFirst_2 {p : Program} {l : Launch} {e : Env} {s : State} {m : MethodId} {args : Array Value} {below : List Frame} {meth : Method} {c : Code} {Q : State → Prop} {D : va_G} {cI cT : ClassId} {A : Nat → Prop} (K : ub_kx p s m args meth c cX4_removeFirst 2 RX4 wsX4_removeFirst D cI cT A) {h0 h1 h2 h3 : Nat} {ym_number : Int32} {w_ym_number : Int32} {w_ym_hour : (Nat → Int32)} {w_ym_rope : (Nat → Int32)} {w_ym_strength : (Nat → Int32)} (hret : ∀ (H : Heap) (locs : List Loc) (pc : Nat) (ls : Array Slot), decode cX4_removeFirst pc = .ok (.return_, 1) → va_P D vwCl (udX4_removeFirst cI h0 h1 h2 h3 w_ym_number w_ym_hour w_ym_rope w_ym_strength) H → va_D A (udX4_removeFirst cI h0 h1 h2 h3 w_ym_number w_ym_hour w_ym_rope w_ym_strength) → va_S A s.heap H locs → W p l e ({ frames := 2, cells := 0, slots := 0, locals := 44 } : Room) s m args below meth c H locs 0 0 Q (F0 m pc ls [])) : ∀ (k : Nat) (ym_hour : (Nat → Int32)) (ym_rope : (Nat → Int32)) (ym_strength : (Nat → Int32)) (l1 : Int32), ulX4_removeFirst_2 ym_number k ym_hour ym_rope ym_strength l1 = some (w_ym_number, w_ym_hour, w_ym_rope, w_ym_strength) → ∀ (H : Heap) (locs : List Loc) (ls : Array Slot), lv_has ls 2 [(0, .ref h0), (1, .int l1)] → va_P D vwCl (udX4_removeFirst cI h0 h1 h2 h3 ym_number ym_hour ym_rope ym_strength) H → va_D A (udX4_removeFirst cI h0 h1 h2 h3 ym_number ym_hour ym_rope ym_strength) → va_S A s.heap H locs → W p l e ({ frames := 2, cells := 0, slots := 0, locals := 44 } : Room) s m args below meth c H locs 0 0 Q (F0 m 2 ls []) := by
  have K0 := K
  obtain ⟨hx, hb, hml, hown, hts, hK, hN, hA⟩ := K
  intro k
  induction k with
  | zero =>
    intro ym_hour ym_rope ym_strength l1 h
    rw [ulX4_removeFirst_2] at h
    cases h
  | succ k ih =>
    intro ym_hour ym_rope ym_strength l1 h H locs ls hl hP hD hS
    rw [ulX4_removeFirst_2] at h
    refine lv_iload_n hx hb dX4_removeFirst_2 rfl (lv_at hl 1 rfl) ?_
    refine lv_aload_n hx hb dX4_removeFirst_3 rfl (lv_at hl 0 rfl) ?_
    refine va_get (ci := 6) (v := .int ym_number) (C := RX4) (T := TX4) (N := 4) hx hb hts uiX4_removeFirst_X4 hown hK hP 0 rfl rfl 0 (by decide) (hts _ uvX4_removeFirst_1) (fun _ h9 => h9) rfl dX4_removeFirst_4 ?_
    refine lv_icmp_ge (tgt := 24) hx hb dX4_removeFirst_7 (by decide) (fun c7 => ?_) (fun c7 => ?_)
    · have h := ub_if_t c7 h
      refine lv_aload_n hx hb dX4_removeFirst_24 rfl (lv_at hl 0 rfl) ?_
      refine lv_aload_n hx hb dX4_removeFirst_25 rfl (lv_at hl 0 rfl) ?_
      refine va_get (ci := 6) (v := .int ym_number) (C := RX4) (T := TX4) (N := 4) hx hb hts uiX4_removeFirst_X4 hown hK hP 0 rfl rfl 0 (by decide) (hts _ uvX4_removeFirst_1) (fun _ h9 => h9) rfl dX4_removeFirst_26 ?_
      refine lv_iconst (v := 1) hx hb dX4_removeFirst_29 (by decide) ?_
      refine lv_isub hx hb dX4_removeFirst_30 ?_
      refine lv_iconst (v := 0) hx hb dX4_removeFirst_31 (by decide) ?_
      refine va_mmax hx hb (hml.trans hl.1.symm) hown (hts _ uvX4_removeFirst_2) (hts _ uvX4_removeFirst_3) (hts _ uvX4_removeFirst_4) (hts _ uvX4_removeFirst_5) (Nat.le_of_ble_eq_true rfl) (Nat.le_of_ble_eq_true rfl) (Nat.le_of_ble_eq_true rfl) (Nat.le_of_ble_eq_true rfl) dX4_removeFirst_32 ?_
      obtain ⟨x_1, ex_1, h⟩ := ub_nm_some h
      refine ub_topi ex_1 ?_
      refine ub_put (ws' := (udX4_removeFirst cI h0 h1 h2 h3 x_1 ym_hour ym_rope ym_strength)) (ci := 6) (C := RX4) (T := TX4) (N := 4) hx hb hts uiX4_removeFirst_X4 tyX4 tyX4_ok nmX4 hown hK hP hD hS 0 0 (v := .int x_1) (ty := tyX4 0) rfl rfl (by decide) (hts _ uvX4_removeFirst_1) (fun _ h9 => h9) rfl (tyX4_ok 0 (by decide)) rfl rfl (Nat.le_of_ble_eq_true rfl) rfl dX4_removeFirst_35 (fun H locs hP hD hS => ?_)
      cases h
      exact hret H locs _ ls dX4_removeFirst_38 hP hD hS
    · have h := ub_if_f c7 h
      refine lv_aload_n hx hb dX4_removeFirst_10 rfl (lv_at hl 0 rfl) ?_
      refine lv_iload_n hx hb dX4_removeFirst_11 rfl (lv_at hl 1 rfl) ?_
      refine lv_iload_n hx hb dX4_removeFirst_12 rfl (lv_at hl 1 rfl) ?_
      refine lv_iconst (v := 1) hx hb dX4_removeFirst_13 (by decide) ?_
      refine lv_isub hx hb dX4_removeFirst_14 ?_
      obtain ⟨ym_hour_2, ym_rope_3, ym_strength_4, hc15, h⟩ := ub_b3_some h
      have hPc : va_P D vwCl (udX4_carry cI h0 h1 h2 h3 ym_number ym_hour ym_rope ym_strength) H := ub_pickP hP [0, 1, 2, 3] rfl
      have hDc : va_D A (udX4_carry cI h0 h1 h2 h3 ym_number ym_hour ym_rope ym_strength) := hD.sub [0, 1, 2, 3] (by decide) rfl
      refine ub_callv (ws' := (udX4_removeFirst cI h0 h1 h2 h3 ym_number ym_hour_2 ym_rope_3 ym_strength_4)) (va_runV (As := [.int l1, .int (l1 - 1)]) (rest := []) ⟨hx, hb, hml, hown, hts⟩ (ucX4_carry l D cI cT hc15) (cwV 2 hts gX4_removeFirst_X4_carry rfl rfl rfl ⟨rfl, uhX4_carry⟩ ⟨Nat.le_of_ble_eq_true rfl, Nat.le_of_ble_eq_true rfl⟩) (ub_preV hPc hDc hK hN 0 (ci := 6) rfl rfl rfl) rfl rfl hl.1 rfl (lv_room (Nat.le_of_ble_eq_true rfl)) dX4_removeFirst_15 ⟨Nat.le_of_ble_eq_true rfl, Nat.le_of_ble_eq_true rfl⟩) hP hD hS hA [0, 1, 2, 3] rfl (by decide) rfl rfl (fun H locs hP hD hS => ?_)
      refine lv_iinc (v := l1 + 1) (lv' := [(1, .int (l1 + 1)), (0, .ref h0)]) hx hb dX4_removeFirst_18 hl (k := 1) rfl rfl (by decide) rfl (fun ls hl => ?_)
      refine lv_goto (tgt := 2) hx hb dX4_removeFirst_21 (by decide) ?_
      exact ih ym_hour_2 ym_rope_3 ym_strength_4 (l1 + 1) h H locs ls (lv_sub hl [1, 0] rfl) hP hD hS
set_option maxHeartbeats 4000000 in
set_option maxRecDepth 100000 in
theorem uwX4_removeFirst_E {p : Program} {l : Launch} {e : Env} {s : State} {m : MethodId} {args : Array Value} {below : List Frame} {meth : Method} {c : Code} {Q : State → Prop} {D : va_G} {cI cT : ClassId} {A : Nat → Prop} (K : ub_kx p s m args meth c cX4_removeFirst 2 RX4 wsX4_removeFirst D cI cT A) {h0 h1 h2 h3 : Nat} {ym_number : Int32} {ym_hour : (Nat → Int32)} {ym_rope : (Nat → Int32)} {ym_strength : (Nat → Int32)} {w_ym_number : Int32} {w_ym_hour : (Nat → Int32)} {w_ym_rope : (Nat → Int32)} {w_ym_strength : (Nat → Int32)} (hret : ∀ (H : Heap) (locs : List Loc) (pc : Nat) (ls : Array Slot), decode cX4_removeFirst pc = .ok (.return_, 1) → va_P D vwCl (udX4_removeFirst cI h0 h1 h2 h3 w_ym_number w_ym_hour w_ym_rope w_ym_strength) H → va_D A (udX4_removeFirst cI h0 h1 h2 h3 w_ym_number w_ym_hour w_ym_rope w_ym_strength) → va_S A s.heap H locs → W p l e ({ frames := 2, cells := 0, slots := 0, locals := 44 } : Room) s m args below meth c H locs 0 0 Q (F0 m pc ls [])) (h : ufX4_removeFirst ym_number ym_hour ym_rope ym_strength = some (w_ym_number, w_ym_hour, w_ym_rope, w_ym_strength)) {H : Heap} {locs : List Loc} {ls : Array Slot} (hl : lv_has ls 2 [(0, .ref h0)]) (hP : va_P D vwCl (udX4_removeFirst cI h0 h1 h2 h3 ym_number ym_hour ym_rope ym_strength) H) (hD : va_D A (udX4_removeFirst cI h0 h1 h2 h3 ym_number ym_hour ym_rope ym_strength)) (hS : va_S A s.heap H locs) : W p l e ({ frames := 2, cells := 0, slots := 0, locals := 44 } : Room) s m args below meth c H locs 0 0 Q (F0 m 0 ls []) := by
  have K0 := K
  obtain ⟨hx, hb, hml, hown, hts, hK, hN, hA⟩ := K
  unfold ufX4_removeFirst at h
  refine lv_iconst (v := 1) hx hb dX4_removeFirst_0 (by decide) ?_
  refine lv_istore_n (lv' := [(1, .int 1), (0, .ref h0)]) hx hb dX4_removeFirst_1 rfl hl (by decide) rfl (fun ls hl => ?_)
  exact uwX4_removeFirst_2 K0 hret ub_F ym_hour ym_rope ym_strength 1 h H locs ls (lv_sub hl [1, 0] rfl) hP hD hS
set_option maxHeartbeats 4000000 in
set_option maxRecDepth 100000 in
theorem ucX4_removeFirst (l : Launch) (D : va_G) (cI cT : ClassId) {h0 h1 h2 h3 : Nat} {w_ym_number : Int32} {w_ym_hour : (Nat → Int32)} {w_ym_rope : (Nat → Int32)} {w_ym_strength : (Nat → Int32)} {ym_number : Int32} {ym_hour : (Nat → Int32)} {ym_rope : (Nat → Int32)} {ym_strength : (Nat → Int32)} {sz : Nat} (h : ufX4_removeFirst ym_number ym_hour ym_rope ym_strength = some (w_ym_number, w_ym_hour, w_ym_rope, w_ym_strength)) : Met l yX4_removeFirst wsX4_removeFirst ({ frames := 2, cells := 0, slots := 0, locals := 44 } : Room) (va_Pc [.ref h0] (ub_pc D cI cT (udX4_removeFirst cI h0 h1 h2 h3 ym_number ym_hour ym_rope ym_strength) sz)) (va_Qv (fun (_ : Unit) => True) (fun _ t => ub_pq D (udX4_removeFirst cI h0 h1 h2 h3 w_ym_number w_ym_hour w_ym_rope w_ym_strength) (va_A (udX4_removeFirst cI h0 h1 h2 h3 ym_number ym_hour ym_rope ym_strength) sz) t) (va_A (udX4_removeFirst cI h0 h1 h2 h3 ym_number ym_hour ym_rope ym_strength) sz)) 0 0 (va_A (udX4_removeFirst cI h0 h1 h2 h3 ym_number ym_hour ym_rope ym_strength) sz) :=
  ub_met_v (by decide +kernel) rfl (Nat.le_of_ble_eq_true rfl) fun _ _ _ _ _ _ _ _ _ _ K hret _ hl hP hD hS => uwX4_removeFirst_E K hret h hl hP hD hS
-- X4_removeAllOf
def udX4_removeAllOf (cI : ClassId) (h0 : Nat) (h1 : Nat) (h2 : Nat) (h3 : Nat) (ym_number : Int32) (ym_hour : Nat → Int32) (ym_rope : Nat → Int32) (ym_strength : Nat → Int32) : va_W := [(h0, .inr (6, [.int ym_number, .ref h2, .ref h1, .ref h3])), (h1, .inl (cI, 16, .inl ym_hour)), (h2, .inl (cI, 16, .inl ym_rope)), (h3, .inl (cI, 16, .inl ym_strength))]
def ulX4_removeAllOf_4 (ym_number : Int32) (l1 : Int32) : Nat → (Nat → Int32) → (Nat → Int32) → (Nat → Int32) → Int32 → Int32 → Option (Int32 × (Nat → Int32) × (Nat → Int32) × (Nat → Int32))
  | 0, _, _, _, _, _ => none
  | k + 1, ym_hour, ym_rope, ym_strength, l2, l3 =>
    if ym_number ≤ l3 then
      some (l2, ym_hour, ym_rope, ym_strength)
    else
      ub_b1 (ufX8_at 16 ym_rope l3) fun x_1 =>
      if x_1 = l1 then
        ulX4_removeAllOf_4 ym_number l1 k ym_hour ym_rope ym_strength l2 (l3 + 1)
      else
        ub_b3 (ufX4_carry ym_hour ym_rope ym_strength l3 l2) fun ym_hour_2 ym_rope_3 ym_strength_4 =>
        ulX4_removeAllOf_4 ym_number l1 k ym_hour_2 ym_rope_3 ym_strength_4 (l2 + 1) (l3 + 1)
def ufX4_removeAllOf (ym_number : Int32) (ym_hour : Nat → Int32) (ym_rope : Nat → Int32) (ym_strength : Nat → Int32) (l1 : Int32) : Option (Int32 × (Nat → Int32) × (Nat → Int32) × (Nat → Int32)) :=
  ulX4_removeAllOf_4 ym_number l1 ub_F ym_hour ym_rope ym_strength 0 0
theorem uvX4_removeAllOf_1 : Cond.fieldLink RX4 21 "UnheardBells$Pulls" "number" "I" ∈ wsX4_removeAllOf := List.mem_cons_of_mem _ us_m122
theorem uvX4_removeAllOf_2 : Cond.fieldLink RX4 9 "UnheardBells$Pulls" "rope" "[I" ∈ wsX4_removeAllOf := List.mem_cons_of_mem _ us_m125
theorem uvX4_removeAllOf_4 : Cond.initialized RX8 ∈ wsX4_removeAllOf := List.mem_cons_of_mem _ us_m40
theorem uvX4_removeAllOf_3 : Cond.static yX8_at ∈ wsX4_removeAllOf := List.mem_cons_of_mem _ us_m404
theorem uiX4_removeAllOf_X4 : ∀ w ∈ u_ws RX4 TX4 4, w ∈ wsX4_removeAllOf := fun w h => List.mem_cons_of_mem _ (us_inX4 w h)
theorem uhX4_removeAllOf : yX4_removeAllOf.cls ≠ "java/lang/invoke/MethodHandle" ∧ yX4_removeAllOf.cls ≠ "java/lang/invoke/VarHandle" ∧ (parseMethodDescriptor yX4_removeAllOf.desc).map (fun d => d.parameters.length) = some 1 := by decide +kernel
set_option maxHeartbeats 4000000 in
set_option maxRecDepth 100000 in
theorem uwX4_removeAllOf_4 {p : Program} {l : Launch} {e : Env} {s : State} {m : MethodId} {args : Array Value} {below : List Frame} {meth : Method} {c : Code} {Q : State → Prop} {D : va_G} {cI cT : ClassId} {A : Nat → Prop} (K : ub_kx p s m args meth c cX4_removeAllOf 4 RX4 wsX4_removeAllOf D cI cT A) {h0 h1 h2 h3 : Nat} {ym_number : Int32} {l1 : Int32} {w_ym_number : Int32} {w_ym_hour : (Nat → Int32)} {w_ym_rope : (Nat → Int32)} {w_ym_strength : (Nat → Int32)} (hret : ∀ (H : Heap) (locs : List Loc) (pc : Nat) (ls : Array Slot), decode cX4_removeAllOf pc = .ok (.return_, 1) → va_P D vwCl (udX4_removeAllOf cI h0 h1 h2 h3 w_ym_number w_ym_hour w_ym_rope w_ym_strength) H → va_D A (udX4_removeAllOf cI h0 h1 h2 h3 w_ym_number w_ym_hour w_ym_rope w_ym_strength) → va_S A s.heap H locs → W p l e ({ frames := 2, cells := 0, slots := 0, locals := 44 } : Room) s m args below meth c H locs 0 0 Q (F0 m pc ls [])) : ∀ (k : Nat) (ym_hour : (Nat → Int32)) (ym_rope : (Nat → Int32)) (ym_strength : (Nat → Int32)) (l2 : Int32) (l3 : Int32), ulX4_removeAllOf_4 ym_number l1 k ym_hour ym_rope ym_strength l2 l3 = some (w_ym_number, w_ym_hour, w_ym_rope, w_ym_strength) → ∀ (H : Heap) (locs : List Loc) (ls : Array Slot), lv_has ls 4 [(0, .ref h0), (1, .int l1), (2, .int l2), (3, .int l3)] → va_P D vwCl (udX4_removeAllOf cI h0 h1 h2 h3 ym_number ym_hour ym_rope ym_strength) H → va_D A (udX4_removeAllOf cI h0 h1 h2 h3 ym_number ym_hour ym_rope ym_strength) → va_S A s.heap H locs → W p l e ({ frames := 2, cells := 0, slots := 0, locals := 44 } : Room) s m args below meth c H locs 0 0 Q (F0 m 4 ls []) := by
  have K0 := K
  obtain ⟨hx, hb, hml, hown, hts, hK, hN, hA⟩ := K
  intro k
  induction k with
  | zero =>
    intro ym_hour ym_rope ym_strength l2 l3 h
    rw [ulX4_removeAllOf_4] at h
    cases h
  | succ k ih =>
    intro ym_hour ym_rope ym_strength l2 l3 h H locs ls hl hP hD hS
    rw [ulX4_removeAllOf_4] at h
    refine lv_iload_n hx hb dX4_removeAllOf_4 rfl (lv_at hl 3 rfl) ?_
    refine lv_aload_n hx hb dX4_removeAllOf_5 rfl (lv_at hl 0 rfl) ?_
    refine va_get (ci := 6) (v := .int ym_number) (C := RX4) (T := TX4) (N := 4) hx hb hts uiX4_removeAllOf_X4 hown hK hP 0 rfl rfl 0 (by decide) (hts _ uvX4_removeAllOf_1) (fun _ h9 => h9) rfl dX4_removeAllOf_6 ?_
    refine lv_icmp_ge (tgt := 39) hx hb dX4_removeAllOf_9 (by decide) (fun c9 => ?_) (fun c9 => ?_)
    · have h := ub_if_t c9 h
      refine lv_aload_n hx hb dX4_removeAllOf_39 rfl (lv_at hl 0 rfl) ?_
      refine lv_iload_n hx hb dX4_removeAllOf_40 rfl (lv_at hl 2 rfl) ?_
      refine ub_put (ws' := (udX4_removeAllOf cI h0 h1 h2 h3 l2 ym_hour ym_rope ym_strength)) (ci := 6) (C := RX4) (T := TX4) (N := 4) hx hb hts uiX4_removeAllOf_X4 tyX4 tyX4_ok nmX4 hown hK hP hD hS 0 0 (v := .int l2) (ty := tyX4 0) rfl rfl (by decide) (hts _ uvX4_removeAllOf_1) (fun _ h9 => h9) rfl (tyX4_ok 0 (by decide)) rfl rfl (Nat.le_of_ble_eq_true rfl) rfl dX4_removeAllOf_41 (fun H locs hP hD hS => ?_)
      cases h
      exact hret H locs _ ls dX4_removeAllOf_44 hP hD hS
    · have h := ub_if_f c9 h
      refine lv_aload_n hx hb dX4_removeAllOf_12 rfl (lv_at hl 0 rfl) ?_
      refine va_get (ci := 6) (v := .ref h2) (C := RX4) (T := TX4) (N := 4) hx hb hts uiX4_removeAllOf_X4 hown hK hP 0 rfl rfl 1 (by decide) (hts _ uvX4_removeAllOf_2) (fun _ h9 => h9) rfl dX4_removeAllOf_13 ?_
      refine lv_iload_n hx hb dX4_removeAllOf_16 rfl (lv_at hl 3 rfl) ?_
      obtain ⟨x_1, hc17, h⟩ := ub_b1_some h
      have hPc : va_P D vwCl (udX8_at cI 16 h2 ym_rope) H := ub_pickP hP [2] rfl
      have hDc : va_D A (udX8_at cI 16 h2 ym_rope) := hD.sub [2] (by decide) rfl
      refine ub_calli (ws' := (udX4_removeAllOf cI h0 h1 h2 h3 ym_number ym_hour ym_rope ym_strength)) (va_runSN (As := [.ref h2, .int l3]) (rest := []) ⟨hx, hb, hml, hown, hts⟩ (ucX8_at l D cI cT hc17) ⟨va_cnB 2 hts gX4_removeAllOf_X8_at_n29 rfl rfl rfl (hN.at 14 rfl) (hts _ uvX4_removeAllOf_4) uhX8_at ⟨Nat.le_of_ble_eq_true rfl, Nat.le_of_ble_eq_true rfl⟩, (hts _ uvX4_removeAllOf_3), trivial⟩ (ub_preS hPc hDc hK hN) rfl rfl hl.1 rfl (lv_room (Nat.le_of_ble_eq_true rfl)) dX4_removeAllOf_17 ⟨Nat.le_of_ble_eq_true rfl, Nat.le_of_ble_eq_true rfl⟩) hP hD hS hA [2] rfl (by decide) rfl rfl (fun H locs hP hD hS => ?_)
      refine lv_iload_n hx hb dX4_removeAllOf_20 rfl (lv_at hl 1 rfl) ?_
      refine lv_icmp_eq (tgt := 33) hx hb dX4_removeAllOf_21 (by decide) (fun c21 => ?_) (fun c21 => ?_)
      · have h := ub_if_t c21 h
        refine lv_iinc (v := l3 + 1) (lv' := [(3, .int (l3 + 1)), (0, .ref h0), (1, .int l1), (2, .int l2)]) hx hb dX4_removeAllOf_33 hl (k := 3) rfl rfl (by decide) rfl (fun ls hl => ?_)
        refine lv_goto (tgt := 4) hx hb dX4_removeAllOf_36 (by decide) ?_
        exact ih ym_hour ym_rope ym_strength l2 (l3 + 1) h H locs ls (lv_sub hl [1, 2, 3, 0] rfl) hP hD hS
      · have h := ub_if_f c21 h
        refine lv_aload_n hx hb dX4_removeAllOf_24 rfl (lv_at hl 0 rfl) ?_
        refine lv_iload_n hx hb dX4_removeAllOf_25 rfl (lv_at hl 3 rfl) ?_
        refine lv_iload_n hx hb dX4_removeAllOf_26 rfl (lv_at hl 2 rfl) ?_
        obtain ⟨ym_hour_2, ym_rope_3, ym_strength_4, hc27, h⟩ := ub_b3_some h
        have hPc : va_P D vwCl (udX4_carry cI h0 h1 h2 h3 ym_number ym_hour ym_rope ym_strength) H := ub_pickP hP [0, 1, 2, 3] rfl
        have hDc : va_D A (udX4_carry cI h0 h1 h2 h3 ym_number ym_hour ym_rope ym_strength) := hD.sub [0, 1, 2, 3] (by decide) rfl
        refine ub_callv (ws' := (udX4_removeAllOf cI h0 h1 h2 h3 ym_number ym_hour_2 ym_rope_3 ym_strength_4)) (va_runV (As := [.int l3, .int l2]) (rest := []) ⟨hx, hb, hml, hown, hts⟩ (ucX4_carry l D cI cT hc27) (cwV 2 hts gX4_removeAllOf_X4_carry rfl rfl rfl ⟨rfl, uhX4_carry⟩ ⟨Nat.le_of_ble_eq_true rfl, Nat.le_of_ble_eq_true rfl⟩) (ub_preV hPc hDc hK hN 0 (ci := 6) rfl rfl rfl) rfl rfl hl.1 rfl (lv_room (Nat.le_of_ble_eq_true rfl)) dX4_removeAllOf_27 ⟨Nat.le_of_ble_eq_true rfl, Nat.le_of_ble_eq_true rfl⟩) hP hD hS hA [0, 1, 2, 3] rfl (by decide) rfl rfl (fun H locs hP hD hS => ?_)
        refine lv_iinc (v := l2 + 1) (lv' := [(2, .int (l2 + 1)), (0, .ref h0), (1, .int l1), (3, .int l3)]) hx hb dX4_removeAllOf_30 hl (k := 2) rfl rfl (by decide) rfl (fun ls hl => ?_)
        refine lv_iinc (v := l3 + 1) (lv' := [(3, .int (l3 + 1)), (2, .int (l2 + 1)), (0, .ref h0), (1, .int l1)]) hx hb dX4_removeAllOf_33 hl (k := 3) rfl rfl (by decide) rfl (fun ls hl => ?_)
        refine lv_goto (tgt := 4) hx hb dX4_removeAllOf_36 (by decide) ?_
        exact ih ym_hour_2 ym_rope_3 ym_strength_4 (l2 + 1) (l3 + 1) h H locs ls (lv_sub hl [2, 3, 1, 0] rfl) hP hD hS
set_option maxHeartbeats 4000000 in
set_option maxRecDepth 100000 in
theorem uwX4_removeAllOf_E {p : Program} {l : Launch} {e : Env} {s : State} {m : MethodId} {args : Array Value} {below : List Frame} {meth : Method} {c : Code} {Q : State → Prop} {D : va_G} {cI cT : ClassId} {A : Nat → Prop} (K : ub_kx p s m args meth c cX4_removeAllOf 4 RX4 wsX4_removeAllOf D cI cT A) {h0 h1 h2 h3 : Nat} {ym_number : Int32} {ym_hour : (Nat → Int32)} {ym_rope : (Nat → Int32)} {ym_strength : (Nat → Int32)} {l1 : Int32} {w_ym_number : Int32} {w_ym_hour : (Nat → Int32)} {w_ym_rope : (Nat → Int32)} {w_ym_strength : (Nat → Int32)} (hret : ∀ (H : Heap) (locs : List Loc) (pc : Nat) (ls : Array Slot), decode cX4_removeAllOf pc = .ok (.return_, 1) → va_P D vwCl (udX4_removeAllOf cI h0 h1 h2 h3 w_ym_number w_ym_hour w_ym_rope w_ym_strength) H → va_D A (udX4_removeAllOf cI h0 h1 h2 h3 w_ym_number w_ym_hour w_ym_rope w_ym_strength) → va_S A s.heap H locs → W p l e ({ frames := 2, cells := 0, slots := 0, locals := 44 } : Room) s m args below meth c H locs 0 0 Q (F0 m pc ls [])) (h : ufX4_removeAllOf ym_number ym_hour ym_rope ym_strength l1 = some (w_ym_number, w_ym_hour, w_ym_rope, w_ym_strength)) {H : Heap} {locs : List Loc} {ls : Array Slot} (hl : lv_has ls 4 [(0, .ref h0), (1, .int l1)]) (hP : va_P D vwCl (udX4_removeAllOf cI h0 h1 h2 h3 ym_number ym_hour ym_rope ym_strength) H) (hD : va_D A (udX4_removeAllOf cI h0 h1 h2 h3 ym_number ym_hour ym_rope ym_strength)) (hS : va_S A s.heap H locs) : W p l e ({ frames := 2, cells := 0, slots := 0, locals := 44 } : Room) s m args below meth c H locs 0 0 Q (F0 m 0 ls []) := by
  have K0 := K
  obtain ⟨hx, hb, hml, hown, hts, hK, hN, hA⟩ := K
  unfold ufX4_removeAllOf at h
  refine lv_iconst (v := 0) hx hb dX4_removeAllOf_0 (by decide) ?_
  refine lv_istore_n (lv' := [(2, .int 0), (0, .ref h0), (1, .int l1)]) hx hb dX4_removeAllOf_1 rfl hl (by decide) rfl (fun ls hl => ?_)
  refine lv_iconst (v := 0) hx hb dX4_removeAllOf_2 (by decide) ?_
  refine lv_istore_n (lv' := [(3, .int 0), (2, .int 0), (0, .ref h0), (1, .int l1)]) hx hb dX4_removeAllOf_3 rfl hl (by decide) rfl (fun ls hl => ?_)
  exact uwX4_removeAllOf_4 K0 hret ub_F ym_hour ym_rope ym_strength 0 0 h H locs ls (lv_sub hl [2, 3, 1, 0] rfl) hP hD hS
set_option maxHeartbeats 4000000 in
set_option maxRecDepth 100000 in
theorem ucX4_removeAllOf (l : Launch) (D : va_G) (cI cT : ClassId) {h0 h1 h2 h3 : Nat} {l1 : Int32} {w_ym_number : Int32} {w_ym_hour : (Nat → Int32)} {w_ym_rope : (Nat → Int32)} {w_ym_strength : (Nat → Int32)} {ym_number : Int32} {ym_hour : (Nat → Int32)} {ym_rope : (Nat → Int32)} {ym_strength : (Nat → Int32)} {sz : Nat} (h : ufX4_removeAllOf ym_number ym_hour ym_rope ym_strength l1 = some (w_ym_number, w_ym_hour, w_ym_rope, w_ym_strength)) : Met l yX4_removeAllOf wsX4_removeAllOf ({ frames := 2, cells := 0, slots := 0, locals := 44 } : Room) (va_Pc [.ref h0, .int l1] (ub_pc D cI cT (udX4_removeAllOf cI h0 h1 h2 h3 ym_number ym_hour ym_rope ym_strength) sz)) (va_Qv (fun (_ : Unit) => True) (fun _ t => ub_pq D (udX4_removeAllOf cI h0 h1 h2 h3 w_ym_number w_ym_hour w_ym_rope w_ym_strength) (va_A (udX4_removeAllOf cI h0 h1 h2 h3 ym_number ym_hour ym_rope ym_strength) sz) t) (va_A (udX4_removeAllOf cI h0 h1 h2 h3 ym_number ym_hour ym_rope ym_strength) sz)) 0 0 (va_A (udX4_removeAllOf cI h0 h1 h2 h3 ym_number ym_hour ym_rope ym_strength) sz) :=
  ub_met_v (by decide +kernel) rfl (Nat.le_of_ble_eq_true rfl) fun _ _ _ _ _ _ _ _ _ _ K hret _ hl hP hD hS => uwX4_removeAllOf_E K hret h hl hP hD hS
