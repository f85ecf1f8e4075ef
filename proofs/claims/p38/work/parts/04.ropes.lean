-- X5_copyFrom
def udX5_copyFrom (cI : ClassId) (h0 : Nat) (h1 : Nat) (h2 : Nat) (h3 : Nat) (h4 : Nat) (h5 : Nat) (h6 : Nat) (h7 : Nat) (h8 : Nat) (h9 : Nat) (h10 : Nat) (h11 : Nat) (h12 : Nat) (h13 : Nat) (ym_number : Int32) (ym_answers : Nat → Int32) (ym_doubles : Nat → Int32) (ym_isOn : Nat → Int32) (ym_misses : Nat → Int32) (ym_parish : Nat → Int32) (ym_rust : Nat → Int32) (yo_number : Int32) (yo_answers : Nat → Int32) (yo_doubles : Nat → Int32) (yo_isOn : Nat → Int32) (yo_misses : Nat → Int32) (yo_parish : Nat → Int32) (yo_rust : Nat → Int32) : va_W := [(h0, .inr (7, [.int ym_number, .ref h5, .ref h3, .ref h6, .ref h1, .ref h4, .ref h2])), (h1, .inl (cI, 12, .inl ym_answers)), (h2, .inl (cI, 12, .inl ym_doubles)), (h3, .inl (cI, 12, .inl ym_isOn)), (h4, .inl (cI, 12, .inl ym_misses)), (h5, .inl (cI, 12, .inl ym_parish)), (h6, .inl (cI, 12, .inl ym_rust)), (h7, .inr (7, [.int yo_number, .ref h12, .ref h10, .ref h13, .ref h8, .ref h11, .ref h9])), (h8, .inl (cI, 12, .inl yo_answers)), (h9, .inl (cI, 12, .inl yo_doubles)), (h10, .inl (cI, 12, .inl yo_isOn)), (h11, .inl (cI, 12, .inl yo_misses)), (h12, .inl (cI, 12, .inl yo_parish)), (h13, .inl (cI, 12, .inl yo_rust))]
def ufX5_copyFrom (ym_number : Int32) (ym_answers : Nat → Int32) (ym_doubles : Nat → Int32) (ym_isOn : Nat → Int32) (ym_misses : Nat → Int32) (ym_parish : Nat → Int32) (ym_rust : Nat → Int32) (yo_number : Int32) (yo_answers : Nat → Int32) (yo_doubles : Nat → Int32) (yo_isOn : Nat → Int32) (yo_misses : Nat → Int32) (yo_parish : Nat → Int32) (yo_rust : Nat → Int32) : Option (Int32 × (Nat → Int32) × (Nat → Int32) × (Nat → Int32) × (Nat → Int32) × (Nat → Int32) × (Nat → Int32)) :=
  ub_b1 (ufX8_copy 12 12 yo_parish ym_parish) fun ym_parish_1 =>
  ub_b1 (ufX8_copy 12 12 yo_isOn ym_isOn) fun ym_isOn_2 =>
  ub_b1 (ufX8_copy 12 12 yo_rust ym_rust) fun ym_rust_3 =>
  ub_b1 (ufX8_copy 12 12 yo_answers ym_answers) fun ym_answers_4 =>
  ub_b1 (ufX8_copy 12 12 yo_misses ym_misses) fun ym_misses_5 =>
  ub_b1 (ufX8_copy 12 12 yo_doubles ym_doubles) fun ym_doubles_6 =>
  some (yo_number, ym_answers_4, ym_doubles_6, ym_isOn_2, ym_misses_5, ym_parish_1, ym_rust_3)
theorem uvX5_copyFrom_1 : Cond.fieldLink RX5 30 "UnheardBells$Ropes" "number" "I" ∈ wsX5_copyFrom := List.mem_cons_of_mem _ us_m81
theorem uvX5_copyFrom_2 : Cond.fieldLink RX5 9 "UnheardBells$Ropes" "parish" "[I" ∈ wsX5_copyFrom := List.mem_cons_of_mem _ us_m83
theorem uvX5_copyFrom_9 : Cond.initialized RX8 ∈ wsX5_copyFrom := List.mem_cons_of_mem _ us_m40
theorem uvX5_copyFrom_8 : Cond.static yX8_copy ∈ wsX5_copyFrom := List.mem_cons_of_mem _ us_m345
theorem uvX5_copyFrom_3 : Cond.fieldLink RX5 15 "UnheardBells$Ropes" "isOn" "[I" ∈ wsX5_copyFrom := List.mem_cons_of_mem _ us_m85
theorem uvX5_copyFrom_4 : Cond.fieldLink RX5 18 "UnheardBells$Ropes" "rust" "[I" ∈ wsX5_copyFrom := List.mem_cons_of_mem _ us_m88
theorem uvX5_copyFrom_5 : Cond.fieldLink RX5 21 "UnheardBells$Ropes" "answers" "[I" ∈ wsX5_copyFrom := List.mem_cons_of_mem _ us_m91
theorem uvX5_copyFrom_6 : Cond.fieldLink RX5 24 "UnheardBells$Ropes" "misses" "[I" ∈ wsX5_copyFrom := List.mem_cons_of_mem _ us_m94
theorem uvX5_copyFrom_7 : Cond.fieldLink RX5 27 "UnheardBells$Ropes" "doubles" "[I" ∈ wsX5_copyFrom := List.mem_cons_of_mem _ us_m97
theorem uiX5_copyFrom_X5 : ∀ w ∈ u_ws RX5 TX5 7, w ∈ wsX5_copyFrom := fun w h => List.mem_cons_of_mem _ (us_inX5 w h)
theorem uhX5_copyFrom : yX5_copyFrom.cls ≠ "java/lang/invoke/MethodHandle" ∧ yX5_copyFrom.cls ≠ "java/lang/invoke/VarHandle" ∧ (parseMethodDescriptor yX5_copyFrom.desc).map (fun d => d.parameters.length) = some 1 := by decide +kernel
set_option maxHeartbeats 4000000 in
set_option maxRecDepth 100000 in
theorem uwX5_copyFrom_E {p : Program} {l : Launch} {e : Env} {s : State} {m : MethodId} {args : Array Value} {below : List Frame} {meth : Method} {c : Code} {Q : State → Prop} {D : va_G} {cI cT : ClassId} {A : Nat → Prop} (K : ub_kx p s m args meth c cX5_copyFrom 2 RX5 wsX5_copyFrom D cI cT A) {h0 h1 h2 h3 h4 h5 h6 h7 h8 h9 h10 h11 h12 h13 : Nat} {ym_number : Int32} {ym_answers : (Nat → Int32)} {ym_doubles : (Nat → Int32)} {ym_isOn : (Nat → Int32)} {ym_misses : (Nat → Int32)} {ym_parish : (Nat → Int32)} {ym_rust : (Nat → Int32)} {yo_number : Int32} {yo_answers : (Nat → Int32)} {yo_doubles : (Nat → Int32)} {yo_isOn : (Nat → Int32)} {yo_misses : (Nat → Int32)} {yo_parish : (Nat → Int32)} {yo_rust : (Nat → Int32)} {w_ym_number : Int32} {w_ym_answers : (Nat → Int32)} {w_ym_doubles : (Nat → Int32)} {w_ym_isOn : (Nat → Int32)} {w_ym_misses : (Nat → Int32)} {w_ym_parish : (Nat → Int32)} {w_ym_rust : (Nat → Int32)} (hret : ∀ (H : Heap) (locs : List Loc) (pc : Nat) (ls : Array Slot), decode cX5_copyFrom pc = .ok (.return_, 1) → va_P D vwCl (udX5_copyFrom cI h0 h1 h2 h3 h4 h5 h6 h7 h8 h9 h10 h11 h12 h13 w_ym_number w_ym_answers w_ym_doubles w_ym_isOn w_ym_misses w_ym_parish w_ym_rust yo_number yo_answers yo_doubles yo_isOn yo_misses yo_parish yo_rust) H → va_D A (udX5_copyFrom cI h0 h1 h2 h3 h4 h5 h6 h7 h8 h9 h10 h11 h12 h13 w_ym_number w_ym_answers w_ym_doubles w_ym_isOn w_ym_misses w_ym_parish w_ym_rust yo_number yo_answers yo_doubles yo_isOn yo_misses yo_parish yo_rust) → va_S A s.heap H locs → W p l e ({ frames := 2, cells := 0, slots := 0, locals := 47 } : Room) s m args below meth c H locs 0 0 Q (F0 m pc ls [])) (h : ufX5_copyFrom ym_number ym_answers ym_doubles ym_isOn ym_misses ym_parish ym_rust yo_number yo_answers yo_doubles yo_isOn yo_misses yo_parish yo_rust = some (w_ym_number, w_ym_answers, w_ym_doubles, w_ym_isOn, w_ym_misses, w_ym_parish, w_ym_rust)) {H : Heap} {locs : List Loc} {ls : Array Slot} (hl : lv_has ls 2 [(0, .ref h0), (1, .ref h7)]) (hP : va_P D vwCl (udX5_copyFrom cI h0 h1 h2 h3 h4 h5 h6 h7 h8 h9 h10 h11 h12 h13 ym_number ym_answers ym_doubles ym_isOn ym_misses ym_parish ym_rust yo_number yo_answers yo_doubles yo_isOn yo_misses yo_parish yo_rust) H) (hD : va_D A (udX5_copyFrom cI h0 h1 h2 h3 h4 h5 h6 h7 h8 h9 h10 h11 h12 h13 ym_number ym_answers ym_doubles ym_isOn ym_misses ym_parish ym_rust yo_number yo_answers yo_doubles yo_isOn yo_misses yo_parish yo_rust)) (hS : va_S A s.heap H locs) : W p l e ({ frames := 2, cells := 0, slots := 0, locals := 47 } : Room) s m args below meth c H locs 0 0 Q (F0 m 0 ls []) := by
  have K0 := K
  obtain ⟨hx, hb, hml, hown, hts, hK, hN, hA⟩ := K
  unfold ufX5_copyFrom at h
  refine lv_aload_n hx hb dX5_copyFrom_0 rfl (lv_at hl 0 rfl) ?_
  refine lv_aload_n hx hb dX5_copyFrom_1 rfl (lv_at hl 1 rfl) ?_
  refine va_get (ci := 7) (v := .int yo_number) (C := RX5) (T := TX5) (N := 7) hx hb hts uiX5_copyFrom_X5 hown hK hP 7 rfl rfl 0 (by decide) (hts _ uvX5_copyFrom_1) (fun _ h9 => h9) rfl dX5_copyFrom_2 ?_
  refine ub_put (ws' := (udX5_copyFrom cI h0 h1 h2 h3 h4 h5 h6 h7 h8 h9 h10 h11 h12 h13 yo_number ym_answers ym_doubles ym_isOn ym_misses ym_parish ym_rust yo_number yo_answers yo_doubles yo_isOn yo_misses yo_parish yo_rust)) (ci := 7) (C := RX5) (T := TX5) (N := 7) hx hb hts uiX5_copyFrom_X5 tyX5 tyX5_ok nmX5 hown hK hP hD hS 0 0 (v := .int yo_number) (ty := tyX5 0) rfl rfl (by decide) (hts _ uvX5_copyFrom_1) (fun _ h9 => h9) rfl (tyX5_ok 0 (by decide)) rfl rfl (Nat.le_of_ble_eq_true rfl) rfl dX5_copyFrom_5 (fun H locs hP hD hS => ?_)
  refine lv_aload_n hx hb dX5_copyFrom_8 rfl (lv_at hl 1 rfl) ?_
  refine va_get (ci := 7) (v := .ref h12) (C := RX5) (T := TX5) (N := 7) hx hb hts uiX5_copyFrom_X5 hown hK hP 7 rfl rfl 1 (by decide) (hts _ uvX5_copyFrom_2) (fun _ h9 => h9) rfl dX5_copyFrom_9 ?_
  refine lv_aload_n hx hb dX5_copyFrom_12 rfl (lv_at hl 0 rfl) ?_
  refine va_get (ci := 7) (v := .ref h5) (C := RX5) (T := TX5) (N := 7) hx hb hts uiX5_copyFrom_X5 hown hK hP 0 rfl rfl 1 (by decide) (hts _ uvX5_copyFrom_2) (fun _ h9 => h9) rfl dX5_copyFrom_13 ?_
  obtain ⟨ym_parish_1, hc16, h⟩ := ub_b1_some h
  have hPc : va_P D vwCl (udX8_copy cI 12 12 h12 h5 yo_parish ym_parish) H := ub_pickP hP [12, 5] rfl
  have hDc : va_D A (udX8_copy cI 12 12 h12 h5 yo_parish ym_parish) := hD.sub [12, 5] (by decide) rfl
  refine ub_callv (ws' := (udX5_copyFrom cI h0 h1 h2 h3 h4 h5 h6 h7 h8 h9 h10 h11 h12 h13 yo_number ym_answers ym_doubles ym_isOn ym_misses ym_parish_1 ym_rust yo_number yo_answers yo_doubles yo_isOn yo_misses yo_parish yo_rust)) (va_runSN (As := [.ref h12, .ref h5]) (rest := []) ⟨hx, hb, hml, hown, hts⟩ (ucX8_copy l D cI cT hc16) ⟨va_cnB 2 hts gX5_copyFrom_X8_copy_n34 rfl rfl rfl (hN.at 9 rfl) (hts _ uvX5_copyFrom_9) uhX8_copy ⟨Nat.le_of_ble_eq_true rfl, Nat.le_of_ble_eq_true rfl⟩, (hts _ uvX5_copyFrom_8), trivial⟩ (ub_preS hPc hDc hK hN) rfl rfl hl.1 rfl (lv_room (Nat.le_of_ble_eq_true rfl)) dX5_copyFrom_16 ⟨Nat.le_of_ble_eq_true rfl, Nat.le_of_ble_eq_true rfl⟩) hP hD hS hA [12, 5] rfl (by decide) rfl rfl (fun H locs hP hD hS => ?_)
  refine lv_aload_n hx hb dX5_copyFrom_19 rfl (lv_at hl 1 rfl) ?_
  refine va_get (ci := 7) (v := .ref h10) (C := RX5) (T := TX5) (N := 7) hx hb hts uiX5_copyFrom_X5 hown hK hP 7 rfl rfl 2 (by decide) (hts _ uvX5_copyFrom_3) (fun _ h9 => h9) rfl dX5_copyFrom_20 ?_
  refine lv_aload_n hx hb dX5_copyFrom_23 rfl (lv_at hl 0 rfl) ?_
  refine va_get (ci := 7) (v := .ref h3) (C := RX5) (T := TX5) (N := 7) hx hb hts uiX5_copyFrom_X5 hown hK hP 0 rfl rfl 2 (by decide) (hts _ uvX5_copyFrom_3) (fun _ h9 => h9) rfl dX5_copyFrom_24 ?_
  obtain ⟨ym_isOn_2, hc27, h⟩ := ub_b1_some h
  have hPc : va_P D vwCl (udX8_copy cI 12 12 h10 h3 yo_isOn ym_isOn) H := ub_pickP hP [10, 3] rfl
  have hDc : va_D A (udX8_copy cI 12 12 h10 h3 yo_isOn ym_isOn) := hD.sub [10, 3] (by decide) rfl
  refine ub_callv (ws' := (udX5_copyFrom cI h0 h1 h2 h3 h4 h5 h6 h7 h8 h9 h10 h11 h12 h13 yo_number ym_answers ym_doubles ym_isOn_2 ym_misses ym_parish_1 ym_rust yo_number yo_answers yo_doubles yo_isOn yo_misses yo_parish yo_rust)) (va_runSN (As := [.ref h10, .ref h3]) (rest := []) ⟨hx, hb, hml, hown, hts⟩ (ucX8_copy l D cI cT hc27) ⟨va_cnB 2 hts gX5_copyFrom_X8_copy_n34 rfl rfl rfl (hN.at 9 rfl) (hts _ uvX5_copyFrom_9) uhX8_copy ⟨Nat.le_of_ble_eq_true rfl, Nat.le_of_ble_eq_true rfl⟩, (hts _ uvX5_copyFrom_8), trivial⟩ (ub_preS hPc hDc hK hN) rfl rfl hl.1 rfl (lv_room (Nat.le_of_ble_eq_true rfl)) dX5_copyFrom_27 ⟨Nat.le_of_ble_eq_true rfl, Nat.le_of_ble_eq_true rfl⟩) hP hD hS hA [10, 3] rfl (by decide) rfl rfl (fun H locs hP hD hS => ?_)
  refine lv_aload_n hx hb dX5_copyFrom_30 rfl (lv_at hl 1 rfl) ?_
  refine va_get (ci := 7) (v := .ref h13) (C := RX5) (T := TX5) (N := 7) hx hb hts uiX5_copyFrom_X5 hown hK hP 7 rfl rfl 3 (by decide) (hts _ uvX5_copyFrom_4) (fun _ h9 => h9) rfl dX5_copyFrom_31 ?_
  refine lv_aload_n hx hb dX5_copyFrom_34 rfl (lv_at hl 0 rfl) ?_
  refine va_get (ci := 7) (v := .ref h6) (C := RX5) (T := TX5) (N := 7) hx hb hts uiX5_copyFrom_X5 hown hK hP 0 rfl rfl 3 (by decide) (hts _ uvX5_copyFrom_4) (fun _ h9 => h9) rfl dX5_copyFrom_35 ?_
  obtain ⟨ym_rust_3, hc38, h⟩ := ub_b1_some h
  have hPc : va_P D vwCl (udX8_copy cI 12 12 h13 h6 yo_rust ym_rust) H := ub_pickP hP [13, 6] rfl
  have hDc : va_D A (udX8_copy cI 12 12 h13 h6 yo_rust ym_rust) := hD.sub [13, 6] (by decide) rfl
  refine ub_callv (ws' := (udX5_copyFrom cI h0 h1 h2 h3 h4 h5 h6 h7 h8 h9 h10 h11 h12 h13 yo_number ym_answers ym_doubles ym_isOn_2 ym_misses ym_parish_1 ym_rust_3 yo_number yo_answers yo_doubles yo_isOn yo_misses yo_parish yo_rust)) (va_runSN (As := [.ref h13, .ref h6]) (rest := []) ⟨hx, hb, hml, hown, hts⟩ (ucX8_copy l D cI cT hc38) ⟨va_cnB 2 hts gX5_copyFrom_X8_copy_n34 rfl rfl rfl (hN.at 9 rfl) (hts _ uvX5_copyFrom_9) uhX8_copy ⟨Nat.le_of_ble_eq_true rfl, Nat.le_of_ble_eq_true rfl⟩, (hts _ uvX5_copyFrom_8), trivial⟩ (ub_preS hPc hDc hK hN) rfl rfl hl.1 rfl (lv_room (Nat.le_of_ble_eq_true rfl)) dX5_copyFrom_38 ⟨Nat.le_of_ble_eq_true rfl, Nat.le_of_ble_eq_true rfl⟩) hP hD hS hA [13, 6] rfl (by decide) rfl rfl (fun H locs hP hD hS => ?_)
  refine lv_aload_n hx hb dX5_copyFrom_41 rfl (lv_at hl 1 rfl) ?_
  refine va_get (ci := 7) (v := .ref h8) (C := RX5) (T := TX5) (N := 7) hx hb hts uiX5_copyFrom_X5 hown hK hP 7 rfl rfl 4 (by decide) (hts _ uvX5_copyFrom_5) (fun _ h9 => h9) rfl dX5_copyFrom_42 ?_
  refine lv_aload_n hx hb dX5_copyFrom_45 rfl (lv_at hl 0 rfl) ?_
  refine va_get (ci := 7) (v := .ref h1) (C := RX5) (T := TX5) (N := 7) hx hb hts uiX5_copyFrom_X5 hown hK hP 0 rfl rfl 4 (by decide) (hts _ uvX5_copyFrom_5) (fun _ h9 => h9) rfl dX5_copyFrom_46 ?_
  obtain ⟨ym_answers_4, hc49, h⟩ := ub_b1_some h
  have hPc : va_P D vwCl (udX8_copy cI 12 12 h8 h1 yo_answers ym_answers) H := ub_pickP hP [8, 1] rfl
  have hDc : va_D A (udX8_copy cI 12 12 h8 h1 yo_answers ym_answers) := hD.sub [8, 1] (by decide) rfl
  refine ub_callv (ws' := (udX5_copyFrom cI h0 h1 h2 h3 h4 h5 h6 h7 h8 h9 h10 h11 h12 h13 yo_number ym_answers_4 ym_doubles ym_isOn_2 ym_misses ym_parish_1 ym_rust_3 yo_number yo_answers yo_doubles yo_isOn yo_misses yo_parish yo_rust)) (va_runSN (As := [.ref h8, .ref h1]) (rest := []) ⟨hx, hb, hml, hown, hts⟩ (ucX8_copy l D cI cT hc49) ⟨va_cnB 2 hts gX5_copyFrom_X8_copy_n34 rfl rfl rfl (hN.at 9 rfl) (hts _ uvX5_copyFrom_9) uhX8_copy ⟨Nat.le_of_ble_eq_true rfl, Nat.le_of_ble_eq_true rfl⟩, (hts _ uvX5_copyFrom_8), trivial⟩ (ub_preS hPc hDc hK hN) rfl rfl hl.1 rfl (lv_room (Nat.le_of_ble_eq_true rfl)) dX5_copyFrom_49 ⟨Nat.le_of_ble_eq_true rfl, Nat.le_of_ble_eq_true rfl⟩) hP hD hS hA [8, 1] rfl (by decide) rfl rfl (fun H locs hP hD hS => ?_)
  refine lv_aload_n hx hb dX5_copyFrom_52 rfl (lv_at hl 1 rfl) ?_
  refine va_get (ci := 7) (v := .ref h11) (C := RX5) (T := TX5) (N := 7) hx hb hts uiX5_copyFrom_X5 hown hK hP 7 rfl rfl 5 (by decide) (hts _ uvX5_copyFrom_6) (fun _ h9 => h9) rfl dX5_copyFrom_53 ?_
  refine lv_aload_n hx hb dX5_copyFrom_56 rfl (lv_at hl 0 rfl) ?_
  refine va_get (ci := 7) (v := .ref h4) (C := RX5) (T := TX5) (N := 7) hx hb hts uiX5_copyFrom_X5 hown hK hP 0 rfl rfl 5 (by decide) (hts _ uvX5_copyFrom_6) (fun _ h9 => h9) rfl dX5_copyFrom_57 ?_
  obtain ⟨ym_misses_5, hc60, h⟩ := ub_b1_some h
  have hPc : va_P D vwCl (udX8_copy cI 12 12 h11 h4 yo_misses ym_misses) H := ub_pickP hP [11, 4] rfl
  have hDc : va_D A (udX8_copy cI 12 12 h11 h4 yo_misses ym_misses) := hD.sub [11, 4] (by decide) rfl
  refine ub_callv (ws' := (udX5_copyFrom cI h0 h1 h2 h3 h4 h5 h6 h7 h8 h9 h10 h11 h12 h13 yo_number ym_answers_4 ym_doubles ym_isOn_2 ym_misses_5 ym_parish_1 ym_rust_3 yo_number yo_answers yo_doubles yo_isOn yo_misses yo_parish yo_rust)) (va_runSN (As := [.ref h11, .ref h4]) (rest := []) ⟨hx, hb, hml, hown, hts⟩ (ucX8_copy l D cI cT hc60) ⟨va_cnB 2 hts gX5_copyFrom_X8_copy_n34 rfl rfl rfl (hN.at 9 rfl) (hts _ uvX5_copyFrom_9) uhX8_copy ⟨Nat.le_of_ble_eq_true rfl, Nat.le_of_ble_eq_true rfl⟩, (hts _ uvX5_copyFrom_8), trivial⟩ (ub_preS hPc hDc hK hN) rfl rfl hl.1 rfl (lv_room (Nat.le_of_ble_eq_true rfl)) dX5_copyFrom_60 ⟨Nat.le_of_ble_eq_true rfl, Nat.le_of_ble_eq_true rfl⟩) hP hD hS hA [11, 4] rfl (by decide) rfl rfl (fun H locs hP hD hS => ?_)
  refine lv_aload_n hx hb dX5_copyFrom_63 rfl (lv_at hl 1 rfl) ?_
  refine va_get (ci := 7) (v := .ref h9) (C := RX5) (T := TX5) (N := 7) hx hb hts uiX5_copyFrom_X5 hown hK hP 7 rfl rfl 6 (by decide) (hts _ uvX5_copyFrom_7) (fun _ h9 => h9) rfl dX5_copyFrom_64 ?_
  refine lv_aload_n hx hb dX5_copyFrom_67 rfl (lv_at hl 0 rfl) ?_
  refine va_get (ci := 7) (v := .ref h2) (C := RX5) (T := TX5) (N := 7) hx hb hts uiX5_copyFrom_X5 hown hK hP 0 rfl rfl 6 (by decide) (hts _ uvX5_copyFrom_7) (fun _ h9 => h9) rfl dX5_copyFrom_68 ?_
  obtain ⟨ym_doubles_6, hc71, h⟩ := ub_b1_some h
  have hPc : va_P D vwCl (udX8_copy cI 12 12 h9 h2 yo_doubles ym_doubles) H := ub_pickP hP [9, 2] rfl
  have hDc : va_D A (udX8_copy cI 12 12 h9 h2 yo_doubles ym_doubles) := hD.sub [9, 2] (by decide) rfl
  refine ub_callv (ws' := (udX5_copyFrom cI h0 h1 h2 h3 h4 h5 h6 h7 h8 h9 h10 h11 h12 h13 yo_number ym_answers_4 ym_doubles_6 ym_isOn_2 ym_misses_5 ym_parish_1 ym_rust_3 yo_number yo_answers yo_doubles yo_isOn yo_misses yo_parish yo_rust)) (va_runSN (As := [.ref h9, .ref h2]) (rest := []) ⟨hx, hb, hml, hown, hts⟩ (ucX8_copy l D cI cT hc71) ⟨va_cnB 2 hts gX5_copyFrom_X8_copy_n34 rfl rfl rfl (hN.at 9 rfl) (hts _ uvX5_copyFrom_9) uhX8_copy ⟨Nat.le_of_ble_eq_true rfl, Nat.le_of_ble_eq_true rfl⟩, (hts _ uvX5_copyFrom_8), trivial⟩ (ub_preS hPc hDc hK hN) rfl rfl hl.1 rfl (lv_room (Nat.le_of_ble_eq_true rfl)) dX5_copyFrom_71 ⟨Nat.le_of_ble_eq_true rfl, Nat.le_of_ble_eq_true rfl⟩) hP hD hS hA [9, 2] rfl (by decide) rfl rfl (fun H locs hP hD hS => ?_)
  cases h
  exact hret H locs _ ls dX5_copyFrom_74 hP hD hS
set_option maxHeartbeats 4000000 in
set_option maxRecDepth 100000 in
theorem ucX5_copyFrom (l : Launch) (D : va_G) (cI cT : ClassId) {h0 h1 h2 h3 h4 h5 h6 h7 h8 h9 h10 h11 h12 h13 : Nat} {w_ym_number : Int32} {w_ym_answers : (Nat → Int32)} {w_ym_doubles : (Nat → Int32)} {w_ym_isOn : (Nat → Int32)} {w_ym_misses : (Nat → Int32)} {w_ym_parish : (Nat → Int32)} {w_ym_rust : (Nat → Int32)} {ym_number : Int32} {ym_answers : (Nat → Int32)} {ym_doubles : (Nat → Int32)} {ym_isOn : (Nat → Int32)} {ym_misses : (Nat → Int32)} {ym_parish : (Nat → Int32)} {ym_rust : (Nat → Int32)} {yo_number : Int32} {yo_answers : (Nat → Int32)} {yo_doubles : (Nat → Int32)} {yo_isOn : (Nat → Int32)} {yo_misses : (Nat → Int32)} {yo_parish : (Nat → Int32)} {yo_rust : (Nat → Int32)} {sz : Nat} (h : ufX5_copyFrom ym_number ym_answers ym_doubles ym_isOn ym_misses ym_parish ym_rust yo_number yo_answers yo_doubles yo_isOn yo_misses yo_parish yo_rust = some (w_ym_number, w_ym_answers, w_ym_doubles, w_ym_isOn, w_ym_misses, w_ym_parish, w_ym_rust)) : Met l yX5_copyFrom wsX5_copyFrom ({ frames := 2, cells := 0, slots := 0, locals := 47 } : Room) (va_Pc [.ref h0, .ref h7] (ub_pc D cI cT (udX5_copyFrom cI h0 h1 h2 h3 h4 h5 h6 h7 h8 h9 h10 h11 h12 h13 ym_number ym_answers ym_doubles ym_isOn ym_misses ym_parish ym_rust yo_number yo_answers yo_doubles yo_isOn yo_misses yo_parish yo_rust) sz)) (va_Qv (fun (_ : Unit) => True) (fun _ t => ub_pq D (udX5_copyFrom cI h0 h1 h2 h3 h4 h5 h6 h7 h8 h9 h10 h11 h12 h13 w_ym_number w_ym_answers w_ym_doubles w_ym_isOn w_ym_misses w_ym_parish w_ym_rust yo_number yo_answers yo_doubles yo_isOn yo_misses yo_parish yo_rust) (va_A (udX5_copyFrom cI h0 h1 h2 h3 h4 h5 h6 h7 h8 h9 h10 h11 h12 h13 ym_number ym_answers ym_doubles ym_isOn ym_misses ym_parish ym_rust yo_number yo_answers yo_doubles yo_isOn yo_misses yo_parish yo_rust) sz) t) (va_A (udX5_copyFrom cI h0 h1 h2 h3 h4 h5 h6 h7 h8 h9 h10 h11 h12 h13 ym_number ym_answers ym_doubles ym_isOn ym_misses ym_parish ym_rust yo_number yo_answers yo_doubles yo_isOn yo_misses yo_parish yo_rust) sz)) 0 0 (va_A (udX5_copyFrom cI h0 h1 h2 h3 h4 h5 h6 h7 h8 h9 h10 h11 h12 h13 ym_number ym_answers ym_doubles ym_isOn ym_misses ym_parish ym_rust yo_number yo_answers yo_doubles yo_isOn yo_misses yo_parish yo_rust) sz) :=
  ub_met_v (by decide +kernel) rfl (Nat.le_of_ble_eq_true rfl) fun _ _ _ _ _ _ _ _ _ _ K hret _ hl hP hD hS => uwX5_copyFrom_E K hret h hl hP hD hS
-- X5_has
def udX5_has (cI : ClassId) (h0 : Nat) (z0 : Nat) (z1 : Nat) (z2 : Nat) (z3 : Nat) (z4 : Nat) (z5 : Nat) (ym_number : Int32) : va_W := [(h0, .inr (7, [.int ym_number, .ref z0, .ref z1, .ref z2, .ref z3, .ref z4, .ref z5]))]
def ufX5_has (ym_number : Int32) (l1 : Int32) : Option (Int32) :=
  if l1 < 0 then
    some (0)
  else
    if ym_number ≤ l1 then
      some (0)
    else
      some (1)
theorem uvX5_has_1 : Cond.fieldLink RX5 30 "UnheardBells$Ropes" "number" "I" ∈ wsX5_has := List.mem_cons_of_mem _ us_m81
theorem uiX5_has_X5 : ∀ w ∈ u_ws RX5 TX5 7, w ∈ wsX5_has := fun w h => List.mem_cons_of_mem _ (us_inX5 w h)
theorem uhX5_has : yX5_has.cls ≠ "java/lang/invoke/MethodHandle" ∧ yX5_has.cls ≠ "java/lang/invoke/VarHandle" ∧ (parseMethodDescriptor yX5_has.desc).map (fun d => d.parameters.length) = some 1 := by decide +kernel
set_option maxHeartbeats 4000000 in
set_option maxRecDepth 100000 in
theorem uwX5_has_E {p : Program} {l : Launch} {e : Env} {s : State} {m : MethodId} {args : Array Value} {below : List Frame} {meth : Method} {c : Code} {Q : State → Prop} {D : va_G} {cI cT : ClassId} {A : Nat → Prop} (K : ub_kx p s m args meth c cX5_has 2 RX5 wsX5_has D cI cT A) {h0 : Nat} {z0 : Nat} {z1 : Nat} {z2 : Nat} {z3 : Nat} {z4 : Nat} {z5 : Nat} {ym_number : Int32} {l1 : Int32} {rr : Int32} (hret : ∀ (H : Heap) (locs : List Loc) (pc : Nat) (ls : Array Slot), decode cX5_has pc = .ok (.ireturn, 1) → narrow .boolean (.int rr) = .int rr → va_P D vwCl (udX5_has cI h0 z0 z1 z2 z3 z4 z5 ym_number) H → va_D A (udX5_has cI h0 z0 z1 z2 z3 z4 z5 ym_number) → va_S A s.heap H locs → W p l e ({ frames := 0, cells := 0, slots := 0, locals := 0 } : Room) s m args below meth c H locs 0 0 Q (F0 m pc ls [.int rr])) (h : ufX5_has ym_number l1 = some rr) {H : Heap} {locs : List Loc} {ls : Array Slot} (hl : lv_has ls 2 [(0, .ref h0), (1, .int l1)]) (hP : va_P D vwCl (udX5_has cI h0 z0 z1 z2 z3 z4 z5 ym_number) H) (hD : va_D A (udX5_has cI h0 z0 z1 z2 z3 z4 z5 ym_number)) (hS : va_S A s.heap H locs) : W p l e ({ frames := 0, cells := 0, slots := 0, locals := 0 } : Room) s m args below meth c H locs 0 0 Q (F0 m 0 ls []) := by
  have K0 := K
  obtain ⟨hx, hb, hml, hown, hts, hK, hN, hA⟩ := K
  unfold ufX5_has at h
  refine lv_iload_n hx hb dX5_has_0 rfl (lv_at hl 1 rfl) ?_
  refine lv_if_lt (tgt := 16) hx hb dX5_has_1 (by decide) (fun c1 => ?_) (fun c1 => ?_)
  · have h := ub_if_t c1 h
    refine lv_iconst (v := 0) hx hb dX5_has_16 (by decide) ?_
    cases h
    exact hret H locs _ ls dX5_has_17 rfl hP hD hS
  · have h := ub_if_f c1 h
    refine lv_iload_n hx hb dX5_has_4 rfl (lv_at hl 1 rfl) ?_
    refine lv_aload_n hx hb dX5_has_5 rfl (lv_at hl 0 rfl) ?_
    refine va_get (ci := 7) (v := .int ym_number) (C := RX5) (T := TX5) (N := 7) hx hb hts uiX5_has_X5 hown hK hP 0 rfl rfl 0 (by decide) (hts _ uvX5_has_1) (fun _ h9 => h9) rfl dX5_has_6 ?_
    refine lv_icmp_ge (tgt := 16) hx hb dX5_has_9 (by decide) (fun c9 => ?_) (fun c9 => ?_)
    · have h := ub_if_t c9 h
      refine lv_iconst (v := 0) hx hb dX5_has_16 (by decide) ?_
      cases h
      exact hret H locs _ ls dX5_has_17 rfl hP hD hS
    · have h := ub_if_f c9 h
      refine lv_iconst (v := 1) hx hb dX5_has_12 (by decide) ?_
      refine lv_goto (tgt := 17) hx hb dX5_has_13 (by decide) ?_
      cases h
      exact hret H locs _ ls dX5_has_17 rfl hP hD hS
set_option maxHeartbeats 4000000 in
set_option maxRecDepth 100000 in
theorem ucX5_has (l : Launch) (D : va_G) (cI cT : ClassId) {h0 : Nat} {z0 : Nat} {z1 : Nat} {z2 : Nat} {z3 : Nat} {z4 : Nat} {z5 : Nat} {l1 : Int32} {rr : Int32} {ym_number : Int32} {sz : Nat} (h : ufX5_has ym_number l1 = some rr) : Met l yX5_has wsX5_has ({ frames := 0, cells := 0, slots := 0, locals := 0 } : Room) (va_Pc [.ref h0, .int l1] (ub_pc D cI cT (udX5_has cI h0 z0 z1 z2 z3 z4 z5 ym_number) sz)) (va_Qi (fun (r' : Int32) (_ : Unit) => r' = rr) (fun _ t => ub_pq D (udX5_has cI h0 z0 z1 z2 z3 z4 z5 ym_number) (va_A (udX5_has cI h0 z0 z1 z2 z3 z4 z5 ym_number) sz) t) (va_A (udX5_has cI h0 z0 z1 z2 z3 z4 z5 ym_number) sz)) 0 0 (va_A (udX5_has cI h0 z0 z1 z2 z3 z4 z5 ym_number) sz) :=
  ub_met_i (by decide +kernel) rfl (Nat.le_of_ble_eq_true rfl) fun _ _ _ _ _ _ _ _ _ _ K hret _ hl hP hD hS => uwX5_has_E K hret h hl hP hD hS
-- X5_bring
def udX5_bring (cI : ClassId) (h0 : Nat) (h1 : Nat) (h2 : Nat) (z0 : Nat) (z1 : Nat) (z2 : Nat) (z3 : Nat) (ym_number : Int32) (ym_isOn : Nat → Int32) (ym_parish : Nat → Int32) : va_W := [(h0, .inr (7, [.int ym_number, .ref h2, .ref h1, .ref z0, .ref z1, .ref z2, .ref z3])), (h1, .inl (cI, 12, .inl ym_isOn)), (h2, .inl (cI, 12, .inl ym_parish))]
def ufX5_bring (ym_number : Int32) (ym_isOn : Nat → Int32) (ym_parish : Nat → Int32) (l1 : Int32) : Option (Int32 × Int32 × (Nat → Int32) × (Nat → Int32)) :=
  ub_b1 (ufX8_put 12 ym_parish ym_number l1) fun ym_parish_1 =>
  ub_b1 (ufX8_put 12 ym_isOn ym_number 1) fun ym_isOn_2 =>
  some (ym_number, ym_number + 1, ym_isOn_2, ym_parish_1)
theorem uvX5_bring_1 : Cond.fieldLink RX5 30 "UnheardBells$Ropes" "number" "I" ∈ wsX5_bring := List.mem_cons_of_mem _ us_m81
theorem uvX5_bring_2 : Cond.fieldLink RX5 9 "UnheardBells$Ropes" "parish" "[I" ∈ wsX5_bring := List.mem_cons_of_mem _ us_m83
theorem uvX5_bring_5 : Cond.initialized RX8 ∈ wsX5_bring := List.mem_cons_of_mem _ us_m40
theorem uvX5_bring_4 : Cond.static yX8_put ∈ wsX5_bring := List.mem_cons_of_mem _ us_m380
theorem uvX5_bring_3 : Cond.fieldLink RX5 15 "UnheardBells$Ropes" "isOn" "[I" ∈ wsX5_bring := List.mem_cons_of_mem _ us_m85
theorem uiX5_bring_X5 : ∀ w ∈ u_ws RX5 TX5 7, w ∈ wsX5_bring := fun w h => List.mem_cons_of_mem _ (us_inX5 w h)
theorem uhX5_bring : yX5_bring.cls ≠ "java/lang/invoke/MethodHandle" ∧ yX5_bring.cls ≠ "java/lang/invoke/VarHandle" ∧ (parseMethodDescriptor yX5_bring.desc).map (fun d => d.parameters.length) = some 1 := by decide +kernel
set_option maxHeartbeats 4000000 in
set_option maxRecDepth 100000 in
theorem uwX5_bring_E {p : Program} {l : Launch} {e : Env} {s : State} {m : MethodId} {args : Array Value} {below : List Frame} {meth : Method} {c : Code} {Q : State → Prop} {D : va_G} {cI cT : ClassId} {A : Nat → Prop} (K : ub_kx p s m args meth c cX5_bring 3 RX5 wsX5_bring D cI cT A) {h0 h1 h2 : Nat} {z0 : Nat} {z1 : Nat} {z2 : Nat} {z3 : Nat} {ym_number : Int32} {ym_isOn : (Nat → Int32)} {ym_parish : (Nat → Int32)} {l1 : Int32} {rr : Int32} {w_ym_number : Int32} {w_ym_isOn : (Nat → Int32)} {w_ym_parish : (Nat → Int32)} (hret : ∀ (H : Heap) (locs : List Loc) (pc : Nat) (ls : Array Slot), decode cX5_bring pc = .ok (.ireturn, 1) → narrow .int (.int rr) = .int rr → va_P D vwCl (udX5_bring cI h0 h1 h2 z0 z1 z2 z3 w_ym_number w_ym_isOn w_ym_parish) H → va_D A (udX5_bring cI h0 h1 h2 z0 z1 z2 z3 w_ym_number w_ym_isOn w_ym_parish) → va_S A s.heap H locs → W p l e ({ frames := 1, cells := 0, slots := 0, locals := 22 } : Room) s m args below meth c H locs 0 0 Q (F0 m pc ls [.int rr])) (h : ufX5_bring ym_number ym_isOn ym_parish l1 = some (rr, w_ym_number, w_ym_isOn, w_ym_parish)) {H : Heap} {locs : List Loc} {ls : Array Slot} (hl : lv_has ls 3 [(0, .ref h0), (1, .int l1)]) (hP : va_P D vwCl (udX5_bring cI h0 h1 h2 z0 z1 z2 z3 ym_number ym_isOn ym_parish) H) (hD : va_D A (udX5_bring cI h0 h1 h2 z0 z1 z2 z3 ym_number ym_isOn ym_parish)) (hS : va_S A s.heap H locs) : W p l e ({ frames := 1, cells := 0, slots := 0, locals := 22 } : Room) s m args below meth c H locs 0 0 Q (F0 m 0 ls []) := by
  have K0 := K
  obtain ⟨hx, hb, hml, hown, hts, hK, hN, hA⟩ := K
  unfold ufX5_bring at h
  refine lv_aload_n hx hb dX5_bring_0 rfl (lv_at hl 0 rfl) ?_
  refine va_get (ci := 7) (v := .int ym_number) (C := RX5) (T := TX5) (N := 7) hx hb hts uiX5_bring_X5 hown hK hP 0 rfl rfl 0 (by decide) (hts _ uvX5_bring_1) (fun _ h9 => h9) rfl dX5_bring_1 ?_
  refine lv_istore_n (lv' := [(2, .int ym_number), (0, .ref h0), (1, .int l1)]) hx hb dX5_bring_4 rfl hl (by decide) rfl (fun ls hl => ?_)
  refine lv_aload_n hx hb dX5_bring_5 rfl (lv_at hl 1 rfl) ?_
  refine lv_dup hx hb dX5_bring_6 rfl ?_
  refine va_get (ci := 7) (v := .int ym_number) (C := RX5) (T := TX5) (N := 7) hx hb hts uiX5_bring_X5 hown hK hP 0 rfl rfl 0 (by decide) (hts _ uvX5_bring_1) (fun _ h9 => h9) rfl dX5_bring_7 ?_
  refine lv_iconst (v := 1) hx hb dX5_bring_10 (by decide) ?_
  refine lv_iadd hx hb dX5_bring_11 ?_
  refine ub_put (ws' := (udX5_bring cI h0 h1 h2 z0 z1 z2 z3 (ym_number + 1) ym_isOn ym_parish)) (ci := 7) (C := RX5) (T := TX5) (N := 7) hx hb hts uiX5_bring_X5 tyX5 tyX5_ok nmX5 hown hK hP hD hS 0 0 (v := .int (ym_number + 1)) (ty := tyX5 0) rfl rfl (by decide) (hts _ uvX5_bring_1) (fun _ h9 => h9) rfl (tyX5_ok 0 (by decide)) rfl rfl (Nat.le_of_ble_eq_true rfl) rfl dX5_bring_12 (fun H locs hP hD hS => ?_)
  refine lv_aload_n hx hb dX5_bring_15 rfl (lv_at hl 1 rfl) ?_
  refine va_get (ci := 7) (v := .ref h2) (C := RX5) (T := TX5) (N := 7) hx hb hts uiX5_bring_X5 hown hK hP 0 rfl rfl 1 (by decide) (hts _ uvX5_bring_2) (fun _ h9 => h9) rfl dX5_bring_16 ?_
  refine lv_iload_n hx hb dX5_bring_19 rfl (lv_at hl 0 rfl) ?_
  refine lv_iload_n hx hb dX5_bring_20 rfl (lv_at hl 2 rfl) ?_
  obtain ⟨ym_parish_1, hc21, h⟩ := ub_b1_some h
  have hPc : va_P D vwCl (udX8_put cI 12 h2 ym_parish) H := ub_pickP hP [2] rfl
  have hDc : va_D A (udX8_put cI 12 h2 ym_parish) := hD.sub [2] (by decide) rfl
  refine ub_callv (ws' := (udX5_bring cI h0 h1 h2 z0 z1 z2 z3 (ym_number + 1) ym_isOn ym_parish_1)) (va_runSN (As := [.ref h2, .int ym_number, .int l1]) (rest := []) ⟨hx, hb, hml, hown, hts⟩ (ucX8_put l D cI cT hc21) ⟨va_cnB 3 hts gX5_bring_X8_put_n38 rfl rfl rfl (hN.at 13 rfl) (hts _ uvX5_bring_5) uhX8_put ⟨Nat.le_of_ble_eq_true rfl, Nat.le_of_ble_eq_true rfl⟩, (hts _ uvX5_bring_4), trivial⟩ (ub_preS hPc hDc hK hN) rfl rfl hl.1 rfl (lv_room (Nat.le_of_ble_eq_true rfl)) dX5_bring_21 ⟨Nat.le_of_ble_eq_true rfl, Nat.le_of_ble_eq_true rfl⟩) hP hD hS hA [2] rfl (by decide) rfl rfl (fun H locs hP hD hS => ?_)
  refine lv_aload_n hx hb dX5_bring_24 rfl (lv_at hl 1 rfl) ?_
  refine va_get (ci := 7) (v := .ref h1) (C := RX5) (T := TX5) (N := 7) hx hb hts uiX5_bring_X5 hown hK hP 0 rfl rfl 2 (by decide) (hts _ uvX5_bring_3) (fun _ h9 => h9) rfl dX5_bring_25 ?_
  refine lv_iload_n hx hb dX5_bring_28 rfl (lv_at hl 0 rfl) ?_
  refine lv_iconst (v := 1) hx hb dX5_bring_29 (by decide) ?_
  obtain ⟨ym_isOn_2, hc30, h⟩ := ub_b1_some h
  have hPc : va_P D vwCl (udX8_put cI 12 h1 ym_isOn) H := ub_pickP hP [1] rfl
  have hDc : va_D A (udX8_put cI 12 h1 ym_isOn) := hD.sub [1] (by decide) rfl
  refine ub_callv (ws' := (udX5_bring cI h0 h1 h2 z0 z1 z2 z3 (ym_number + 1) ym_isOn_2 ym_parish_1)) (va_runSN (As := [.ref h1, .int ym_number, .int 1]) (rest := []) ⟨hx, hb, hml, hown, hts⟩ (ucX8_put l D cI cT hc30) ⟨va_cnB 3 hts gX5_bring_X8_put_n38 rfl rfl rfl (hN.at 13 rfl) (hts _ uvX5_bring_5) uhX8_put ⟨Nat.le_of_ble_eq_true rfl, Nat.le_of_ble_eq_true rfl⟩, (hts _ uvX5_bring_4), trivial⟩ (ub_preS hPc hDc hK hN) rfl rfl hl.1 rfl (lv_room (Nat.le_of_ble_eq_true rfl)) dX5_bring_30 ⟨Nat.le_of_ble_eq_true rfl, Nat.le_of_ble_eq_true rfl⟩) hP hD hS hA [1] rfl (by decide) rfl rfl (fun H locs hP hD hS => ?_)
  refine lv_iload_n hx hb dX5_bring_33 rfl (lv_at hl 0 rfl) ?_
  cases h
  exact hret H locs _ ls dX5_bring_34 rfl hP hD hS
set_option maxHeartbeats 4000000 in
set_option maxRecDepth 100000 in
theorem ucX5_bring (l : Launch) (D : va_G) (cI cT : ClassId) {h0 h1 h2 : Nat} {z0 : Nat} {z1 : Nat} {z2 : Nat} {z3 : Nat} {l1 : Int32} {rr : Int32} {w_ym_number : Int32} {w_ym_isOn : (Nat → Int32)} {w_ym_parish : (Nat → Int32)} {ym_number : Int32} {ym_isOn : (Nat → Int32)} {ym_parish : (Nat → Int32)} {sz : Nat} (h : ufX5_bring ym_number ym_isOn ym_parish l1 = some (rr, w_ym_number, w_ym_isOn, w_ym_parish)) : Met l yX5_bring wsX5_bring ({ frames := 1, cells := 0, slots := 0, locals := 22 } : Room) (va_Pc [.ref h0, .int l1] (ub_pc D cI cT (udX5_bring cI h0 h1 h2 z0 z1 z2 z3 ym_number ym_isOn ym_parish) sz)) (va_Qi (fun (r' : Int32) (_ : Unit) => r' = rr) (fun _ t => ub_pq D (udX5_bring cI h0 h1 h2 z0 z1 z2 z3 w_ym_number w_ym_isOn w_ym_parish) (va_A (udX5_bring cI h0 h1 h2 z0 z1 z2 z3 ym_number ym_isOn ym_parish) sz) t) (va_A (udX5_bring cI h0 h1 h2 z0 z1 z2 z3 ym_number ym_isOn ym_parish) sz)) 0 0 (va_A (udX5_bring cI h0 h1 h2 z0 z1 z2 z3 ym_number ym_isOn ym_parish) sz) :=
  ub_met_i (by decide +kernel) rfl (Nat.le_of_ble_eq_true rfl) fun _ _ _ _ _ _ _ _ _ _ K hret _ hl hP hD hS => uwX5_bring_E K hret h hl hP hD hS
-- X5_isEnough
def udX5_isEnough (cI : ClassId) (h0 : Nat) (h1 : Nat) (h2 : Nat) (z0 : Nat) (z1 : Nat) (z2 : Nat) (z3 : Nat) (ym_number : Int32) (ym_isOn : Nat → Int32) (ym_rust : Nat → Int32) : va_W := [(h0, .inr (7, [.int ym_number, .ref z0, .ref h1, .ref h2, .ref z1, .ref z2, .ref z3])), (h1, .inl (cI, 12, .inl ym_isOn)), (h2, .inl (cI, 12, .inl ym_rust))]
def ufX5_isEnough (ym_isOn : Nat → Int32) (ym_rust : Nat → Int32) (l1 : Int32) (l2 : Int32) : Option (Int32) :=
  ub_b1 (ufX8_at 12 ym_isOn l1) fun x_1 =>
  if x_1 = 1 then
    ub_b1 (ufX8_at 12 ym_rust l1) fun x_2 =>
    if l2 ≤ x_2 then
      some (0)
    else
      some (1)
  else
    some (0)
theorem uvX5_isEnough_1 : Cond.fieldLink RX5 15 "UnheardBells$Ropes" "isOn" "[I" ∈ wsX5_isEnough := List.mem_cons_of_mem _ us_m85
theorem uvX5_isEnough_4 : Cond.initialized RX8 ∈ wsX5_isEnough := List.mem_cons_of_mem _ us_m40
theorem uvX5_isEnough_3 : Cond.static yX8_at ∈ wsX5_isEnough := List.mem_cons_of_mem _ us_m404
theorem uvX5_isEnough_2 : Cond.fieldLink RX5 18 "UnheardBells$Ropes" "rust" "[I" ∈ wsX5_isEnough := List.mem_cons_of_mem _ us_m88
theorem uiX5_isEnough_X5 : ∀ w ∈ u_ws RX5 TX5 7, w ∈ wsX5_isEnough := fun w h => List.mem_cons_of_mem _ (us_inX5 w h)
theorem uhX5_isEnough : yX5_isEnough.cls ≠ "java/lang/invoke/MethodHandle" ∧ yX5_isEnough.cls ≠ "java/lang/invoke/VarHandle" ∧ (parseMethodDescriptor yX5_isEnough.desc).map (fun d => d.parameters.length) = some 2 := by decide +kernel
set_option maxHeartbeats 4000000 in
set_option maxRecDepth 100000 in
theorem uwX5_isEnough_E {p : Program} {l : Launch} {e : Env} {s : State} {m : MethodId} {args : Array Value} {below : List Frame} {meth : Method} {c : Code} {Q : State → Prop} {D : va_G} {cI cT : ClassId} {A : Nat → Prop} (K : ub_kx p s m args meth c cX5_isEnough 3 RX5 wsX5_isEnough D cI cT A) {h0 h1 h2 : Nat} {z0 : Nat} {z1 : Nat} {z2 : Nat} {z3 : Nat} {ym_number : Int32} {ym_isOn : (Nat → Int32)} {ym_rust : (Nat → Int32)} {l1 : Int32} {l2 : Int32} {rr : Int32} (hret : ∀ (H : Heap) (locs : List Loc) (pc : Nat) (ls : Array Slot), decode cX5_isEnough pc = .ok (.ireturn, 1) → narrow .boolean (.int rr) = .int rr → va_P D vwCl (udX5_isEnough cI h0 h1 h2 z0 z1 z2 z3 ym_number ym_isOn ym_rust) H → va_D A (udX5_isEnough cI h0 h1 h2 z0 z1 z2 z3 ym_number ym_isOn ym_rust) → va_S A s.heap H locs → W p l e ({ frames := 1, cells := 0, slots := 0, locals := 21 } : Room) s m args below meth c H locs 0 0 Q (F0 m pc ls [.int rr])) (h : ufX5_isEnough ym_isOn ym_rust l1 l2 = some rr) {H : Heap} {locs : List Loc} {ls : Array Slot} (hl : lv_has ls 3 [(0, .ref h0), (1, .int l1), (2, .int l2)]) (hP : va_P D vwCl (udX5_isEnough cI h0 h1 h2 z0 z1 z2 z3 ym_number ym_isOn ym_rust) H) (hD : va_D A (udX5_isEnough cI h0 h1 h2 z0 z1 z2 z3 ym_number ym_isOn ym_rust)) (hS : va_S A s.heap H locs) : W p l e ({ frames := 1, cells := 0, slots := 0, locals := 21 } : Room) s m args below meth c H locs 0 0 Q (F0 m 0 ls []) := by
  have K0 := K
  obtain ⟨hx, hb, hml, hown, hts, hK, hN, hA⟩ := K
  unfold ufX5_isEnough at h
  refine lv_aload_n hx hb dX5_isEnough_0 rfl (lv_at hl 0 rfl) ?_
  refine va_get (ci := 7) (v := .ref h1) (C := RX5) (T := TX5) (N := 7) hx hb hts uiX5_isEnough_X5 hown hK hP 0 rfl rfl 2 (by decide) (hts _ uvX5_isEnough_1) (fun _ h9 => h9) rfl dX5_isEnough_1 ?_
  refine lv_iload_n hx hb dX5_isEnough_4 rfl (lv_at hl 1 rfl) ?_
  obtain ⟨x_1, hc5, h⟩ := ub_b1_some h
  have hPc : va_P D vwCl (udX8_at cI 12 h1 ym_isOn) H := ub_pickP hP [1] rfl
  have hDc : va_D A (udX8_at cI 12 h1 ym_isOn) := hD.sub [1] (by decide) rfl
  refine ub_calli (ws' := (udX5_isEnough cI h0 h1 h2 z0 z1 z2 z3 ym_number ym_isOn ym_rust)) (va_runSN (As := [.ref h1, .int l1]) (rest := []) ⟨hx, hb, hml, hown, hts⟩ (ucX8_at l D cI cT hc5) ⟨va_cnB 2 hts gX5_isEnough_X8_at_n42 rfl rfl rfl (hN.at 19 rfl) (hts _ uvX5_isEnough_4) uhX8_at ⟨Nat.le_of_ble_eq_true rfl, Nat.le_of_ble_eq_true rfl⟩, (hts _ uvX5_isEnough_3), trivial⟩ (ub_preS hPc hDc hK hN) rfl rfl hl.1 rfl (lv_room (Nat.le_of_ble_eq_true rfl)) dX5_isEnough_5 ⟨Nat.le_of_ble_eq_true rfl, Nat.le_of_ble_eq_true rfl⟩) hP hD hS hA [1] rfl (by decide) rfl rfl (fun H locs hP hD hS => ?_)
  refine lv_iconst (v := 1) hx hb dX5_isEnough_8 (by decide) ?_
  refine lv_icmp_ne (tgt := 28) hx hb dX5_isEnough_9 (by decide) (fun c9 => ?_) (fun c9 => ?_)
  · have h := ub_if_f c9 h
    refine lv_iconst (v := 0) hx hb dX5_isEnough_28 (by decide) ?_
    cases h
    exact hret H locs _ ls dX5_isEnough_29 rfl hP hD hS
  · have h := ub_if_t c9 h
    refine lv_iload_n hx hb dX5_isEnough_12 rfl (lv_at hl 2 rfl) ?_
    refine lv_aload_n hx hb dX5_isEnough_13 rfl (lv_at hl 0 rfl) ?_
    refine va_get (ci := 7) (v := .ref h2) (C := RX5) (T := TX5) (N := 7) hx hb hts uiX5_isEnough_X5 hown hK hP 0 rfl rfl 3 (by decide) (hts _ uvX5_isEnough_2) (fun _ h9 => h9) rfl dX5_isEnough_14 ?_
    refine lv_iload_n hx hb dX5_isEnough_17 rfl (lv_at hl 1 rfl) ?_
    obtain ⟨x_2, hc18, h⟩ := ub_b1_some h
    have hPc : va_P D vwCl (udX8_at cI 12 h2 ym_rust) H := ub_pickP hP [2] rfl
    have hDc : va_D A (udX8_at cI 12 h2 ym_rust) := hD.sub [2] (by decide) rfl
    refine ub_calli (ws' := (udX5_isEnough cI h0 h1 h2 z0 z1 z2 z3 ym_number ym_isOn ym_rust)) (va_runSN (As := [.ref h2, .int l1]) (rest := [.int l2]) ⟨hx, hb, hml, hown, hts⟩ (ucX8_at l D cI cT hc18) ⟨va_cnB 2 hts gX5_isEnough_X8_at_n42 rfl rfl rfl (hN.at 19 rfl) (hts _ uvX5_isEnough_4) uhX8_at ⟨Nat.le_of_ble_eq_true rfl, Nat.le_of_ble_eq_true rfl⟩, (hts _ uvX5_isEnough_3), trivial⟩ (ub_preS hPc hDc hK hN) rfl rfl hl.1 rfl (lv_room (Nat.le_of_ble_eq_true rfl)) dX5_isEnough_18 ⟨Nat.le_of_ble_eq_true rfl, Nat.le_of_ble_eq_true rfl⟩) hP hD hS hA [2] rfl (by decide) rfl rfl (fun H locs hP hD hS => ?_)
    refine lv_icmp_le (tgt := 28) hx hb dX5_isEnough_21 (by decide) (fun c21 => ?_) (fun c21 => ?_)
    · have h := ub_if_t c21 h
      refine lv_iconst (v := 0) hx hb dX5_isEnough_28 (by decide) ?_
      cases h
      exact hret H locs _ ls dX5_isEnough_29 rfl hP hD hS
    · have h := ub_if_f c21 h
      refine lv_iconst (v := 1) hx hb dX5_isEnough_24 (by decide) ?_
      refine lv_goto (tgt := 29) hx hb dX5_isEnough_25 (by decide) ?_
      cases h
      exact hret H locs _ ls dX5_isEnough_29 rfl hP hD hS
set_option maxHeartbeats 4000000 in
set_option maxRecDepth 100000 in
theorem ucX5_isEnough (l : Launch) (D : va_G) (cI cT : ClassId) {h0 h1 h2 : Nat} {z0 : Nat} {z1 : Nat} {z2 : Nat} {z3 : Nat} {l1 : Int32} {l2 : Int32} {rr : Int32} {ym_number : Int32} {ym_isOn : (Nat → Int32)} {ym_rust : (Nat → Int32)} {sz : Nat} (h : ufX5_isEnough ym_isOn ym_rust l1 l2 = some rr) : Met l yX5_isEnough wsX5_isEnough ({ frames := 1, cells := 0, slots := 0, locals := 21 } : Room) (va_Pc [.ref h0, .int l1, .int l2] (ub_pc D cI cT (udX5_isEnough cI h0 h1 h2 z0 z1 z2 z3 ym_number ym_isOn ym_rust) sz)) (va_Qi (fun (r' : Int32) (_ : Unit) => r' = rr) (fun _ t => ub_pq D (udX5_isEnough cI h0 h1 h2 z0 z1 z2 z3 ym_number ym_isOn ym_rust) (va_A (udX5_isEnough cI h0 h1 h2 z0 z1 z2 z3 ym_number ym_isOn ym_rust) sz) t) (va_A (udX5_isEnough cI h0 h1 h2 z0 z1 z2 z3 ym_number ym_isOn ym_rust) sz)) 0 0 (va_A (udX5_isEnough cI h0 h1 h2 z0 z1 z2 z3 ym_number ym_isOn ym_rust) sz) :=
  ub_met_i (by decide +kernel) rfl (Nat.le_of_ble_eq_true rfl) fun _ _ _ _ _ _ _ _ _ _ K hret _ hl hP hD hS => uwX5_isEnough_E K hret h hl hP hD hS
-- X5_becomeRustier
def udX5_becomeRustier (cI : ClassId) (h0 : Nat) (h1 : Nat) (z0 : Nat) (z1 : Nat) (z2 : Nat) (z3 : Nat) (z4 : Nat) (ym_number : Int32) (ym_rust : Nat → Int32) : va_W := [(h0, .inr (7, [.int ym_number, .ref z0, .ref z1, .ref h1, .ref z2, .ref z3, .ref z4])), (h1, .inl (cI, 12, .inl ym_rust))]
def ufX5_becomeRustier (ym_rust : Nat → Int32) (l1 : Int32) : Option ((Nat → Int32)) :=
  ub_b1 (ufX8_at 12 ym_rust l1) fun x_1 =>
  ub_nm (if 9 < (x_1 + 1) then 9 else (x_1 + 1)) fun x_2 =>
  ub_b1 (ufX8_put 12 ym_rust l1 x_2) fun ym_rust_3 =>
  some (ym_rust_3)
theorem uvX5_becomeRustier_1 : Cond.fieldLink RX5 18 "UnheardBells$Ropes" "rust" "[I" ∈ wsX5_becomeRustier := List.mem_cons_of_mem _ us_m88
theorem uvX5_becomeRustier_7 : Cond.initialized RX8 ∈ wsX5_becomeRustier := List.mem_cons_of_mem _ us_m40
theorem uvX5_becomeRustier_6 : Cond.static yX8_at ∈ wsX5_becomeRustier := List.mem_cons_of_mem _ us_m404
theorem uvX5_becomeRustier_2 : Cond.methodLink RX5 46 Lib.Math.min.name ∈ wsX5_becomeRustier := List.mem_cons_of_mem _ us_m489
theorem uvX5_becomeRustier_3 : Cond.static Lib.Math.min.name ∈ wsX5_becomeRustier := List.mem_cons_of_mem _ us_m348
theorem uvX5_becomeRustier_4 : Cond.initialized "java/lang/Math" ∈ wsX5_becomeRustier := List.mem_cons_of_mem _ us_m49
theorem uvX5_becomeRustier_5 : Cond.code Lib.Math.min.name Lib.Math.min.code 2 (some .int) ∈ wsX5_becomeRustier := List.mem_cons_of_mem _ us_m349
theorem uvX5_becomeRustier_9 : Cond.static yX8_put ∈ wsX5_becomeRustier := List.mem_cons_of_mem _ us_m380
theorem uiX5_becomeRustier_X5 : ∀ w ∈ u_ws RX5 TX5 7, w ∈ wsX5_becomeRustier := fun w h => List.mem_cons_of_mem _ (us_inX5 w h)
theorem uhX5_becomeRustier : yX5_becomeRustier.cls ≠ "java/lang/invoke/MethodHandle" ∧ yX5_becomeRustier.cls ≠ "java/lang/invoke/VarHandle" ∧ (parseMethodDescriptor yX5_becomeRustier.desc).map (fun d => d.parameters.length) = some 1 := by decide +kernel
set_option maxHeartbeats 4000000 in
set_option maxRecDepth 100000 in
theorem uwX5_becomeRustier_E {p : Program} {l : Launch} {e : Env} {s : State} {m : MethodId} {args : Array Value} {below : List Frame} {meth : Method} {c : Code} {Q : State → Prop} {D : va_G} {cI cT : ClassId} {A : Nat → Prop} (K : ub_kx p s m args meth c cX5_becomeRustier 2 RX5 wsX5_becomeRustier D cI cT A) {h0 h1 : Nat} {z0 : Nat} {z1 : Nat} {z2 : Nat} {z3 : Nat} {z4 : Nat} {ym_number : Int32} {ym_rust : (Nat → Int32)} {l1 : Int32} {w_ym_rust : (Nat → Int32)} (hret : ∀ (H : Heap) (locs : List Loc) (pc : Nat) (ls : Array Slot), decode cX5_becomeRustier pc = .ok (.return_, 1) → va_P D vwCl (udX5_becomeRustier cI h0 h1 z0 z1 z2 z3 z4 ym_number w_ym_rust) H → va_D A (udX5_becomeRustier cI h0 h1 z0 z1 z2 z3 z4 ym_number w_ym_rust) → va_S A s.heap H locs → W p l e ({ frames := 1, cells := 0, slots := 0, locals := 22 } : Room) s m args below meth c H locs 0 0 Q (F0 m pc ls [])) (h : ufX5_becomeRustier ym_rust l1 = some w_ym_rust) {H : Heap} {locs : List Loc} {ls : Array Slot} (hl : lv_has ls 2 [(0, .ref h0), (1, .int l1)]) (hP : va_P D vwCl (udX5_becomeRustier cI h0 h1 z0 z1 z2 z3 z4 ym_number ym_rust) H) (hD : va_D A (udX5_becomeRustier cI h0 h1 z0 z1 z2 z3 z4 ym_number ym_rust)) (hS : va_S A s.heap H locs) : W p l e ({ frames := 1, cells := 0, slots := 0, locals := 22 } : Room) s m args below meth c H locs 0 0 Q (F0 m 0 ls []) := by
  have K0 := K
  obtain ⟨hx, hb, hml, hown, hts, hK, hN, hA⟩ := K
  unfold ufX5_becomeRustier at h
  refine lv_aload_n hx hb dX5_becomeRustier_0 rfl (lv_at hl 0 rfl) ?_
  refine va_get (ci := 7) (v := .ref h1) (C := RX5) (T := TX5) (N := 7) hx hb hts uiX5_becomeRustier_X5 hown hK hP 0 rfl rfl 3 (by decide) (hts _ uvX5_becomeRustier_1) (fun _ h9 => h9) rfl dX5_becomeRustier_1 ?_
  refine lv_iload_n hx hb dX5_becomeRustier_4 rfl (lv_at hl 1 rfl) ?_
  refine lv_aload_n hx hb dX5_becomeRustier_5 rfl (lv_at hl 0 rfl) ?_
  refine va_get (ci := 7) (v := .ref h1) (C := RX5) (T := TX5) (N := 7) hx hb hts uiX5_becomeRustier_X5 hown hK hP 0 rfl rfl 3 (by decide) (hts _ uvX5_becomeRustier_1) (fun _ h9 => h9) rfl dX5_becomeRustier_6 ?_
  refine lv_iload_n hx hb dX5_becomeRustier_9 rfl (lv_at hl 1 rfl) ?_
  obtain ⟨x_1, hc10, h⟩ := ub_b1_some h
  have hPc : va_P D vwCl (udX8_at cI 12 h1 ym_rust) H := ub_pickP hP [1] rfl
  have hDc : va_D A (udX8_at cI 12 h1 ym_rust) := hD.sub [1] (by decide) rfl
  refine ub_calli (ws' := (udX5_becomeRustier cI h0 h1 z0 z1 z2 z3 z4 ym_number ym_rust)) (va_runSN (As := [.ref h1, .int l1]) (rest := [.int l1, .ref h1]) ⟨hx, hb, hml, hown, hts⟩ (ucX8_at l D cI cT hc10) ⟨va_cnB 2 hts gX5_becomeRustier_X8_at_n42 rfl rfl rfl (hN.at 19 rfl) (hts _ uvX5_becomeRustier_7) uhX8_at ⟨Nat.le_of_ble_eq_true rfl, Nat.le_of_ble_eq_true rfl⟩, (hts _ uvX5_becomeRustier_6), trivial⟩ (ub_preS hPc hDc hK hN) rfl rfl hl.1 rfl (lv_room (Nat.le_of_ble_eq_true rfl)) dX5_becomeRustier_10 ⟨Nat.le_of_ble_eq_true rfl, Nat.le_of_ble_eq_true rfl⟩) hP hD hS hA [1] rfl (by decide) rfl rfl (fun H locs hP hD hS => ?_)
  refine lv_iconst (v := 1) hx hb dX5_becomeRustier_13 (by decide) ?_
  refine lv_iadd hx hb dX5_becomeRustier_14 ?_
  refine lv_bipush (v := 9) hx hb dX5_becomeRustier_15 (by decide) ?_
  refine va_mmin hx hb (hml.trans hl.1.symm) hown (hts _ uvX5_becomeRustier_2) (hts _ uvX5_becomeRustier_3) (hts _ uvX5_becomeRustier_4) (hts _ uvX5_becomeRustier_5) (Nat.le_of_ble_eq_true rfl) (Nat.le_of_ble_eq_true rfl) (Nat.le_of_ble_eq_true rfl) (Nat.le_of_ble_eq_true rfl) dX5_becomeRustier_17 ?_
  obtain ⟨x_2, ex_2, h⟩ := ub_nm_some h
  refine ub_topi ex_2 ?_
  obtain ⟨ym_rust_3, hc20, h⟩ := ub_b1_some h
  have hPc : va_P D vwCl (udX8_put cI 12 h1 ym_rust) H := ub_pickP hP [1] rfl
  have hDc : va_D A (udX8_put cI 12 h1 ym_rust) := hD.sub [1] (by decide) rfl
  refine ub_callv (ws' := (udX5_becomeRustier cI h0 h1 z0 z1 z2 z3 z4 ym_number ym_rust_3)) (va_runSN (As := [.ref h1, .int l1, .int x_2]) (rest := []) ⟨hx, hb, hml, hown, hts⟩ (ucX8_put l D cI cT hc20) ⟨va_cnB 3 hts gX5_becomeRustier_X8_put_n38 rfl rfl rfl (hN.at 13 rfl) (hts _ uvX5_becomeRustier_7) uhX8_put ⟨Nat.le_of_ble_eq_true rfl, Nat.le_of_ble_eq_true rfl⟩, (hts _ uvX5_becomeRustier_9), trivial⟩ (ub_preS hPc hDc hK hN) rfl rfl hl.1 rfl (lv_room (Nat.le_of_ble_eq_true rfl)) dX5_becomeRustier_20 ⟨Nat.le_of_ble_eq_true rfl, Nat.le_of_ble_eq_true rfl⟩) hP hD hS hA [1] rfl (by decide) rfl rfl (fun H locs hP hD hS => ?_)
  cases h
  exact hret H locs _ ls dX5_becomeRustier_23 hP hD hS
set_option maxHeartbeats 4000000 in
set_option maxRecDepth 100000 in
theorem ucX5_becomeRustier (l : Launch) (D : va_G) (cI cT : ClassId) {h0 h1 : Nat} {z0 : Nat} {z1 : Nat} {z2 : Nat} {z3 : Nat} {z4 : Nat} {l1 : Int32} {w_ym_rust : (Nat → Int32)} {ym_number : Int32} {ym_rust : (Nat → Int32)} {sz : Nat} (h : ufX5_becomeRustier ym_rust l1 = some w_ym_rust) : Met l yX5_becomeRustier wsX5_becomeRustier ({ frames := 1, cells := 0, slots := 0, locals := 22 } : Room) (va_Pc [.ref h0, .int l1] (ub_pc D cI cT (udX5_becomeRustier cI h0 h1 z0 z1 z2 z3 z4 ym_number ym_rust) sz)) (va_Qv (fun (_ : Unit) => True) (fun _ t => ub_pq D (udX5_becomeRustier cI h0 h1 z0 z1 z2 z3 z4 ym_number w_ym_rust) (va_A (udX5_becomeRustier cI h0 h1 z0 z1 z2 z3 z4 ym_number ym_rust) sz) t) (va_A (udX5_becomeRustier cI h0 h1 z0 z1 z2 z3 z4 ym_number ym_rust) sz)) 0 0 (va_A (udX5_becomeRustier cI h0 h1 z0 z1 z2 z3 z4 ym_number ym_rust) sz) :=
  ub_met_v (by decide +kernel) rfl (Nat.le_of_ble_eq_true rfl) fun _ _ _ _ _ _ _ _ _ _ K hret _ hl hP hD hS => uwX5_becomeRustier_E K hret h hl hP hD hS
-- X5_loseRust
def udX5_loseRust (cI : ClassId) (h0 : Nat) (h1 : Nat) (z0 : Nat) (z1 : Nat) (z2 : Nat) (z3 : Nat) (z4 : Nat) (ym_number : Int32) (ym_rust : Nat → Int32) : va_W := [(h0, .inr (7, [.int ym_number, .ref z0, .ref z1, .ref h1, .ref z2, .ref z3, .ref z4])), (h1, .inl (cI, 12, .inl ym_rust))]
def ulX5_loseRust_2 (ym_number : Int32) (l1 : Int32) : Nat → (Nat → Int32) → Int32 → Option ((Nat → Int32))
  | 0, _, _ => none
  | k + 1, ym_rust, l2 =>
    if ym_number ≤ l2 then
      some (ym_rust)
    else
      ub_b1 (ufX8_isIn l1 l2) fun x_1 =>
      if x_1 = 0 then
        ub_b1 (ufX8_at 12 ym_rust l2) fun x_2 =>
        ub_nm (if (x_2 - 1) < 0 then 0 else (x_2 - 1)) fun x_3 =>
        ub_b1 (ufX8_put 12 ym_rust l2 x_3) fun ym_rust_4 =>
        ulX5_loseRust_2 ym_number l1 k ym_rust_4 (l2 + 1)
      else
        ulX5_loseRust_2 ym_number l1 k ym_rust (l2 + 1)
def ufX5_loseRust (ym_number : Int32) (ym_rust : Nat → Int32) (l1 : Int32) : Option ((Nat → Int32)) :=
  ulX5_loseRust_2 ym_number l1 ub_F ym_rust 0
theorem uvX5_loseRust_1 : Cond.fieldLink RX5 30 "UnheardBells$Ropes" "number" "I" ∈ wsX5_loseRust := List.mem_cons_of_mem _ us_m81
theorem uvX5_loseRust_8 : Cond.initialized RX8 ∈ wsX5_loseRust := List.mem_cons_of_mem _ us_m40
theorem uvX5_loseRust_7 : Cond.static yX8_isIn ∈ wsX5_loseRust := List.mem_cons_of_mem _ us_m467
theorem uvX5_loseRust_2 : Cond.fieldLink RX5 18 "UnheardBells$Ropes" "rust" "[I" ∈ wsX5_loseRust := List.mem_cons_of_mem _ us_m88
theorem uvX5_loseRust_10 : Cond.static yX8_at ∈ wsX5_loseRust := List.mem_cons_of_mem _ us_m404
theorem uvX5_loseRust_3 : Cond.methodLink RX5 56 Lib.Math.max.name ∈ wsX5_loseRust := List.mem_cons_of_mem _ us_m685
theorem uvX5_loseRust_4 : Cond.static Lib.Math.max.name ∈ wsX5_loseRust := List.mem_cons_of_mem _ us_m464
theorem uvX5_loseRust_5 : Cond.initialized "java/lang/Math" ∈ wsX5_loseRust := List.mem_cons_of_mem _ us_m49
theorem uvX5_loseRust_6 : Cond.code Lib.Math.max.name Lib.Math.max.code 2 (some .int) ∈ wsX5_loseRust := List.mem_cons_of_mem _ us_m465
theorem uvX5_loseRust_12 : Cond.static yX8_put ∈ wsX5_loseRust := List.mem_cons_of_mem _ us_m380
theorem uiX5_loseRust_X5 : ∀ w ∈ u_ws RX5 TX5 7, w ∈ wsX5_loseRust := fun w h => List.mem_cons_of_mem _ (us_inX5 w h)
theorem uhX5_loseRust : yX5_loseRust.cls ≠ "java/lang/invoke/MethodHandle" ∧ yX5_loseRust.cls ≠ "java/lang/invoke/VarHandle" ∧ (parseMethodDescriptor yX5_loseRust.desc).map (fun d => d.parameters.length) = some 1 := by decide +kernel
set_option maxHeartbeats 4000000 in
set_option maxRecDepth 100000 in
theorem uwX5_loseRust_2 {p : Program} {l : Launch} {e : Env} {s : State} {m : MethodId} {args : Array Value} {below : List Frame} {meth : Method} {c : Code} {Q : State → Prop} {D : va_G} {cI cT : ClassId} {A : Nat → Prop} (K : ub_kx p s m args meth c cX5_loseRust 3 RX5 wsX5_loseRust D cI cT A) {h0 h1 : Nat} {z0 : Nat} {z1 : Nat} {z2 : Nat} {z3 : Nat} {z4 : Nat} {ym_number : Int32} {l1 : Int32} {w_ym_rust : (Nat → Int32)} (hret : ∀ (H : Heap) (locs : List Loc) (pc : Nat) (ls : Array Slot), decode cX5_loseRust pc = .ok (.return_, 1) → va_P D vwCl (udX5_loseRust cI h0 h1 z0 z1 z2 z3 z4 ym_number w_ym_rust) H → va_D A (udX5_loseRust cI h0 h1 z0 z1 z2 z3 z4 ym_number w_ym_rust) → va_S A s.heap H locs → W p l e ({ frames := 1, cells := 0, slots := 0, locals := 22 } : Room) s m args below meth c H locs 0 0 Q (F0 m pc ls [])) : ∀ (k : Nat) (ym_rust : (Nat → Int32)) (l2 : Int32), ulX5_loseRust_2 ym_number l1 k ym_rust l2 = some w_ym_rust → ∀ (H : Heap) (locs : List Loc) (ls : Array Slot), lv_has ls 3 [(0, .ref h0), (1, .int l1), (2, .int l2)] → va_P D vwCl (udX5_loseRust cI h0 h1 z0 z1 z2 z3 z4 ym_number ym_rust) H → va_D A (udX5_loseRust cI h0 h1 z0 z1 z2 z3 z4 ym_number ym_rust) → va_S A s.heap H locs → W p l e ({ frames := 1, cells := 0, slots := 0, locals := 22 } : Room) s m args below meth c H locs 0 0 Q (F0 m 2 ls []) := by
  have K0 := K
  obtain ⟨hx, hb, hml, hown, hts, hK, hN, hA⟩ := K
  intro k
  induction k with
  | zero =>
    intro ym_rust l2 h
    rw [ulX5_loseRust_2] at h
    cases h
  | succ k ih =>
    intro ym_rust l2 h H locs ls hl hP hD hS
    rw [ulX5_loseRust_2] at h
    refine lv_iload_n hx hb dX5_loseRust_2 rfl (lv_at hl 2 rfl) ?_
    refine lv_aload_n hx hb dX5_loseRust_3 rfl (lv_at hl 0 rfl) ?_
    refine va_get (ci := 7) (v := .int ym_number) (C := RX5) (T := TX5) (N := 7) hx hb hts uiX5_loseRust_X5 hown hK hP 0 rfl rfl 0 (by decide) (hts _ uvX5_loseRust_1) (fun _ h9 => h9) rfl dX5_loseRust_4 ?_
    refine lv_icmp_ge (tgt := 46) hx hb dX5_loseRust_7 (by decide) (fun c7 => ?_) (fun c7 => ?_)
    · have h := ub_if_t c7 h
      cases h
      exact hret H locs _ ls dX5_loseRust_46 hP hD hS
    · have h := ub_if_f c7 h
      refine lv_iload_n hx hb dX5_loseRust_10 rfl (lv_at hl 1 rfl) ?_
      refine lv_iload_n hx hb dX5_loseRust_11 rfl (lv_at hl 2 rfl) ?_
      obtain ⟨x_1, hc12, h⟩ := ub_b1_some h
      have hPc : va_P D vwCl (udX8_isIn cI) H := ub_pickP hP [] rfl
      have hDc : va_D A (udX8_isIn cI) := hD.sub [] (by decide) rfl
      refine ub_calli (ws' := (udX5_loseRust cI h0 h1 z0 z1 z2 z3 z4 ym_number ym_rust)) (va_runSN (As := [.int l1, .int l2]) (rest := []) ⟨hx, hb, hml, hown, hts⟩ (ucX8_isIn l D cI cT hc12) ⟨va_cnB 2 hts gX5_loseRust_X8_isIn_n52 rfl rfl rfl (hN.at 30 rfl) (hts _ uvX5_loseRust_8) uhX8_isIn ⟨Nat.le_of_ble_eq_true rfl, Nat.le_of_ble_eq_true rfl⟩, (hts _ uvX5_loseRust_7), trivial⟩ (ub_preS hPc hDc hK hN) rfl rfl hl.1 rfl (lv_room (Nat.le_of_ble_eq_true rfl)) dX5_loseRust_12 ⟨Nat.le_of_ble_eq_true rfl, Nat.le_of_ble_eq_true rfl⟩) hP hD hS hA [] rfl (by decide) rfl rfl (fun H locs hP hD hS => ?_)
      refine lv_if_ne (tgt := 40) hx hb dX5_loseRust_15 (by decide) (fun c15 => ?_) (fun c15 => ?_)
      · have h := ub_if_f c15 h
        refine lv_iinc (v := l2 + 1) (lv' := [(2, .int (l2 + 1)), (0, .ref h0), (1, .int l1)]) hx hb dX5_loseRust_40 hl (k := 2) rfl rfl (by decide) rfl (fun ls hl => ?_)
        refine lv_goto (tgt := 2) hx hb dX5_loseRust_43 (by decide) ?_
        exact ih ym_rust (l2 + 1) h H locs ls (lv_sub hl [1, 2, 0] rfl) hP hD hS
      · have h := ub_if_t c15 h
        refine lv_aload_n hx hb dX5_loseRust_18 rfl (lv_at hl 0 rfl) ?_
        refine va_get (ci := 7) (v := .ref h1) (C := RX5) (T := TX5) (N := 7) hx hb hts uiX5_loseRust_X5 hown hK hP 0 rfl rfl 3 (by decide) (hts _ uvX5_loseRust_2) (fun _ h9 => h9) rfl dX5_loseRust_19 ?_
        refine lv_iload_n hx hb dX5_loseRust_22 rfl (lv_at hl 2 rfl) ?_
        refine lv_aload_n hx hb dX5_loseRust_23 rfl (lv_at hl 0 rfl) ?_
        refine va_get (ci := 7) (v := .ref h1) (C := RX5) (T := TX5) (N := 7) hx hb hts uiX5_loseRust_X5 hown hK hP 0 rfl rfl 3 (by decide) (hts _ uvX5_loseRust_2) (fun _ h9 => h9) rfl dX5_loseRust_24 ?_
        refine lv_iload_n hx hb dX5_loseRust_27 rfl (lv_at hl 2 rfl) ?_
        obtain ⟨x_2, hc28, h⟩ := ub_b1_some h
        have hPc : va_P D vwCl (udX8_at cI 12 h1 ym_rust) H := ub_pickP hP [1] rfl
        have hDc : va_D A (udX8_at cI 12 h1 ym_rust) := hD.sub [1] (by decide) rfl
        refine ub_calli (ws' := (udX5_loseRust cI h0 h1 z0 z1 z2 z3 z4 ym_number ym_rust)) (va_runSN (As := [.ref h1, .int l2]) (rest := [.int l2, .ref h1]) ⟨hx, hb, hml, hown, hts⟩ (ucX8_at l D cI cT hc28) ⟨va_cnB 2 hts gX5_loseRust_X8_at_n42 rfl rfl rfl (hN.at 19 rfl) (hts _ uvX5_loseRust_8) uhX8_at ⟨Nat.le_of_ble_eq_true rfl, Nat.le_of_ble_eq_true rfl⟩, (hts _ uvX5_loseRust_10), trivial⟩ (ub_preS hPc hDc hK hN) rfl rfl hl.1 rfl (lv_room (Nat.le_of_ble_eq_true rfl)) dX5_loseRust_28 ⟨Nat.le_of_ble_eq_true rfl, Nat.le_of_ble_eq_true rfl⟩) hP hD hS hA [1] rfl (by decide) rfl rfl (fun H locs hP hD hS => ?_)
        refine lv_iconst (v := 1) hx hb dX5_loseRust_31 (by decide) ?_
        refine lv_isub hx hb dX5_loseRust_32 ?_
        refine lv_iconst (v := 0) hx hb dX5_loseRust_33 (by decide) ?_
        refine va_mmax hx hb (hml.trans hl.1.symm) hown (hts _ uvX5_loseRust_3) (hts _ uvX5_loseRust_4) (hts _ uvX5_loseRust_5) (hts _ uvX5_loseRust_6) (Nat.le_of_ble_eq_true rfl) (Nat.le_of_ble_eq_true rfl) (Nat.le_of_ble_eq_true rfl) (Nat.le_of_ble_eq_true rfl) dX5_loseRust_34 ?_
        obtain ⟨x_3, ex_3, h⟩ := ub_nm_some h
        refine ub_topi ex_3 ?_
        obtain ⟨ym_rust_4, hc37, h⟩ := ub_b1_some h
        have hPc : va_P D vwCl (udX8_put cI 12 h1 ym_rust) H := ub_pickP hP [1] rfl
        have hDc : va_D A (udX8_put cI 12 h1 ym_rust) := hD.sub [1] (by decide) rfl
        refine ub_callv (ws' := (udX5_loseRust cI h0 h1 z0 z1 z2 z3 z4 ym_number ym_rust_4)) (va_runSN (As := [.ref h1, .int l2, .int x_3]) (rest := []) ⟨hx, hb, hml, hown, hts⟩ (ucX8_put l D cI cT hc37) ⟨va_cnB 3 hts gX5_loseRust_X8_put_n38 rfl rfl rfl (hN.at 13 rfl) (hts _ uvX5_loseRust_8) uhX8_put ⟨Nat.le_of_ble_eq_true rfl, Nat.le_of_ble_eq_true rfl⟩, (hts _ uvX5_loseRust_12), trivial⟩ (ub_preS hPc hDc hK hN) rfl rfl hl.1 rfl (lv_room (Nat.le_of_ble_eq_true rfl)) dX5_loseRust_37 ⟨Nat.le_of_ble_eq_true rfl, Nat.le_of_ble_eq_true rfl⟩) hP hD hS hA [1] rfl (by decide) rfl rfl (fun H locs hP hD hS => ?_)
        refine lv_iinc (v := l2 + 1) (lv' := [(2, .int (l2 + 1)), (0, .ref h0), (1, .int l1)]) hx hb dX5_loseRust_40 hl (k := 2) rfl rfl (by decide) rfl (fun ls hl => ?_)
        refine lv_goto (tgt := 2) hx hb dX5_loseRust_43 (by decide) ?_
        exact ih ym_rust_4 (l2 + 1) h H locs ls (lv_sub hl [1, 2, 0] rfl) hP hD hS
set_option maxHeartbeats 4000000 in
set_option maxRecDepth 100000 in
theorem uwX5_loseRust_E {p : Program} {l : Launch} {e : Env} {s : State} {m : MethodId} {args : Array Value} {below : List Frame} {meth : Method} {c : Code} {Q : State → Prop} {D : va_G} {cI cT : ClassId} {A : Nat → Prop} (K : ub_kx p s m args meth c cX5_loseRust 3 RX5 wsX5_loseRust D cI cT A) {h0 h1 : Nat} {z0 : Nat} {z1 : Nat} {z2 : Nat} {z3 : Nat} {z4 : Nat} {ym_number : Int32} {ym_rust : (Nat → Int32)} {l1 : Int32} {w_ym_rust : (Nat → Int32)} (hret : ∀ (H : Heap) (locs : List Loc) (pc : Nat) (ls : Array Slot), decode cX5_loseRust pc = .ok (.return_, 1) → va_P D vwCl (udX5_loseRust cI h0 h1 z0 z1 z2 z3 z4 ym_number w_ym_rust) H → va_D A (udX5_loseRust cI h0 h1 z0 z1 z2 z3 z4 ym_number w_ym_rust) → va_S A s.heap H locs → W p l e ({ frames := 1, cells := 0, slots := 0, locals := 22 } : Room) s m args below meth c H locs 0 0 Q (F0 m pc ls [])) (h : ufX5_loseRust ym_number ym_rust l1 = some w_ym_rust) {H : Heap} {locs : List Loc} {ls : Array Slot} (hl : lv_has ls 3 [(0, .ref h0), (1, .int l1)]) (hP : va_P D vwCl (udX5_loseRust cI h0 h1 z0 z1 z2 z3 z4 ym_number ym_rust) H) (hD : va_D A (udX5_loseRust cI h0 h1 z0 z1 z2 z3 z4 ym_number ym_rust)) (hS : va_S A s.heap H locs) : W p l e ({ frames := 1, cells := 0, slots := 0, locals := 22 } : Room) s m args below meth c H locs 0 0 Q (F0 m 0 ls []) := by
  have K0 := K
  obtain ⟨hx, hb, hml, hown, hts, hK, hN, hA⟩ := K
  unfold ufX5_loseRust at h
  refine lv_iconst (v := 0) hx hb dX5_loseRust_0 (by decide) ?_
  refine lv_istore_n (lv' := [(2, .int 0), (0, .ref h0), (1, .int l1)]) hx hb dX5_loseRust_1 rfl hl (by decide) rfl (fun ls hl => ?_)
  exact uwX5_loseRust_2 K0 hret ub_F ym_rust 0 h H locs ls (lv_sub hl [1, 2, 0] rfl) hP hD hS
set_option maxHeartbeats 4000000 in
set_option maxRecDepth 100000 in
theorem ucX5_loseRust (l : Launch) (D : va_G) (cI cT : ClassId) {h0 h1 : Nat} {z0 : Nat} {z1 : Nat} {z2 : Nat} {z3 : Nat} {z4 : Nat} {l1 : Int32} {w_ym_rust : (Nat → Int32)} {ym_number : Int32} {ym_rust : (Nat → Int32)} {sz : Nat} (h : ufX5_loseRust ym_number ym_rust l1 = some w_ym_rust) : Met l yX5_loseRust wsX5_loseRust ({ frames := 1, cells := 0, slots := 0, locals := 22 } : Room) (va_Pc [.ref h0, .int l1] (ub_pc D cI cT (udX5_loseRust cI h0 h1 z0 z1 z2 z3 z4 ym_number ym_rust) sz)) (va_Qv (fun (_ : Unit) => True) (fun _ t => ub_pq D (udX5_loseRust cI h0 h1 z0 z1 z2 z3 z4 ym_number w_ym_rust) (va_A (udX5_loseRust cI h0 h1 z0 z1 z2 z3 z4 ym_number ym_rust) sz) t) (va_A (udX5_loseRust cI h0 h1 z0 z1 z2 z3 z4 ym_number ym_rust) sz)) 0 0 (va_A (udX5_loseRust cI h0 h1 z0 z1 z2 z3 z4 ym_number ym_rust) sz) :=
  ub_met_v (by decide +kernel) rfl (Nat.le_of_ble_eq_true rfl) fun _ _ _ _ _ _ _ _ _ _ K hret _ hl hP hD hS => uwX5_loseRust_E K hret h hl hP hD hS
-- X5_setOfAll
def udX5_setOfAll (cI : ClassId) (h0 : Nat) (z0 : Nat) (z1 : Nat) (z2 : Nat) (z3 : Nat) (z4 : Nat) (z5 : Nat) (ym_number : Int32) : va_W := [(h0, .inr (7, [.int ym_number, .ref z0, .ref z1, .ref z2, .ref z3, .ref z4, .ref z5]))]
def ufX5_setOfAll (ym_number : Int32) : Option (Int32) :=
  ub_b1 (ufX8_bit ym_number) fun x_1 =>
  some (x_1 - 1)
theorem uvX5_setOfAll_1 : Cond.fieldLink RX5 30 "UnheardBells$Ropes" "number" "I" ∈ wsX5_setOfAll := List.mem_cons_of_mem _ us_m81
theorem uvX5_setOfAll_3 : Cond.initialized RX8 ∈ wsX5_setOfAll := List.mem_cons_of_mem _ us_m40
theorem uvX5_setOfAll_2 : Cond.static yX8_bit ∈ wsX5_setOfAll := List.mem_cons_of_mem _ us_m491
theorem uiX5_setOfAll_X5 : ∀ w ∈ u_ws RX5 TX5 7, w ∈ wsX5_setOfAll := fun w h => List.mem_cons_of_mem _ (us_inX5 w h)
theorem uhX5_setOfAll : yX5_setOfAll.cls ≠ "java/lang/invoke/MethodHandle" ∧ yX5_setOfAll.cls ≠ "java/lang/invoke/VarHandle" ∧ (parseMethodDescriptor yX5_setOfAll.desc).map (fun d => d.parameters.length) = some 0 := by decide +kernel
set_option maxHeartbeats 4000000 in
set_option maxRecDepth 100000 in
theorem uwX5_setOfAll_E {p : Program} {l : Launch} {e : Env} {s : State} {m : MethodId} {args : Array Value} {below : List Frame} {meth : Method} {c : Code} {Q : State → Prop} {D : va_G} {cI cT : ClassId} {A : Nat → Prop} (K : ub_kx p s m args meth c cX5_setOfAll 1 RX5 wsX5_setOfAll D cI cT A) {h0 : Nat} {z0 : Nat} {z1 : Nat} {z2 : Nat} {z3 : Nat} {z4 : Nat} {z5 : Nat} {ym_number : Int32} {rr : Int32} (hret : ∀ (H : Heap) (locs : List Loc) (pc : Nat) (ls : Array Slot), decode cX5_setOfAll pc = .ok (.ireturn, 1) → narrow .int (.int rr) = .int rr → va_P D vwCl (udX5_setOfAll cI h0 z0 z1 z2 z3 z4 z5 ym_number) H → va_D A (udX5_setOfAll cI h0 z0 z1 z2 z3 z4 z5 ym_number) → va_S A s.heap H locs → W p l e ({ frames := 1, cells := 0, slots := 0, locals := 20 } : Room) s m args below meth c H locs 0 0 Q (F0 m pc ls [.int rr])) (h : ufX5_setOfAll ym_number = some rr) {H : Heap} {locs : List Loc} {ls : Array Slot} (hl : lv_has ls 1 [(0, .ref h0)]) (hP : va_P D vwCl (udX5_setOfAll cI h0 z0 z1 z2 z3 z4 z5 ym_number) H) (hD : va_D A (udX5_setOfAll cI h0 z0 z1 z2 z3 z4 z5 ym_number)) (hS : va_S A s.heap H locs) : W p l e ({ frames := 1, cells := 0, slots := 0, locals := 20 } : Room) s m args below meth c H locs 0 0 Q (F0 m 0 ls []) := by
  have K0 := K
  obtain ⟨hx, hb, hml, hown, hts, hK, hN, hA⟩ := K
  unfold ufX5_setOfAll at h
  refine lv_aload_n hx hb dX5_setOfAll_0 rfl (lv_at hl 0 rfl) ?_
  refine va_get (ci := 7) (v := .int ym_number) (C := RX5) (T := TX5) (N := 7) hx hb hts uiX5_setOfAll_X5 hown hK hP 0 rfl rfl 0 (by decide) (hts _ uvX5_setOfAll_1) (fun _ h9 => h9) rfl dX5_setOfAll_1 ?_
  obtain ⟨x_1, hc4, h⟩ := ub_b1_some h
  have hPc : va_P D vwCl (udX8_bit cI) H := ub_pickP hP [] rfl
  have hDc : va_D A (udX8_bit cI) := hD.sub [] (by decide) rfl
  refine ub_calli (ws' := (udX5_setOfAll cI h0 z0 z1 z2 z3 z4 z5 ym_number)) (va_runSN (As := [.int ym_number]) (rest := []) ⟨hx, hb, hml, hown, hts⟩ (ucX8_bit l D cI cT hc4) ⟨va_cnB 1 hts gX5_setOfAll_X8_bit_n59 rfl rfl rfl (hN.at 23 rfl) (hts _ uvX5_setOfAll_3) uhX8_bit ⟨Nat.le_of_ble_eq_true rfl, Nat.le_of_ble_eq_true rfl⟩, (hts _ uvX5_setOfAll_2), trivial⟩ (ub_preS hPc hDc hK hN) rfl rfl hl.1 rfl (lv_room (Nat.le_of_ble_eq_true rfl)) dX5_setOfAll_4 ⟨Nat.le_of_ble_eq_true rfl, Nat.le_of_ble_eq_true rfl⟩) hP hD hS hA [] rfl (by decide) rfl rfl (fun H locs hP hD hS => ?_)
  refine lv_iconst (v := 1) hx hb dX5_setOfAll_7 (by decide) ?_
  refine lv_isub hx hb dX5_setOfAll_8 ?_
  cases h
  exact hret H locs _ ls dX5_setOfAll_9 rfl hP hD hS
set_option maxHeartbeats 4000000 in
set_option maxRecDepth 100000 in
theorem ucX5_setOfAll (l : Launch) (D : va_G) (cI cT : ClassId) {h0 : Nat} {z0 : Nat} {z1 : Nat} {z2 : Nat} {z3 : Nat} {z4 : Nat} {z5 : Nat} {rr : Int32} {ym_number : Int32} {sz : Nat} (h : ufX5_setOfAll ym_number = some rr) : Met l yX5_setOfAll wsX5_setOfAll ({ frames := 1, cells := 0, slots := 0, locals := 20 } : Room) (va_Pc [.ref h0] (ub_pc D cI cT (udX5_setOfAll cI h0 z0 z1 z2 z3 z4 z5 ym_number) sz)) (va_Qi (fun (r' : Int32) (_ : Unit) => r' = rr) (fun _ t => ub_pq D (udX5_setOfAll cI h0 z0 z1 z2 z3 z4 z5 ym_number) (va_A (udX5_setOfAll cI h0 z0 z1 z2 z3 z4 z5 ym_number) sz) t) (va_A (udX5_setOfAll cI h0 z0 z1 z2 z3 z4 z5 ym_number) sz)) 0 0 (va_A (udX5_setOfAll cI h0 z0 z1 z2 z3 z4 z5 ym_number) sz) :=
  ub_met_i (by decide +kernel) rfl (Nat.le_of_ble_eq_true rfl) fun _ _ _ _ _ _ _ _ _ _ K hret _ hl hP hD hS => uwX5_setOfAll_E K hret h hl hP hD hS
-- X5_setOf
def udX5_setOf (cI : ClassId) (h0 : Nat) (h1 : Nat) (z0 : Nat) (z1 : Nat) (z2 : Nat) (z3 : Nat) (z4 : Nat) (ym_number : Int32) (ym_parish : Nat → Int32) : va_W := [(h0, .inr (7, [.int ym_number, .ref h1, .ref z0, .ref z1, .ref z2, .ref z3, .ref z4])), (h1, .inl (cI, 12, .inl ym_parish))]
def ulX5_setOf_4 (ym_number : Int32) (ym_parish : Nat → Int32) (l1 : Int32) : Nat → Int32 → Int32 → Option (Int32)
  | 0, _, _ => none
  | k + 1, l2, l3 =>
    if ym_number ≤ l3 then
      some (l2)
    else
      ub_b1 (ufX8_at 12 ym_parish l3) fun x_1 =>
      if x_1 = l1 then
        ub_b1 (ufX8_bit l3) fun x_2 =>
        ulX5_setOf_4 ym_number ym_parish l1 k (l2 ||| x_2) (l3 + 1)
      else
        ulX5_setOf_4 ym_number ym_parish l1 k l2 (l3 + 1)
def ufX5_setOf (ym_number : Int32) (ym_parish : Nat → Int32) (l1 : Int32) : Option (Int32) :=
  ulX5_setOf_4 ym_number ym_parish l1 ub_F 0 0
theorem uvX5_setOf_1 : Cond.fieldLink RX5 30 "UnheardBells$Ropes" "number" "I" ∈ wsX5_setOf := List.mem_cons_of_mem _ us_m81
theorem uvX5_setOf_2 : Cond.fieldLink RX5 9 "UnheardBells$Ropes" "parish" "[I" ∈ wsX5_setOf := List.mem_cons_of_mem _ us_m83
theorem uvX5_setOf_4 : Cond.initialized RX8 ∈ wsX5_setOf := List.mem_cons_of_mem _ us_m40
theorem uvX5_setOf_3 : Cond.static yX8_at ∈ wsX5_setOf := List.mem_cons_of_mem _ us_m404
theorem uvX5_setOf_6 : Cond.static yX8_bit ∈ wsX5_setOf := List.mem_cons_of_mem _ us_m491
theorem uiX5_setOf_X5 : ∀ w ∈ u_ws RX5 TX5 7, w ∈ wsX5_setOf := fun w h => List.mem_cons_of_mem _ (us_inX5 w h)
theorem uhX5_setOf : yX5_setOf.cls ≠ "java/lang/invoke/MethodHandle" ∧ yX5_setOf.cls ≠ "java/lang/invoke/VarHandle" ∧ (parseMethodDescriptor yX5_setOf.desc).map (fun d => d.parameters.length) = some 1 := by decide +kernel
set_option maxHeartbeats 4000000 in
set_option maxRecDepth 100000 in
theorem uwX5_setOf_4 {p : Program} {l : Launch} {e : Env} {s : State} {m : MethodId} {args : Array Value} {below : List Frame} {meth : Method} {c : Code} {Q : State → Prop} {D : va_G} {cI cT : ClassId} {A : Nat → Prop} (K : ub_kx p s m args meth c cX5_setOf 4 RX5 wsX5_setOf D cI cT A) {h0 h1 : Nat} {z0 : Nat} {z1 : Nat} {z2 : Nat} {z3 : Nat} {z4 : Nat} {ym_number : Int32} {ym_parish : (Nat → Int32)} {l1 : Int32} {rr : Int32} (hret : ∀ (H : Heap) (locs : List Loc) (pc : Nat) (ls : Array Slot), decode cX5_setOf pc = .ok (.ireturn, 1) → narrow .int (.int rr) = .int rr → va_P D vwCl (udX5_setOf cI h0 h1 z0 z1 z2 z3 z4 ym_number ym_parish) H → va_D A (udX5_setOf cI h0 h1 z0 z1 z2 z3 z4 ym_number ym_parish) → va_S A s.heap H locs → W p l e ({ frames := 1, cells := 0, slots := 0, locals := 21 } : Room) s m args below meth c H locs 0 0 Q (F0 m pc ls [.int rr])) : ∀ (k : Nat) (l2 : Int32) (l3 : Int32), ulX5_setOf_4 ym_number ym_parish l1 k l2 l3 = some rr → ∀ (H : Heap) (locs : List Loc) (ls : Array Slot), lv_has ls 4 [(0, .ref h0), (1, .int l1), (2, .int l2), (3, .int l3)] → va_P D vwCl (udX5_setOf cI h0 h1 z0 z1 z2 z3 z4 ym_number ym_parish) H → va_D A (udX5_setOf cI h0 h1 z0 z1 z2 z3 z4 ym_number ym_parish) → va_S A s.heap H locs → W p l e ({ frames := 1, cells := 0, slots := 0, locals := 21 } : Room) s m args below meth c H locs 0 0 Q (F0 m 4 ls []) := by
  have K0 := K
  obtain ⟨hx, hb, hml, hown, hts, hK, hN, hA⟩ := K
  intro k
  induction k with
  | zero =>
    intro l2 l3 h
    rw [ulX5_setOf_4] at h
    cases h
  | succ k ih =>
    intro l2 l3 h H locs ls hl hP hD hS
    rw [ulX5_setOf_4] at h
    refine lv_iload_n hx hb dX5_setOf_4 rfl (lv_at hl 3 rfl) ?_
    refine lv_aload_n hx hb dX5_setOf_5 rfl (lv_at hl 0 rfl) ?_
    refine va_get (ci := 7) (v := .int ym_number) (C := RX5) (T := TX5) (N := 7) hx hb hts uiX5_setOf_X5 hown hK hP 0 rfl rfl 0 (by decide) (hts _ uvX5_setOf_1) (fun _ h9 => h9) rfl dX5_setOf_6 ?_
    refine lv_icmp_ge (tgt := 37) hx hb dX5_setOf_9 (by decide) (fun c9 => ?_) (fun c9 => ?_)
    · have h := ub_if_t c9 h
      refine lv_iload_n hx hb dX5_setOf_37 rfl (lv_at hl 2 rfl) ?_
      cases h
      exact hret H locs _ ls dX5_setOf_38 rfl hP hD hS
    · have h := ub_if_f c9 h
      refine lv_aload_n hx hb dX5_setOf_12 rfl (lv_at hl 0 rfl) ?_
      refine va_get (ci := 7) (v := .ref h1) (C := RX5) (T := TX5) (N := 7) hx hb hts uiX5_setOf_X5 hown hK hP 0 rfl rfl 1 (by decide) (hts _ uvX5_setOf_2) (fun _ h9 => h9) rfl dX5_setOf_13 ?_
      refine lv_iload_n hx hb dX5_setOf_16 rfl (lv_at hl 3 rfl) ?_
      obtain ⟨x_1, hc17, h⟩ := ub_b1_some h
      have hPc : va_P D vwCl (udX8_at cI 12 h1 ym_parish) H := ub_pickP hP [1] rfl
      have hDc : va_D A (udX8_at cI 12 h1 ym_parish) := hD.sub [1] (by decide) rfl
      refine ub_calli (ws' := (udX5_setOf cI h0 h1 z0 z1 z2 z3 z4 ym_number ym_parish)) (va_runSN (As := [.ref h1, .int l3]) (rest := []) ⟨hx, hb, hml, hown, hts⟩ (ucX8_at l D cI cT hc17) ⟨va_cnB 2 hts gX5_setOf_X8_at_n42 rfl rfl rfl (hN.at 19 rfl) (hts _ uvX5_setOf_4) uhX8_at ⟨Nat.le_of_ble_eq_true rfl, Nat.le_of_ble_eq_true rfl⟩, (hts _ uvX5_setOf_3), trivial⟩ (ub_preS hPc hDc hK hN) rfl rfl hl.1 rfl (lv_room (Nat.le_of_ble_eq_true rfl)) dX5_setOf_17 ⟨Nat.le_of_ble_eq_true rfl, Nat.le_of_ble_eq_true rfl⟩) hP hD hS hA [1] rfl (by decide) rfl rfl (fun H locs hP hD hS => ?_)
      refine lv_iload_n hx hb dX5_setOf_20 rfl (lv_at hl 1 rfl) ?_
      refine lv_icmp_ne (tgt := 31) hx hb dX5_setOf_21 (by decide) (fun c21 => ?_) (fun c21 => ?_)
      · have h := ub_if_f c21 h
        refine lv_iinc (v := l3 + 1) (lv' := [(3, .int (l3 + 1)), (0, .ref h0), (1, .int l1), (2, .int l2)]) hx hb dX5_setOf_31 hl (k := 3) rfl rfl (by decide) rfl (fun ls hl => ?_)
        refine lv_goto (tgt := 4) hx hb dX5_setOf_34 (by decide) ?_
        exact ih l2 (l3 + 1) h H locs ls (lv_sub hl [1, 2, 3, 0] rfl) hP hD hS
      · have h := ub_if_t c21 h
        refine lv_iload_n hx hb dX5_setOf_24 rfl (lv_at hl 2 rfl) ?_
        refine lv_iload_n hx hb dX5_setOf_25 rfl (lv_at hl 3 rfl) ?_
        obtain ⟨x_2, hc26, h⟩ := ub_b1_some h
        have hPc : va_P D vwCl (udX8_bit cI) H := ub_pickP hP [] rfl
        have hDc : va_D A (udX8_bit cI) := hD.sub [] (by decide) rfl
        refine ub_calli (ws' := (udX5_setOf cI h0 h1 z0 z1 z2 z3 z4 ym_number ym_parish)) (va_runSN (As := [.int l3]) (rest := [.int l2]) ⟨hx, hb, hml, hown, hts⟩ (ucX8_bit l D cI cT hc26) ⟨va_cnB 1 hts gX5_setOf_X8_bit_n59 rfl rfl rfl (hN.at 23 rfl) (hts _ uvX5_setOf_4) uhX8_bit ⟨Nat.le_of_ble_eq_true rfl, Nat.le_of_ble_eq_true rfl⟩, (hts _ uvX5_setOf_6), trivial⟩ (ub_preS hPc hDc hK hN) rfl rfl hl.1 rfl (lv_room (Nat.le_of_ble_eq_true rfl)) dX5_setOf_26 ⟨Nat.le_of_ble_eq_true rfl, Nat.le_of_ble_eq_true rfl⟩) hP hD hS hA [] rfl (by decide) rfl rfl (fun H locs hP hD hS => ?_)
        refine lv_ior hx hb dX5_setOf_29 ?_
        refine lv_istore_n (lv' := [(2, .int (l2 ||| x_2)), (0, .ref h0), (1, .int l1), (3, .int l3)]) hx hb dX5_setOf_30 rfl hl (by decide) rfl (fun ls hl => ?_)
        refine lv_iinc (v := l3 + 1) (lv' := [(3, .int (l3 + 1)), (2, .int (l2 ||| x_2)), (0, .ref h0), (1, .int l1)]) hx hb dX5_setOf_31 hl (k := 3) rfl rfl (by decide) rfl (fun ls hl => ?_)
        refine lv_goto (tgt := 4) hx hb dX5_setOf_34 (by decide) ?_
        exact ih (l2 ||| x_2) (l3 + 1) h H locs ls (lv_sub hl [2, 3, 1, 0] rfl) hP hD hS
set_option maxHeartbeats 4000000 in
set_option maxRecDepth 100000 in
theorem uwX5_setOf_E {p : Program} {l : Launch} {e : Env} {s : State} {m : MethodId} {args : Array Value} {below : List Frame} {meth : Method} {c : Code} {Q : State → Prop} {D : va_G} {cI cT : ClassId} {A : Nat → Prop} (K : ub_kx p s m args meth c cX5_setOf 4 RX5 wsX5_setOf D cI cT A) {h0 h1 : Nat} {z0 : Nat} {z1 : Nat} {z2 : Nat} {z3 : Nat} {z4 : Nat} {ym_number : Int32} {ym_parish : (Nat → Int32)} {l1 : Int32} {rr : Int32} (hret : ∀ (H : Heap) (locs : List Loc) (pc : Nat) (ls : Array Slot), decode cX5_setOf pc = .ok (.ireturn, 1) → narrow .int (.int rr) = .int rr → va_P D vwCl (udX5_setOf cI h0 h1 z0 z1 z2 z3 z4 ym_number ym_parish) H → va_D A (udX5_setOf cI h0 h1 z0 z1 z2 z3 z4 ym_number ym_parish) → va_S A s.heap H locs → W p l e ({ frames := 1, cells := 0, slots := 0, locals := 21 } : Room) s m args below meth c H locs 0 0 Q (F0 m pc ls [.int rr])) (h : ufX5_setOf ym_number ym_parish l1 = some rr) {H : Heap} {locs : List Loc} {ls : Array Slot} (hl : lv_has ls 4 [(0, .ref h0), (1, .int l1)]) (hP : va_P D vwCl (udX5_setOf cI h0 h1 z0 z1 z2 z3 z4 ym_number ym_parish) H) (hD : va_D A (udX5_setOf cI h0 h1 z0 z1 z2 z3 z4 ym_number ym_parish)) (hS : va_S A s.heap H locs) : W p l e ({ frames := 1, cells := 0, slots := 0, locals := 21 } : Room) s m args below meth c H locs 0 0 Q (F0 m 0 ls []) := by
  have K0 := K
  obtain ⟨hx, hb, hml, hown, hts, hK, hN, hA⟩ := K
  unfold ufX5_setOf at h
  refine lv_iconst (v := 0) hx hb dX5_setOf_0 (by decide) ?_
  refine lv_istore_n (lv' := [(2, .int 0), (0, .ref h0), (1, .int l1)]) hx hb dX5_setOf_1 rfl hl (by decide) rfl (fun ls hl => ?_)
  refine lv_iconst (v := 0) hx hb dX5_setOf_2 (by decide) ?_
  refine lv_istore_n (lv' := [(3, .int 0), (2, .int 0), (0, .ref h0), (1, .int l1)]) hx hb dX5_setOf_3 rfl hl (by decide) rfl (fun ls hl => ?_)
  exact uwX5_setOf_4 K0 hret ub_F 0 0 h H locs ls (lv_sub hl [2, 3, 1, 0] rfl) hP hD hS
set_option maxHeartbeats 4000000 in
set_option maxRecDepth 100000 in
theorem ucX5_setOf (l : Launch) (D : va_G) (cI cT : ClassId) {h0 h1 : Nat} {z0 : Nat} {z1 : Nat} {z2 : Nat} {z3 : Nat} {z4 : Nat} {l1 : Int32} {rr : Int32} {ym_number : Int32} {ym_parish : (Nat → Int32)} {sz : Nat} (h : ufX5_setOf ym_number ym_parish l1 = some rr) : Met l yX5_setOf wsX5_setOf ({ frames := 1, cells := 0, slots := 0, locals := 21 } : Room) (va_Pc [.ref h0, .int l1] (ub_pc D cI cT (udX5_setOf cI h0 h1 z0 z1 z2 z3 z4 ym_number ym_parish) sz)) (va_Qi (fun (r' : Int32) (_ : Unit) => r' = rr) (fun _ t => ub_pq D (udX5_setOf cI h0 h1 z0 z1 z2 z3 z4 ym_number ym_parish) (va_A (udX5_setOf cI h0 h1 z0 z1 z2 z3 z4 ym_number ym_parish) sz) t) (va_A (udX5_setOf cI h0 h1 z0 z1 z2 z3 z4 ym_number ym_parish) sz)) 0 0 (va_A (udX5_setOf cI h0 h1 z0 z1 z2 z3 z4 ym_number ym_parish) sz) :=
  ub_met_i (by decide +kernel) rfl (Nat.le_of_ble_eq_true rfl) fun _ _ _ _ _ _ _ _ _ _ K hret _ hl hP hD hS => uwX5_setOf_E K hret h hl hP hD hS
-- X5_sumOf
def udX5_sumOf (cI : ClassId) (n_p1 : Nat) (h0 : Nat) (h1 : Nat) (h2 : Nat) (z0 : Nat) (z1 : Nat) (z2 : Nat) (z3 : Nat) (z4 : Nat) (ym_number : Int32) (ym_parish : Nat → Int32) (yo : Nat → Int32) : va_W := [(h0, .inr (7, [.int ym_number, .ref h1, .ref z0, .ref z1, .ref z2, .ref z3, .ref z4])), (h1, .inl (cI, 12, .inl ym_parish)), (h2, .inl (cI, n_p1, .inl yo))]
def ulX5_sumOf_5 (n_p1 : Nat) (ym_number : Int32) (ym_parish : Nat → Int32) (yo : Nat → Int32) (l2 : Int32) : Nat → Int32 → Int32 → Option (Int32)
  | 0, _, _ => none
  | k + 1, l3, l4 =>
    if ym_number ≤ l4 then
      some (l3)
    else
      ub_b1 (ufX8_at 12 ym_parish l4) fun x_1 =>
      if x_1 = l2 then
        ub_b1 (ufX8_at n_p1 yo l4) fun x_2 =>
        ulX5_sumOf_5 n_p1 ym_number ym_parish yo l2 k (l3 + x_2) (l4 + 1)
      else
        ulX5_sumOf_5 n_p1 ym_number ym_parish yo l2 k l3 (l4 + 1)
def ufX5_sumOf (n_p1 : Nat) (ym_number : Int32) (ym_parish : Nat → Int32) (yo : Nat → Int32) (l2 : Int32) : Option (Int32) :=
  ulX5_sumOf_5 n_p1 ym_number ym_parish yo l2 ub_F 0 0
theorem uvX5_sumOf_1 : Cond.fieldLink RX5 30 "UnheardBells$Ropes" "number" "I" ∈ wsX5_sumOf := List.mem_cons_of_mem _ us_m81
theorem uvX5_sumOf_2 : Cond.fieldLink RX5 9 "UnheardBells$Ropes" "parish" "[I" ∈ wsX5_sumOf := List.mem_cons_of_mem _ us_m83
theorem uvX5_sumOf_4 : Cond.initialized RX8 ∈ wsX5_sumOf := List.mem_cons_of_mem _ us_m40
theorem uvX5_sumOf_3 : Cond.static yX8_at ∈ wsX5_sumOf := List.mem_cons_of_mem _ us_m404
theorem uiX5_sumOf_X5 : ∀ w ∈ u_ws RX5 TX5 7, w ∈ wsX5_sumOf := fun w h => List.mem_cons_of_mem _ (us_inX5 w h)
theorem uhX5_sumOf : yX5_sumOf.cls ≠ "java/lang/invoke/MethodHandle" ∧ yX5_sumOf.cls ≠ "java/lang/invoke/VarHandle" ∧ (parseMethodDescriptor yX5_sumOf.desc).map (fun d => d.parameters.length) = some 2 := by decide +kernel
set_option maxHeartbeats 4000000 in
set_option maxRecDepth 100000 in
theorem uwX5_sumOf_5 {p : Program} {l : Launch} {e : Env} {s : State} {m : MethodId} {args : Array Value} {below : List Frame} {meth : Method} {c : Code} {Q : State → Prop} {D : va_G} {cI cT : ClassId} {A : Nat → Prop} (K : ub_kx p s m args meth c cX5_sumOf 5 RX5 wsX5_sumOf D cI cT A) {n_p1 : Nat} {h0 h1 h2 : Nat} {z0 : Nat} {z1 : Nat} {z2 : Nat} {z3 : Nat} {z4 : Nat} {ym_number : Int32} {ym_parish : (Nat → Int32)} {yo : (Nat → Int32)} {l2 : Int32} {rr : Int32} (hret : ∀ (H : Heap) (locs : List Loc) (pc : Nat) (ls : Array Slot), decode cX5_sumOf pc = .ok (.ireturn, 1) → narrow .int (.int rr) = .int rr → va_P D vwCl (udX5_sumOf cI n_p1 h0 h1 h2 z0 z1 z2 z3 z4 ym_number ym_parish yo) H → va_D A (udX5_sumOf cI n_p1 h0 h1 h2 z0 z1 z2 z3 z4 ym_number ym_parish yo) → va_S A s.heap H locs → W p l e ({ frames := 1, cells := 0, slots := 0, locals := 21 } : Room) s m args below meth c H locs 0 0 Q (F0 m pc ls [.int rr])) : ∀ (k : Nat) (l3 : Int32) (l4 : Int32), ulX5_sumOf_5 n_p1 ym_number ym_parish yo l2 k l3 l4 = some rr → ∀ (H : Heap) (locs : List Loc) (ls : Array Slot), lv_has ls 5 [(0, .ref h0), (1, .ref h2), (2, .int l2), (3, .int l3), (4, .int l4)] → va_P D vwCl (udX5_sumOf cI n_p1 h0 h1 h2 z0 z1 z2 z3 z4 ym_number ym_parish yo) H → va_D A (udX5_sumOf cI n_p1 h0 h1 h2 z0 z1 z2 z3 z4 ym_number ym_parish yo) → va_S A s.heap H locs → W p l e ({ frames := 1, cells := 0, slots := 0, locals := 21 } : Room) s m args below meth c H locs 0 0 Q (F0 m 5 ls []) := by
  have K0 := K
  obtain ⟨hx, hb, hml, hown, hts, hK, hN, hA⟩ := K
  intro k
  induction k with
  | zero =>
    intro l3 l4 h
    rw [ulX5_sumOf_5] at h
    cases h
  | succ k ih =>
    intro l3 l4 h H locs ls hl hP hD hS
    rw [ulX5_sumOf_5] at h
    refine lv_iload hx hb dX5_sumOf_5 (lv_at hl 4 rfl) ?_
    refine lv_aload_n hx hb dX5_sumOf_7 rfl (lv_at hl 0 rfl) ?_
    refine va_get (ci := 7) (v := .int ym_number) (C := RX5) (T := TX5) (N := 7) hx hb hts uiX5_sumOf_X5 hown hK hP 0 rfl rfl 0 (by decide) (hts _ uvX5_sumOf_1) (fun _ h9 => h9) rfl dX5_sumOf_8 ?_
    refine lv_icmp_ge (tgt := 42) hx hb dX5_sumOf_11 (by decide) (fun c11 => ?_) (fun c11 => ?_)
    · have h := ub_if_t c11 h
      refine lv_iload_n hx hb dX5_sumOf_42 rfl (lv_at hl 3 rfl) ?_
      cases h
      exact hret H locs _ ls dX5_sumOf_43 rfl hP hD hS
    · have h := ub_if_f c11 h
      refine lv_aload_n hx hb dX5_sumOf_14 rfl (lv_at hl 0 rfl) ?_
      refine va_get (ci := 7) (v := .ref h1) (C := RX5) (T := TX5) (N := 7) hx hb hts uiX5_sumOf_X5 hown hK hP 0 rfl rfl 1 (by decide) (hts _ uvX5_sumOf_2) (fun _ h9 => h9) rfl dX5_sumOf_15 ?_
      refine lv_iload hx hb dX5_sumOf_18 (lv_at hl 4 rfl) ?_
      obtain ⟨x_1, hc20, h⟩ := ub_b1_some h
      have hPc : va_P D vwCl (udX8_at cI 12 h1 ym_parish) H := ub_pickP hP [1] rfl
      have hDc : va_D A (udX8_at cI 12 h1 ym_parish) := hD.sub [1] (by decide) rfl
      refine ub_calli (ws' := (udX5_sumOf cI n_p1 h0 h1 h2 z0 z1 z2 z3 z4 ym_number ym_parish yo)) (va_runSN (As := [.ref h1, .int l4]) (rest := []) ⟨hx, hb, hml, hown, hts⟩ (ucX8_at l D cI cT hc20) ⟨va_cnB 2 hts gX5_sumOf_X8_at_n42 rfl rfl rfl (hN.at 19 rfl) (hts _ uvX5_sumOf_4) uhX8_at ⟨Nat.le_of_ble_eq_true rfl, Nat.le_of_ble_eq_true rfl⟩, (hts _ uvX5_sumOf_3), trivial⟩ (ub_preS hPc hDc hK hN) rfl rfl hl.1 rfl (lv_room (Nat.le_of_ble_eq_true rfl)) dX5_sumOf_20 ⟨Nat.le_of_ble_eq_true rfl, Nat.le_of_ble_eq_true rfl⟩) hP hD hS hA [1] rfl (by decide) rfl rfl (fun H locs hP hD hS => ?_)
      refine lv_iload_n hx hb dX5_sumOf_23 rfl (lv_at hl 2 rfl) ?_
      refine lv_icmp_ne (tgt := 36) hx hb dX5_sumOf_24 (by decide) (fun c24 => ?_) (fun c24 => ?_)
      · have h := ub_if_f c24 h
        refine lv_iinc (v := l4 + 1) (lv' := [(4, .int (l4 + 1)), (0, .ref h0), (1, .ref h2), (2, .int l2), (3, .int l3)]) hx hb dX5_sumOf_36 hl (k := 4) rfl rfl (by decide) rfl (fun ls hl => ?_)
        refine lv_goto (tgt := 5) hx hb dX5_sumOf_39 (by decide) ?_
        exact ih l3 (l4 + 1) h H locs ls (lv_sub hl [1, 2, 3, 4, 0] rfl) hP hD hS
      · have h := ub_if_t c24 h
        refine lv_iload_n hx hb dX5_sumOf_27 rfl (lv_at hl 3 rfl) ?_
        refine lv_aload_n hx hb dX5_sumOf_28 rfl (lv_at hl 1 rfl) ?_
        refine lv_iload hx hb dX5_sumOf_29 (lv_at hl 4 rfl) ?_
        obtain ⟨x_2, hc31, h⟩ := ub_b1_some h
        have hPc : va_P D vwCl (udX8_at cI n_p1 h2 yo) H := ub_pickP hP [2] rfl
        have hDc : va_D A (udX8_at cI n_p1 h2 yo) := hD.sub [2] (by decide) rfl
        refine ub_calli (ws' := (udX5_sumOf cI n_p1 h0 h1 h2 z0 z1 z2 z3 z4 ym_number ym_parish yo)) (va_runSN (As := [.ref h2, .int l4]) (rest := [.int l3]) ⟨hx, hb, hml, hown, hts⟩ (ucX8_at l D cI cT hc31) ⟨va_cnB 2 hts gX5_sumOf_X8_at_n42 rfl rfl rfl (hN.at 19 rfl) (hts _ uvX5_sumOf_4) uhX8_at ⟨Nat.le_of_ble_eq_true rfl, Nat.le_of_ble_eq_true rfl⟩, (hts _ uvX5_sumOf_3), trivial⟩ (ub_preS hPc hDc hK hN) rfl rfl hl.1 rfl (lv_room (Nat.le_of_ble_eq_true rfl)) dX5_sumOf_31 ⟨Nat.le_of_ble_eq_true rfl, Nat.le_of_ble_eq_true rfl⟩) hP hD hS hA [2] rfl (by decide) rfl rfl (fun H locs hP hD hS => ?_)
        refine lv_iadd hx hb dX5_sumOf_34 ?_
        refine lv_istore_n (lv' := [(3, .int (l3 + x_2)), (0, .ref h0), (1, .ref h2), (2, .int l2), (4, .int l4)]) hx hb dX5_sumOf_35 rfl hl (by decide) rfl (fun ls hl => ?_)
        refine lv_iinc (v := l4 + 1) (lv' := [(4, .int (l4 + 1)), (3, .int (l3 + x_2)), (0, .ref h0), (1, .ref h2), (2, .int l2)]) hx hb dX5_sumOf_36 hl (k := 4) rfl rfl (by decide) rfl (fun ls hl => ?_)
        refine lv_goto (tgt := 5) hx hb dX5_sumOf_39 (by decide) ?_
        exact ih (l3 + x_2) (l4 + 1) h H locs ls (lv_sub hl [2, 3, 4, 1, 0] rfl) hP hD hS
set_option maxHeartbeats 4000000 in
set_option maxRecDepth 100000 in
theorem uwX5_sumOf_E {p : Program} {l : Launch} {e : Env} {s : State} {m : MethodId} {args : Array Value} {below : List Frame} {meth : Method} {c : Code} {Q : State → Prop} {D : va_G} {cI cT : ClassId} {A : Nat → Prop} (K : ub_kx p s m args meth c cX5_sumOf 5 RX5 wsX5_sumOf D cI cT A) {n_p1 : Nat} {h0 h1 h2 : Nat} {z0 : Nat} {z1 : Nat} {z2 : Nat} {z3 : Nat} {z4 : Nat} {ym_number : Int32} {ym_parish : (Nat → Int32)} {yo : (Nat → Int32)} {l2 : Int32} {rr : Int32} (hret : ∀ (H : Heap) (locs : List Loc) (pc : Nat) (ls : Array Slot), decode cX5_sumOf pc = .ok (.ireturn, 1) → narrow .int (.int rr) = .int rr → va_P D vwCl (udX5_sumOf cI n_p1 h0 h1 h2 z0 z1 z2 z3 z4 ym_number ym_parish yo) H → va_D A (udX5_sumOf cI n_p1 h0 h1 h2 z0 z1 z2 z3 z4 ym_number ym_parish yo) → va_S A s.heap H locs → W p l e ({ frames := 1, cells := 0, slots := 0, locals := 21 } : Room) s m args below meth c H locs 0 0 Q (F0 m pc ls [.int rr])) (h : ufX5_sumOf n_p1 ym_number ym_parish yo l2 = some rr) {H : Heap} {locs : List Loc} {ls : Array Slot} (hl : lv_has ls 5 [(0, .ref h0), (1, .ref h2), (2, .int l2)]) (hP : va_P D vwCl (udX5_sumOf cI n_p1 h0 h1 h2 z0 z1 z2 z3 z4 ym_number ym_parish yo) H) (hD : va_D A (udX5_sumOf cI n_p1 h0 h1 h2 z0 z1 z2 z3 z4 ym_number ym_parish yo)) (hS : va_S A s.heap H locs) : W p l e ({ frames := 1, cells := 0, slots := 0, locals := 21 } : Room) s m args below meth c H locs 0 0 Q (F0 m 0 ls []) := by
  have K0 := K
  obtain ⟨hx, hb, hml, hown, hts, hK, hN, hA⟩ := K
  unfold ufX5_sumOf at h
  refine lv_iconst (v := 0) hx hb dX5_sumOf_0 (by decide) ?_
  refine lv_istore_n (lv' := [(3, .int 0), (0, .ref h0), (1, .ref h2), (2, .int l2)]) hx hb dX5_sumOf_1 rfl hl (by decide) rfl (fun ls hl => ?_)
  refine lv_iconst (v := 0) hx hb dX5_sumOf_2 (by decide) ?_
  refine lv_istore (lv' := [(4, .int 0), (3, .int 0), (0, .ref h0), (1, .ref h2), (2, .int l2)]) hx hb dX5_sumOf_3 hl (by decide) rfl (fun ls hl => ?_)
  exact uwX5_sumOf_5 K0 hret ub_F 0 0 h H locs ls (lv_sub hl [2, 3, 4, 1, 0] rfl) hP hD hS
set_option maxHeartbeats 4000000 in
set_option maxRecDepth 100000 in
theorem ucX5_sumOf (l : Launch) (D : va_G) (cI cT : ClassId) {n_p1 : Nat} {h0 h1 h2 : Nat} {z0 : Nat} {z1 : Nat} {z2 : Nat} {z3 : Nat} {z4 : Nat} {l2 : Int32} {rr : Int32} {ym_number : Int32} {ym_parish : (Nat → Int32)} {yo : (Nat → Int32)} {sz : Nat} (h : ufX5_sumOf n_p1 ym_number ym_parish yo l2 = some rr) : Met l yX5_sumOf wsX5_sumOf ({ frames := 1, cells := 0, slots := 0, locals := 21 } : Room) (va_Pc [.ref h0, .ref h2, .int l2] (ub_pc D cI cT (udX5_sumOf cI n_p1 h0 h1 h2 z0 z1 z2 z3 z4 ym_number ym_parish yo) sz)) (va_Qi (fun (r' : Int32) (_ : Unit) => r' = rr) (fun _ t => ub_pq D (udX5_sumOf cI n_p1 h0 h1 h2 z0 z1 z2 z3 z4 ym_number ym_parish yo) (va_A (udX5_sumOf cI n_p1 h0 h1 h2 z0 z1 z2 z3 z4 ym_number ym_parish yo) sz) t) (va_A (udX5_sumOf cI n_p1 h0 h1 h2 z0 z1 z2 z3 z4 ym_number ym_parish yo) sz)) 0 0 (va_A (udX5_sumOf cI n_p1 h0 h1 h2 z0 z1 z2 z3 z4 ym_number ym_parish yo) sz) :=
  ub_met_i (by decide +kernel) rfl (Nat.le_of_ble_eq_true rfl) fun _ _ _ _ _ _ _ _ _ _ K hret _ hl hP hD hS => uwX5_sumOf_E K hret h hl hP hD hS
-- X5_isRustier
def udX5_isRustier (cI : ClassId) (h0 : Nat) (h1 : Nat) (h2 : Nat) (z0 : Nat) (z1 : Nat) (z2 : Nat) (z3 : Nat) (ym_number : Int32) (ym_answers : Nat → Int32) (ym_rust : Nat → Int32) : va_W := [(h0, .inr (7, [.int ym_number, .ref z0, .ref z1, .ref h2, .ref h1, .ref z2, .ref z3])), (h1, .inl (cI, 12, .inl ym_answers)), (h2, .inl (cI, 12, .inl ym_rust))]
def ufX5_isRustier (ym_answers : Nat → Int32) (ym_rust : Nat → Int32) (l1 : Int32) (l2 : Int32) : Option (Int32) :=
  ub_b1 (ufX8_at 12 ym_rust l1) fun x_1 =>
  ub_b1 (ufX8_at 12 ym_rust l2) fun x_2 =>
  if x_1 = x_2 then
    ub_b1 (ufX8_at 12 ym_answers l1) fun x_3 =>
    ub_b1 (ufX8_at 12 ym_answers l2) fun x_4 =>
    if x_3 = x_4 then
      if l2 ≤ l1 then
        some (0)
      else
        some (1)
    else
      ub_b1 (ufX8_at 12 ym_answers l1) fun x_5 =>
      ub_b1 (ufX8_at 12 ym_answers l2) fun x_6 =>
      if x_6 ≤ x_5 then
        some (0)
      else
        some (1)
  else
    ub_b1 (ufX8_at 12 ym_rust l1) fun x_7 =>
    ub_b1 (ufX8_at 12 ym_rust l2) fun x_8 =>
    if x_7 ≤ x_8 then
      some (0)
    else
      some (1)
theorem uvX5_isRustier_1 : Cond.fieldLink RX5 18 "UnheardBells$Ropes" "rust" "[I" ∈ wsX5_isRustier := List.mem_cons_of_mem _ us_m88
theorem uvX5_isRustier_4 : Cond.initialized RX8 ∈ wsX5_isRustier := List.mem_cons_of_mem _ us_m40
theorem uvX5_isRustier_3 : Cond.static yX8_at ∈ wsX5_isRustier := List.mem_cons_of_mem _ us_m404
theorem uvX5_isRustier_2 : Cond.fieldLink RX5 21 "UnheardBells$Ropes" "answers" "[I" ∈ wsX5_isRustier := List.mem_cons_of_mem _ us_m91
theorem uiX5_isRustier_X5 : ∀ w ∈ u_ws RX5 TX5 7, w ∈ wsX5_isRustier := fun w h => List.mem_cons_of_mem _ (us_inX5 w h)
theorem uhX5_isRustier : yX5_isRustier.cls ≠ "java/lang/invoke/MethodHandle" ∧ yX5_isRustier.cls ≠ "java/lang/invoke/VarHandle" ∧ (parseMethodDescriptor yX5_isRustier.desc).map (fun d => d.parameters.length) = some 2 := by decide +kernel
set_option maxHeartbeats 4000000 in
set_option maxRecDepth 100000 in
theorem uwX5_isRustier_E {p : Program} {l : Launch} {e : Env} {s : State} {m : MethodId} {args : Array Value} {below : List Frame} {meth : Method} {c : Code} {Q : State → Prop} {D : va_G} {cI cT : ClassId} {A : Nat → Prop} (K : ub_kx p s m args meth c cX5_isRustier 3 RX5 wsX5_isRustier D cI cT A) {h0 h1 h2 : Nat} {z0 : Nat} {z1 : Nat} {z2 : Nat} {z3 : Nat} {ym_number : Int32} {ym_answers : (Nat → Int32)} {ym_rust : (Nat → Int32)} {l1 : Int32} {l2 : Int32} {rr : Int32} (hret : ∀ (H : Heap) (locs : List Loc) (pc : Nat) (ls : Array Slot), decode cX5_isRustier pc = .ok (.ireturn, 1) → narrow .boolean (.int rr) = .int rr → va_P D vwCl (udX5_isRustier cI h0 h1 h2 z0 z1 z2 z3 ym_number ym_answers ym_rust) H → va_D A (udX5_isRustier cI h0 h1 h2 z0 z1 z2 z3 ym_number ym_answers ym_rust) → va_S A s.heap H locs → W p l e ({ frames := 1, cells := 0, slots := 0, locals := 21 } : Room) s m args below meth c H locs 0 0 Q (F0 m pc ls [.int rr])) (h : ufX5_isRustier ym_answers ym_rust l1 l2 = some rr) {H : Heap} {locs : List Loc} {ls : Array Slot} (hl : lv_has ls 3 [(0, .ref h0), (1, .int l1), (2, .int l2)]) (hP : va_P D vwCl (udX5_isRustier cI h0 h1 h2 z0 z1 z2 z3 ym_number ym_answers ym_rust) H) (hD : va_D A (udX5_isRustier cI h0 h1 h2 z0 z1 z2 z3 ym_number ym_answers ym_rust)) (hS : va_S A s.heap H locs) : W p l e ({ frames := 1, cells := 0, slots := 0, locals := 21 } : Room) s m args below meth c H locs 0 0 Q (F0 m 0 ls []) := by
  have K0 := K
  obtain ⟨hx, hb, hml, hown, hts, hK, hN, hA⟩ := K
  unfold ufX5_isRustier at h
  refine lv_aload_n hx hb dX5_isRustier_0 rfl (lv_at hl 0 rfl) ?_
  refine va_get (ci := 7) (v := .ref h2) (C := RX5) (T := TX5) (N := 7) hx hb hts uiX5_isRustier_X5 hown hK hP 0 rfl rfl 3 (by decide) (hts _ uvX5_isRustier_1) (fun _ h9 => h9) rfl dX5_isRustier_1 ?_
  refine lv_iload_n hx hb dX5_isRustier_4 rfl (lv_at hl 1 rfl) ?_
  obtain ⟨x_1, hc5, h⟩ := ub_b1_some h
  have hPc : va_P D vwCl (udX8_at cI 12 h2 ym_rust) H := ub_pickP hP [2] rfl
  have hDc : va_D A (udX8_at cI 12 h2 ym_rust) := hD.sub [2] (by decide) rfl
  refine ub_calli (ws' := (udX5_isRustier cI h0 h1 h2 z0 z1 z2 z3 ym_number ym_answers ym_rust)) (va_runSN (As := [.ref h2, .int l1]) (rest := []) ⟨hx, hb, hml, hown, hts⟩ (ucX8_at l D cI cT hc5) ⟨va_cnB 2 hts gX5_isRustier_X8_at_n42 rfl rfl rfl (hN.at 19 rfl) (hts _ uvX5_isRustier_4) uhX8_at ⟨Nat.le_of_ble_eq_true rfl, Nat.le_of_ble_eq_true rfl⟩, (hts _ uvX5_isRustier_3), trivial⟩ (ub_preS hPc hDc hK hN) rfl rfl hl.1 rfl (lv_room (Nat.le_of_ble_eq_true rfl)) dX5_isRustier_5 ⟨Nat.le_of_ble_eq_true rfl, Nat.le_of_ble_eq_true rfl⟩) hP hD hS hA [2] rfl (by decide) rfl rfl (fun H locs hP hD hS => ?_)
  refine lv_aload_n hx hb dX5_isRustier_8 rfl (lv_at hl 0 rfl) ?_
  refine va_get (ci := 7) (v := .ref h2) (C := RX5) (T := TX5) (N := 7) hx hb hts uiX5_isRustier_X5 hown hK hP 0 rfl rfl 3 (by decide) (hts _ uvX5_isRustier_1) (fun _ h9 => h9) rfl dX5_isRustier_9 ?_
  refine lv_iload_n hx hb dX5_isRustier_12 rfl (lv_at hl 2 rfl) ?_
  obtain ⟨x_2, hc13, h⟩ := ub_b1_some h
  have hPc : va_P D vwCl (udX8_at cI 12 h2 ym_rust) H := ub_pickP hP [2] rfl
  have hDc : va_D A (udX8_at cI 12 h2 ym_rust) := hD.sub [2] (by decide) rfl
  refine ub_calli (ws' := (udX5_isRustier cI h0 h1 h2 z0 z1 z2 z3 ym_number ym_answers ym_rust)) (va_runSN (As := [.ref h2, .int l2]) (rest := [.int x_1]) ⟨hx, hb, hml, hown, hts⟩ (ucX8_at l D cI cT hc13) ⟨va_cnB 2 hts gX5_isRustier_X8_at_n42 rfl rfl rfl (hN.at 19 rfl) (hts _ uvX5_isRustier_4) uhX8_at ⟨Nat.le_of_ble_eq_true rfl, Nat.le_of_ble_eq_true rfl⟩, (hts _ uvX5_isRustier_3), trivial⟩ (ub_preS hPc hDc hK hN) rfl rfl hl.1 rfl (lv_room (Nat.le_of_ble_eq_true rfl)) dX5_isRustier_13 ⟨Nat.le_of_ble_eq_true rfl, Nat.le_of_ble_eq_true rfl⟩) hP hD hS hA [2] rfl (by decide) rfl rfl (fun H locs hP hD hS => ?_)
  refine lv_icmp_eq (tgt := 44) hx hb dX5_isRustier_16 (by decide) (fun c16 => ?_) (fun c16 => ?_)
  · have h := ub_if_t c16 h
    refine lv_aload_n hx hb dX5_isRustier_44 rfl (lv_at hl 0 rfl) ?_
    refine va_get (ci := 7) (v := .ref h1) (C := RX5) (T := TX5) (N := 7) hx hb hts uiX5_isRustier_X5 hown hK hP 0 rfl rfl 4 (by decide) (hts _ uvX5_isRustier_2) (fun _ h9 => h9) rfl dX5_isRustier_45 ?_
    refine lv_iload_n hx hb dX5_isRustier_48 rfl (lv_at hl 1 rfl) ?_
    obtain ⟨x_3, hc49, h⟩ := ub_b1_some h
    have hPc : va_P D vwCl (udX8_at cI 12 h1 ym_answers) H := ub_pickP hP [1] rfl
    have hDc : va_D A (udX8_at cI 12 h1 ym_answers) := hD.sub [1] (by decide) rfl
    refine ub_calli (ws' := (udX5_isRustier cI h0 h1 h2 z0 z1 z2 z3 ym_number ym_answers ym_rust)) (va_runSN (As := [.ref h1, .int l1]) (rest := []) ⟨hx, hb, hml, hown, hts⟩ (ucX8_at l D cI cT hc49) ⟨va_cnB 2 hts gX5_isRustier_X8_at_n42 rfl rfl rfl (hN.at 19 rfl) (hts _ uvX5_isRustier_4) uhX8_at ⟨Nat.le_of_ble_eq_true rfl, Nat.le_of_ble_eq_true rfl⟩, (hts _ uvX5_isRustier_3), trivial⟩ (ub_preS hPc hDc hK hN) rfl rfl hl.1 rfl (lv_room (Nat.le_of_ble_eq_true rfl)) dX5_isRustier_49 ⟨Nat.le_of_ble_eq_true rfl, Nat.le_of_ble_eq_true rfl⟩) hP hD hS hA [1] rfl (by decide) rfl rfl (fun H locs hP hD hS => ?_)
    refine lv_aload_n hx hb dX5_isRustier_52 rfl (lv_at hl 0 rfl) ?_
    refine va_get (ci := 7) (v := .ref h1) (C := RX5) (T := TX5) (N := 7) hx hb hts uiX5_isRustier_X5 hown hK hP 0 rfl rfl 4 (by decide) (hts _ uvX5_isRustier_2) (fun _ h9 => h9) rfl dX5_isRustier_53 ?_
    refine lv_iload_n hx hb dX5_isRustier_56 rfl (lv_at hl 2 rfl) ?_
    obtain ⟨x_4, hc57, h⟩ := ub_b1_some h
    have hPc : va_P D vwCl (udX8_at cI 12 h1 ym_answers) H := ub_pickP hP [1] rfl
    have hDc : va_D A (udX8_at cI 12 h1 ym_answers) := hD.sub [1] (by decide) rfl
    refine ub_calli (ws' := (udX5_isRustier cI h0 h1 h2 z0 z1 z2 z3 ym_number ym_answers ym_rust)) (va_runSN (As := [.ref h1, .int l2]) (rest := [.int x_3]) ⟨hx, hb, hml, hown, hts⟩ (ucX8_at l D cI cT hc57) ⟨va_cnB 2 hts gX5_isRustier_X8_at_n42 rfl rfl rfl (hN.at 19 rfl) (hts _ uvX5_isRustier_4) uhX8_at ⟨Nat.le_of_ble_eq_true rfl, Nat.le_of_ble_eq_true rfl⟩, (hts _ uvX5_isRustier_3), trivial⟩ (ub_preS hPc hDc hK hN) rfl rfl hl.1 rfl (lv_room (Nat.le_of_ble_eq_true rfl)) dX5_isRustier_57 ⟨Nat.le_of_ble_eq_true rfl, Nat.le_of_ble_eq_true rfl⟩) hP hD hS hA [1] rfl (by decide) rfl rfl (fun H locs hP hD hS => ?_)
    refine lv_icmp_eq (tgt := 88) hx hb dX5_isRustier_60 (by decide) (fun c60 => ?_) (fun c60 => ?_)
    · have h := ub_if_t c60 h
      refine lv_iload_n hx hb dX5_isRustier_88 rfl (lv_at hl 1 rfl) ?_
      refine lv_iload_n hx hb dX5_isRustier_89 rfl (lv_at hl 2 rfl) ?_
      refine lv_icmp_ge (tgt := 97) hx hb dX5_isRustier_90 (by decide) (fun c90 => ?_) (fun c90 => ?_)
      · have h := ub_if_t c90 h
        refine lv_iconst (v := 0) hx hb dX5_isRustier_97 (by decide) ?_
        cases h
        exact hret H locs _ ls dX5_isRustier_98 rfl hP hD hS
      · have h := ub_if_f c90 h
        refine lv_iconst (v := 1) hx hb dX5_isRustier_93 (by decide) ?_
        refine lv_goto (tgt := 98) hx hb dX5_isRustier_94 (by decide) ?_
        cases h
        exact hret H locs _ ls dX5_isRustier_98 rfl hP hD hS
    · have h := ub_if_f c60 h
      refine lv_aload_n hx hb dX5_isRustier_63 rfl (lv_at hl 0 rfl) ?_
      refine va_get (ci := 7) (v := .ref h1) (C := RX5) (T := TX5) (N := 7) hx hb hts uiX5_isRustier_X5 hown hK hP 0 rfl rfl 4 (by decide) (hts _ uvX5_isRustier_2) (fun _ h9 => h9) rfl dX5_isRustier_64 ?_
      refine lv_iload_n hx hb dX5_isRustier_67 rfl (lv_at hl 1 rfl) ?_
      obtain ⟨x_5, hc68, h⟩ := ub_b1_some h
      have hPc : va_P D vwCl (udX8_at cI 12 h1 ym_answers) H := ub_pickP hP [1] rfl
      have hDc : va_D A (udX8_at cI 12 h1 ym_answers) := hD.sub [1] (by decide) rfl
      refine ub_calli (ws' := (udX5_isRustier cI h0 h1 h2 z0 z1 z2 z3 ym_number ym_answers ym_rust)) (va_runSN (As := [.ref h1, .int l1]) (rest := []) ⟨hx, hb, hml, hown, hts⟩ (ucX8_at l D cI cT hc68) ⟨va_cnB 2 hts gX5_isRustier_X8_at_n42 rfl rfl rfl (hN.at 19 rfl) (hts _ uvX5_isRustier_4) uhX8_at ⟨Nat.le_of_ble_eq_true rfl, Nat.le_of_ble_eq_true rfl⟩, (hts _ uvX5_isRustier_3), trivial⟩ (ub_preS hPc hDc hK hN) rfl rfl hl.1 rfl (lv_room (Nat.le_of_ble_eq_true rfl)) dX5_isRustier_68 ⟨Nat.le_of_ble_eq_true rfl, Nat.le_of_ble_eq_true rfl⟩) hP hD hS hA [1] rfl (by decide) rfl rfl (fun H locs hP hD hS => ?_)
      refine lv_aload_n hx hb dX5_isRustier_71 rfl (lv_at hl 0 rfl) ?_
      refine va_get (ci := 7) (v := .ref h1) (C := RX5) (T := TX5) (N := 7) hx hb hts uiX5_isRustier_X5 hown hK hP 0 rfl rfl 4 (by decide) (hts _ uvX5_isRustier_2) (fun _ h9 => h9) rfl dX5_isRustier_72 ?_
      refine lv_iload_n hx hb dX5_isRustier_75 rfl (lv_at hl 2 rfl) ?_
      obtain ⟨x_6, hc76, h⟩ := ub_b1_some h
      have hPc : va_P D vwCl (udX8_at cI 12 h1 ym_answers) H := ub_pickP hP [1] rfl
      have hDc : va_D A (udX8_at cI 12 h1 ym_answers) := hD.sub [1] (by decide) rfl
      refine ub_calli (ws' := (udX5_isRustier cI h0 h1 h2 z0 z1 z2 z3 ym_number ym_answers ym_rust)) (va_runSN (As := [.ref h1, .int l2]) (rest := [.int x_5]) ⟨hx, hb, hml, hown, hts⟩ (ucX8_at l D cI cT hc76) ⟨va_cnB 2 hts gX5_isRustier_X8_at_n42 rfl rfl rfl (hN.at 19 rfl) (hts _ uvX5_isRustier_4) uhX8_at ⟨Nat.le_of_ble_eq_true rfl, Nat.le_of_ble_eq_true rfl⟩, (hts _ uvX5_isRustier_3), trivial⟩ (ub_preS hPc hDc hK hN) rfl rfl hl.1 rfl (lv_room (Nat.le_of_ble_eq_true rfl)) dX5_isRustier_76 ⟨Nat.le_of_ble_eq_true rfl, Nat.le_of_ble_eq_true rfl⟩) hP hD hS hA [1] rfl (by decide) rfl rfl (fun H locs hP hD hS => ?_)
      refine lv_icmp_ge (tgt := 86) hx hb dX5_isRustier_79 (by decide) (fun c79 => ?_) (fun c79 => ?_)
      · have h := ub_if_t c79 h
        refine lv_iconst (v := 0) hx hb dX5_isRustier_86 (by decide) ?_
        cases h
        exact hret H locs _ ls dX5_isRustier_87 rfl hP hD hS
      · have h := ub_if_f c79 h
        refine lv_iconst (v := 1) hx hb dX5_isRustier_82 (by decide) ?_
        refine lv_goto (tgt := 87) hx hb dX5_isRustier_83 (by decide) ?_
        cases h
        exact hret H locs _ ls dX5_isRustier_87 rfl hP hD hS
  · have h := ub_if_f c16 h
    refine lv_aload_n hx hb dX5_isRustier_19 rfl (lv_at hl 0 rfl) ?_
    refine va_get (ci := 7) (v := .ref h2) (C := RX5) (T := TX5) (N := 7) hx hb hts uiX5_isRustier_X5 hown hK hP 0 rfl rfl 3 (by decide) (hts _ uvX5_isRustier_1) (fun _ h9 => h9) rfl dX5_isRustier_20 ?_
    refine lv_iload_n hx hb dX5_isRustier_23 rfl (lv_at hl 1 rfl) ?_
    obtain ⟨x_7, hc24, h⟩ := ub_b1_some h
    have hPc : va_P D vwCl (udX8_at cI 12 h2 ym_rust) H := ub_pickP hP [2] rfl
    have hDc : va_D A (udX8_at cI 12 h2 ym_rust) := hD.sub [2] (by decide) rfl
    refine ub_calli (ws' := (udX5_isRustier cI h0 h1 h2 z0 z1 z2 z3 ym_number ym_answers ym_rust)) (va_runSN (As := [.ref h2, .int l1]) (rest := []) ⟨hx, hb, hml, hown, hts⟩ (ucX8_at l D cI cT hc24) ⟨va_cnB 2 hts gX5_isRustier_X8_at_n42 rfl rfl rfl (hN.at 19 rfl) (hts _ uvX5_isRustier_4) uhX8_at ⟨Nat.le_of_ble_eq_true rfl, Nat.le_of_ble_eq_true rfl⟩, (hts _ uvX5_isRustier_3), trivial⟩ (ub_preS hPc hDc hK hN) rfl rfl hl.1 rfl (lv_room (Nat.le_of_ble_eq_true rfl)) dX5_isRustier_24 ⟨Nat.le_of_ble_eq_true rfl, Nat.le_of_ble_eq_true rfl⟩) hP hD hS hA [2] rfl (by decide) rfl rfl (fun H locs hP hD hS => ?_)
    refine lv_aload_n hx hb dX5_isRustier_27 rfl (lv_at hl 0 rfl) ?_
    refine va_get (ci := 7) (v := .ref h2) (C := RX5) (T := TX5) (N := 7) hx hb hts uiX5_isRustier_X5 hown hK hP 0 rfl rfl 3 (by decide) (hts _ uvX5_isRustier_1) (fun _ h9 => h9) rfl dX5_isRustier_28 ?_
    refine lv_iload_n hx hb dX5_isRustier_31 rfl (lv_at hl 2 rfl) ?_
    obtain ⟨x_8, hc32, h⟩ := ub_b1_some h
    have hPc : va_P D vwCl (udX8_at cI 12 h2 ym_rust) H := ub_pickP hP [2] rfl
    have hDc : va_D A (udX8_at cI 12 h2 ym_rust) := hD.sub [2] (by decide) rfl
    refine ub_calli (ws' := (udX5_isRustier cI h0 h1 h2 z0 z1 z2 z3 ym_number ym_answers ym_rust)) (va_runSN (As := [.ref h2, .int l2]) (rest := [.int x_7]) ⟨hx, hb, hml, hown, hts⟩ (ucX8_at l D cI cT hc32) ⟨va_cnB 2 hts gX5_isRustier_X8_at_n42 rfl rfl rfl (hN.at 19 rfl) (hts _ uvX5_isRustier_4) uhX8_at ⟨Nat.le_of_ble_eq_true rfl, Nat.le_of_ble_eq_true rfl⟩, (hts _ uvX5_isRustier_3), trivial⟩ (ub_preS hPc hDc hK hN) rfl rfl hl.1 rfl (lv_room (Nat.le_of_ble_eq_true rfl)) dX5_isRustier_32 ⟨Nat.le_of_ble_eq_true rfl, Nat.le_of_ble_eq_true rfl⟩) hP hD hS hA [2] rfl (by decide) rfl rfl (fun H locs hP hD hS => ?_)
    refine lv_icmp_le (tgt := 42) hx hb dX5_isRustier_35 (by decide) (fun c35 => ?_) (fun c35 => ?_)
    · have h := ub_if_t c35 h
      refine lv_iconst (v := 0) hx hb dX5_isRustier_42 (by decide) ?_
      cases h
      exact hret H locs _ ls dX5_isRustier_43 rfl hP hD hS
    · have h := ub_if_f c35 h
      refine lv_iconst (v := 1) hx hb dX5_isRustier_38 (by decide) ?_
      refine lv_goto (tgt := 43) hx hb dX5_isRustier_39 (by decide) ?_
      cases h
      exact hret H locs _ ls dX5_isRustier_43 rfl hP hD hS
set_option maxHeartbeats 4000000 in
set_option maxRecDepth 100000 in
theorem ucX5_isRustier (l : Launch) (D : va_G) (cI cT : ClassId) {h0 h1 h2 : Nat} {z0 : Nat} {z1 : Nat} {z2 : Nat} {z3 : Nat} {l1 : Int32} {l2 : Int32} {rr : Int32} {ym_number : Int32} {ym_answers : (Nat → Int32)} {ym_rust : (Nat → Int32)} {sz : Nat} (h : ufX5_isRustier ym_answers ym_rust l1 l2 = some rr) : Met l yX5_isRustier wsX5_isRustier ({ frames := 1, cells := 0, slots := 0, locals := 21 } : Room) (va_Pc [.ref h0, .int l1, .int l2] (ub_pc D cI cT (udX5_isRustier cI h0 h1 h2 z0 z1 z2 z3 ym_number ym_answers ym_rust) sz)) (va_Qi (fun (r' : Int32) (_ : Unit) => r' = rr) (fun _ t => ub_pq D (udX5_isRustier cI h0 h1 h2 z0 z1 z2 z3 ym_number ym_answers ym_rust) (va_A (udX5_isRustier cI h0 h1 h2 z0 z1 z2 z3 ym_number ym_answers ym_rust) sz) t) (va_A (udX5_isRustier cI h0 h1 h2 z0 z1 z2 z3 ym_number ym_answers ym_rust) sz)) 0 0 (va_A (udX5_isRustier cI h0 h1 h2 z0 z1 z2 z3 ym_number ym_answers ym_rust) sz) :=
  ub_met_i (by decide +kernel) rfl (Nat.le_of_ble_eq_true rfl) fun _ _ _ _ _ _ _ _ _ _ K hret _ hl hP hD hS => uwX5_isRustier_E K hret h hl hP hD hS
-- X5_placeByRust
def udX5_placeByRust (cI : ClassId) (h0 : Nat) (h1 : Nat) (h2 : Nat) (z0 : Nat) (z1 : Nat) (z2 : Nat) (z3 : Nat) (ym_number : Int32) (ym_answers : Nat → Int32) (ym_rust : Nat → Int32) : va_W := [(h0, .inr (7, [.int ym_number, .ref z0, .ref z1, .ref h2, .ref h1, .ref z2, .ref z3])), (h1, .inl (cI, 12, .inl ym_answers)), (h2, .inl (cI, 12, .inl ym_rust))]
def ulX5_placeByRust_4 (ym_number : Int32) (ym_answers : Nat → Int32) (ym_rust : Nat → Int32) (l1 : Int32) : Nat → Int32 → Int32 → Option (Int32)
  | 0, _, _ => none
  | k + 1, l2, l3 =>
    if ym_number ≤ l3 then
      some (l2)
    else
      ub_b1 (ufX5_isRustier ym_answers ym_rust l3 l1) fun x_1 =>
      if x_1 = 0 then
        ulX5_placeByRust_4 ym_number ym_answers ym_rust l1 k l2 (l3 + 1)
      else
        ulX5_placeByRust_4 ym_number ym_answers ym_rust l1 k (l2 + 1) (l3 + 1)
def ufX5_placeByRust (ym_number : Int32) (ym_answers : Nat → Int32) (ym_rust : Nat → Int32) (l1 : Int32) : Option (Int32) :=
  ulX5_placeByRust_4 ym_number ym_answers ym_rust l1 ub_F 0 0
theorem uvX5_placeByRust_1 : Cond.fieldLink RX5 30 "UnheardBells$Ropes" "number" "I" ∈ wsX5_placeByRust := List.mem_cons_of_mem _ us_m81
theorem uiX5_placeByRust_X5 : ∀ w ∈ u_ws RX5 TX5 7, w ∈ wsX5_placeByRust := fun w h => List.mem_cons_of_mem _ (us_inX5 w h)
theorem uhX5_placeByRust : yX5_placeByRust.cls ≠ "java/lang/invoke/MethodHandle" ∧ yX5_placeByRust.cls ≠ "java/lang/invoke/VarHandle" ∧ (parseMethodDescriptor yX5_placeByRust.desc).map (fun d => d.parameters.length) = some 1 := by decide +kernel
set_option maxHeartbeats 4000000 in
set_option maxRecDepth 100000 in
theorem uwX5_placeByRust_4 {p : Program} {l : Launch} {e : Env} {s : State} {m : MethodId} {args : Array Value} {below : List Frame} {meth : Method} {c : Code} {Q : State → Prop} {D : va_G} {cI cT : ClassId} {A : Nat → Prop} (K : ub_kx p s m args meth c cX5_placeByRust 4 RX5 wsX5_placeByRust D cI cT A) {h0 h1 h2 : Nat} {z0 : Nat} {z1 : Nat} {z2 : Nat} {z3 : Nat} {ym_number : Int32} {ym_answers : (Nat → Int32)} {ym_rust : (Nat → Int32)} {l1 : Int32} {rr : Int32} (hret : ∀ (H : Heap) (locs : List Loc) (pc : Nat) (ls : Array Slot), decode cX5_placeByRust pc = .ok (.ireturn, 1) → narrow .int (.int rr) = .int rr → va_P D vwCl (udX5_placeByRust cI h0 h1 h2 z0 z1 z2 z3 ym_number ym_answers ym_rust) H → va_D A (udX5_placeByRust cI h0 h1 h2 z0 z1 z2 z3 ym_number ym_answers ym_rust) → va_S A s.heap H locs → W p l e ({ frames := 2, cells := 0, slots := 0, locals := 43 } : Room) s m args below meth c H locs 0 0 Q (F0 m pc ls [.int rr])) : ∀ (k : Nat) (l2 : Int32) (l3 : Int32), ulX5_placeByRust_4 ym_number ym_answers ym_rust l1 k l2 l3 = some rr → ∀ (H : Heap) (locs : List Loc) (ls : Array Slot), lv_has ls 4 [(0, .ref h0), (1, .int l1), (2, .int l2), (3, .int l3)] → va_P D vwCl (udX5_placeByRust cI h0 h1 h2 z0 z1 z2 z3 ym_number ym_answers ym_rust) H → va_D A (udX5_placeByRust cI h0 h1 h2 z0 z1 z2 z3 ym_number ym_answers ym_rust) → va_S A s.heap H locs → W p l e ({ frames := 2, cells := 0, slots := 0, locals := 43 } : Room) s m args below meth c H locs 0 0 Q (F0 m 4 ls []) := by
  have K0 := K
  obtain ⟨hx, hb, hml, hown, hts, hK, hN, hA⟩ := K
  intro k
  induction k with
  | zero =>
    intro l2 l3 h
    rw [ulX5_placeByRust_4] at h
    cases h
  | succ k ih =>
    intro l2 l3 h H locs ls hl hP hD hS
    rw [ulX5_placeByRust_4] at h
    refine lv_iload_n hx hb dX5_placeByRust_4 rfl (lv_at hl 3 rfl) ?_
    refine lv_aload_n hx hb dX5_placeByRust_5 rfl (lv_at hl 0 rfl) ?_
    refine va_get (ci := 7) (v := .int ym_number) (C := RX5) (T := TX5) (N := 7) hx hb hts uiX5_placeByRust_X5 hown hK hP 0 rfl rfl 0 (by decide) (hts _ uvX5_placeByRust_1) (fun _ h9 => h9) rfl dX5_placeByRust_6 ?_
    refine lv_icmp_ge (tgt := 30) hx hb dX5_placeByRust_9 (by decide) (fun c9 => ?_) (fun c9 => ?_)
    · have h := ub_if_t c9 h
      refine lv_iload_n hx hb dX5_placeByRust_30 rfl (lv_at hl 2 rfl) ?_
      cases h
      exact hret H locs _ ls dX5_placeByRust_31 rfl hP hD hS
    · have h := ub_if_f c9 h
      refine lv_aload_n hx hb dX5_placeByRust_12 rfl (lv_at hl 0 rfl) ?_
      refine lv_iload_n hx hb dX5_placeByRust_13 rfl (lv_at hl 3 rfl) ?_
      refine lv_iload_n hx hb dX5_placeByRust_14 rfl (lv_at hl 1 rfl) ?_
      obtain ⟨x_1, hc15, h⟩ := ub_b1_some h
      have hPc : va_P D vwCl (udX5_isRustier cI h0 h1 h2 z0 z1 z2 z3 ym_number ym_answers ym_rust) H := ub_pickP hP [0, 1, 2] rfl
      have hDc : va_D A (udX5_isRustier cI h0 h1 h2 z0 z1 z2 z3 ym_number ym_answers ym_rust) := hD.sub [0, 1, 2] (by decide) rfl
      refine ub_calli (ws' := (udX5_placeByRust cI h0 h1 h2 z0 z1 z2 z3 ym_number ym_answers ym_rust)) (va_runV (As := [.int l3, .int l1]) (rest := []) ⟨hx, hb, hml, hown, hts⟩ (ucX5_isRustier l D cI cT hc15) (cwV 2 hts gX5_placeByRust_X5_isRustier rfl rfl rfl ⟨rfl, uhX5_isRustier⟩ ⟨Nat.le_of_ble_eq_true rfl, Nat.le_of_ble_eq_true rfl⟩) (ub_preV hPc hDc hK hN 0 (ci := 7) rfl rfl rfl) rfl rfl hl.1 rfl (lv_room (Nat.le_of_ble_eq_true rfl)) dX5_placeByRust_15 ⟨Nat.le_of_ble_eq_true rfl, Nat.le_of_ble_eq_true rfl⟩) hP hD hS hA [0, 1, 2] rfl (by decide) rfl rfl (fun H locs hP hD hS => ?_)
      refine lv_if_eq (tgt := 24) hx hb dX5_placeByRust_18 (by decide) (fun c18 => ?_) (fun c18 => ?_)
      · have h := ub_if_t c18 h
        refine lv_iinc (v := l3 + 1) (lv' := [(3, .int (l3 + 1)), (0, .ref h0), (1, .int l1), (2, .int l2)]) hx hb dX5_placeByRust_24 hl (k := 3) rfl rfl (by decide) rfl (fun ls hl => ?_)
        refine lv_goto (tgt := 4) hx hb dX5_placeByRust_27 (by decide) ?_
        exact ih l2 (l3 + 1) h H locs ls (lv_sub hl [1, 2, 3, 0] rfl) hP hD hS
      · have h := ub_if_f c18 h
        refine lv_iinc (v := l2 + 1) (lv' := [(2, .int (l2 + 1)), (0, .ref h0), (1, .int l1), (3, .int l3)]) hx hb dX5_placeByRust_21 hl (k := 2) rfl rfl (by decide) rfl (fun ls hl => ?_)
        refine lv_iinc (v := l3 + 1) (lv' := [(3, .int (l3 + 1)), (2, .int (l2 + 1)), (0, .ref h0), (1, .int l1)]) hx hb dX5_placeByRust_24 hl (k := 3) rfl rfl (by decide) rfl (fun ls hl => ?_)
        refine lv_goto (tgt := 4) hx hb dX5_placeByRust_27 (by decide) ?_
        exact ih (l2 + 1) (l3 + 1) h H locs ls (lv_sub hl [2, 3, 1, 0] rfl) hP hD hS
set_option maxHeartbeats 4000000 in
set_option maxRecDepth 100000 in
theorem uwX5_placeByRust_E {p : Program} {l : Launch} {e : Env} {s : State} {m : MethodId} {args : Array Value} {below : List Frame} {meth : Method} {c : Code} {Q : State → Prop} {D : va_G} {cI cT : ClassId} {A : Nat → Prop} (K : ub_kx p s m args meth c cX5_placeByRust 4 RX5 wsX5_placeByRust D cI cT A) {h0 h1 h2 : Nat} {z0 : Nat} {z1 : Nat} {z2 : Nat} {z3 : Nat} {ym_number : Int32} {ym_answers : (Nat → Int32)} {ym_rust : (Nat → Int32)} {l1 : Int32} {rr : Int32} (hret : ∀ (H : Heap) (locs : List Loc) (pc : Nat) (ls : Array Slot), decode cX5_placeByRust pc = .ok (.ireturn, 1) → narrow .int (.int rr) = .int rr → va_P D vwCl (udX5_placeByRust cI h0 h1 h2 z0 z1 z2 z3 ym_number ym_answers ym_rust) H → va_D A (udX5_placeByRust cI h0 h1 h2 z0 z1 z2 z3 ym_number ym_answers ym_rust) → va_S A s.heap H locs → W p l e ({ frames := 2, cells := 0, slots := 0, locals := 43 } : Room) s m args below meth c H locs 0 0 Q (F0 m pc ls [.int rr])) (h : ufX5_placeByRust ym_number ym_answers ym_rust l1 = some rr) {H : Heap} {locs : List Loc} {ls : Array Slot} (hl : lv_has ls 4 [(0, .ref h0), (1, .int l1)]) (hP : va_P D vwCl (udX5_placeByRust cI h0 h1 h2 z0 z1 z2 z3 ym_number ym_answers ym_rust) H) (hD : va_D A (udX5_placeByRust cI h0 h1 h2 z0 z1 z2 z3 ym_number ym_answers ym_rust)) (hS : va_S A s.heap H locs) : W p l e ({ frames := 2, cells := 0, slots := 0, locals := 43 } : Room) s m args below meth c H locs 0 0 Q (F0 m 0 ls []) := by
  have K0 := K
  obtain ⟨hx, hb, hml, hown, hts, hK, hN, hA⟩ := K
  unfold ufX5_placeByRust at h
  refine lv_iconst (v := 0) hx hb dX5_placeByRust_0 (by decide) ?_
  refine lv_istore_n (lv' := [(2, .int 0), (0, .ref h0), (1, .int l1)]) hx hb dX5_placeByRust_1 rfl hl (by decide) rfl (fun ls hl => ?_)
  refine lv_iconst (v := 0) hx hb dX5_placeByRust_2 (by decide) ?_
  refine lv_istore_n (lv' := [(3, .int 0), (2, .int 0), (0, .ref h0), (1, .int l1)]) hx hb dX5_placeByRust_3 rfl hl (by decide) rfl (fun ls hl => ?_)
  exact uwX5_placeByRust_4 K0 hret ub_F 0 0 h H locs ls (lv_sub hl [2, 3, 1, 0] rfl) hP hD hS
set_option maxHeartbeats 4000000 in
set_option maxRecDepth 100000 in
theorem ucX5_placeByRust (l : Launch) (D : va_G) (cI cT : ClassId) {h0 h1 h2 : Nat} {z0 : Nat} {z1 : Nat} {z2 : Nat} {z3 : Nat} {l1 : Int32} {rr : Int32} {ym_number : Int32} {ym_answers : (Nat → Int32)} {ym_rust : (Nat → Int32)} {sz : Nat} (h : ufX5_placeByRust ym_number ym_answers ym_rust l1 = some rr) : Met l yX5_placeByRust wsX5_placeByRust ({ frames := 2, cells := 0, slots := 0, locals := 43 } : Room) (va_Pc [.ref h0, .int l1] (ub_pc D cI cT (udX5_placeByRust cI h0 h1 h2 z0 z1 z2 z3 ym_number ym_answers ym_rust) sz)) (va_Qi (fun (r' : Int32) (_ : Unit) => r' = rr) (fun _ t => ub_pq D (udX5_placeByRust cI h0 h1 h2 z0 z1 z2 z3 ym_number ym_answers ym_rust) (va_A (udX5_placeByRust cI h0 h1 h2 z0 z1 z2 z3 ym_number ym_answers ym_rust) sz) t) (va_A (udX5_placeByRust cI h0 h1 h2 z0 z1 z2 z3 ym_number ym_answers ym_rust) sz)) 0 0 (va_A (udX5_placeByRust cI h0 h1 h2 z0 z1 z2 z3 ym_number ym_answers ym_rust) sz) :=
  ub_met_i (by decide +kernel) rfl (Nat.le_of_ble_eq_true rfl) fun _ _ _ _ _ _ _ _ _ _ K hret _ hl hP hD hS => uwX5_placeByRust_E K hret h hl hP hD hS
-- X5_isAhead
def udX5_isAhead (cI : ClassId) (h0 : Nat) (h1 : Nat) (h2 : Nat) (z0 : Nat) (z1 : Nat) (z2 : Nat) (z3 : Nat) (ym_number : Int32) (ym_answers : Nat → Int32) (ym_parish : Nat → Int32) : va_W := [(h0, .inr (7, [.int ym_number, .ref h2, .ref z0, .ref z1, .ref h1, .ref z2, .ref z3])), (h1, .inl (cI, 12, .inl ym_answers)), (h2, .inl (cI, 12, .inl ym_parish))]
def ufX5_isAhead (ym_number : Int32) (ym_answers : Nat → Int32) (ym_parish : Nat → Int32) (l1 : Int32) (l2 : Int32) : Option (Int32) :=
  ub_b1 (ufX5_sumOf 12 ym_number ym_parish ym_answers l1) fun x_1 =>
  ub_b1 (ufX5_sumOf 12 ym_number ym_parish ym_answers l2) fun x_2 =>
  if (x_1 - x_2) = 0 then
    ub_b1 (ufX5_setOf ym_number ym_parish l1) fun x_3 =>
    ub_b1 (ufJ6_bitCount_0f7a4 x_3) fun x_4 =>
    ub_b1 (ufX5_setOf ym_number ym_parish l2) fun x_5 =>
    ub_b1 (ufJ6_bitCount_0f7a4 x_5) fun x_6 =>
    if (x_4 - x_6) = 0 then
      if l2 ≤ l1 then
        some (0)
      else
        some (1)
    else
      if (x_4 - x_6) ≤ 0 then
        some (0)
      else
        some (1)
  else
    if (x_1 - x_2) ≤ 0 then
      some (0)
    else
      some (1)
theorem uvX5_isAhead_1 : Cond.fieldLink RX5 21 "UnheardBells$Ropes" "answers" "[I" ∈ wsX5_isAhead := List.mem_cons_of_mem _ us_m91
theorem uiX5_isAhead_X5 : ∀ w ∈ u_ws RX5 TX5 7, w ∈ wsX5_isAhead := fun w h => List.mem_cons_of_mem _ (us_inX5 w h)
theorem uhX5_isAhead : yX5_isAhead.cls ≠ "java/lang/invoke/MethodHandle" ∧ yX5_isAhead.cls ≠ "java/lang/invoke/VarHandle" ∧ (parseMethodDescriptor yX5_isAhead.desc).map (fun d => d.parameters.length) = some 2 := by decide +kernel
set_option maxHeartbeats 4000000 in
set_option maxRecDepth 100000 in
theorem uwX5_isAhead_E {p : Program} {l : Launch} {e : Env} {s : State} {m : MethodId} {args : Array Value} {below : List Frame} {meth : Method} {c : Code} {Q : State → Prop} {D : va_G} {cI cT : ClassId} {A : Nat → Prop} (K : ub_kx p s m args meth c cX5_isAhead 5 RX5 wsX5_isAhead D cI cT A) {h0 h1 h2 : Nat} {z0 : Nat} {z1 : Nat} {z2 : Nat} {z3 : Nat} {ym_number : Int32} {ym_answers : (Nat → Int32)} {ym_parish : (Nat → Int32)} {l1 : Int32} {l2 : Int32} {rr : Int32} (hret : ∀ (H : Heap) (locs : List Loc) (pc : Nat) (ls : Array Slot), decode cX5_isAhead pc = .ok (.ireturn, 1) → narrow .boolean (.int rr) = .int rr → va_P D vwCl (udX5_isAhead cI h0 h1 h2 z0 z1 z2 z3 ym_number ym_answers ym_parish) H → va_D A (udX5_isAhead cI h0 h1 h2 z0 z1 z2 z3 ym_number ym_answers ym_parish) → va_S A s.heap H locs → W p l e ({ frames := 2, cells := 0, slots := 0, locals := 45 } : Room) s m args below meth c H locs 0 0 Q (F0 m pc ls [.int rr])) (h : ufX5_isAhead ym_number ym_answers ym_parish l1 l2 = some rr) {H : Heap} {locs : List Loc} {ls : Array Slot} (hl : lv_has ls 5 [(0, .ref h0), (1, .int l1), (2, .int l2)]) (hP : va_P D vwCl (udX5_isAhead cI h0 h1 h2 z0 z1 z2 z3 ym_number ym_answers ym_parish) H) (hD : va_D A (udX5_isAhead cI h0 h1 h2 z0 z1 z2 z3 ym_number ym_answers ym_parish)) (hS : va_S A s.heap H locs) : W p l e ({ frames := 2, cells := 0, slots := 0, locals := 45 } : Room) s m args below meth c H locs 0 0 Q (F0 m 0 ls []) := by
  have K0 := K
  obtain ⟨hx, hb, hml, hown, hts, hK, hN, hA⟩ := K
  unfold ufX5_isAhead at h
  refine lv_aload_n hx hb dX5_isAhead_0 rfl (lv_at hl 0 rfl) ?_
  refine lv_aload_n hx hb dX5_isAhead_1 rfl (lv_at hl 0 rfl) ?_
  refine va_get (ci := 7) (v := .ref h1) (C := RX5) (T := TX5) (N := 7) hx hb hts uiX5_isAhead_X5 hown hK hP 0 rfl rfl 4 (by decide) (hts _ uvX5_isAhead_1) (fun _ h9 => h9) rfl dX5_isAhead_2 ?_
  refine lv_iload_n hx hb dX5_isAhead_5 rfl (lv_at hl 1 rfl) ?_
  obtain ⟨x_1, hc6, h⟩ := ub_b1_some h
  have hPc : va_P D vwCl (udX5_sumOf cI 12 h0 h2 h1 z0 z1 h1 z2 z3 ym_number ym_parish ym_answers) H := ub_pickP hP [0, 2, 1] rfl
  have hDc : va_D A (udX5_sumOf cI 12 h0 h2 h1 z0 z1 h1 z2 z3 ym_number ym_parish ym_answers) := hD.sub [0, 2, 1] (by decide) rfl
  refine ub_calli (ws' := (udX5_isAhead cI h0 h1 h2 z0 z1 z2 z3 ym_number ym_answers ym_parish)) (va_runV (As := [.ref h1, .int l1]) (rest := []) ⟨hx, hb, hml, hown, hts⟩ (ucX5_sumOf l D cI cT hc6) (cwV 2 hts gX5_isAhead_X5_sumOf rfl rfl rfl ⟨rfl, uhX5_sumOf⟩ ⟨Nat.le_of_ble_eq_true rfl, Nat.le_of_ble_eq_true rfl⟩) (ub_preV hPc hDc hK hN 0 (ci := 7) rfl rfl rfl) rfl rfl hl.1 rfl (lv_room (Nat.le_of_ble_eq_true rfl)) dX5_isAhead_6 ⟨Nat.le_of_ble_eq_true rfl, Nat.le_of_ble_eq_true rfl⟩) hP hD hS hA [0, 2, 1] rfl (by decide) rfl rfl (fun H locs hP hD hS => ?_)
  refine lv_aload_n hx hb dX5_isAhead_9 rfl (lv_at hl 0 rfl) ?_
  refine lv_aload_n hx hb dX5_isAhead_10 rfl (lv_at hl 0 rfl) ?_
  refine va_get (ci := 7) (v := .ref h1) (C := RX5) (T := TX5) (N := 7) hx hb hts uiX5_isAhead_X5 hown hK hP 0 rfl rfl 4 (by decide) (hts _ uvX5_isAhead_1) (fun _ h9 => h9) rfl dX5_isAhead_11 ?_
  refine lv_iload_n hx hb dX5_isAhead_14 rfl (lv_at hl 2 rfl) ?_
  obtain ⟨x_2, hc15, h⟩ := ub_b1_some h
  have hPc : va_P D vwCl (udX5_sumOf cI 12 h0 h2 h1 z0 z1 h1 z2 z3 ym_number ym_parish ym_answers) H := ub_pickP hP [0, 2, 1] rfl
  have hDc : va_D A (udX5_sumOf cI 12 h0 h2 h1 z0 z1 h1 z2 z3 ym_number ym_parish ym_answers) := hD.sub [0, 2, 1] (by decide) rfl
  refine ub_calli (ws' := (udX5_isAhead cI h0 h1 h2 z0 z1 z2 z3 ym_number ym_answers ym_parish)) (va_runV (As := [.ref h1, .int l2]) (rest := [.int x_1]) ⟨hx, hb, hml, hown, hts⟩ (ucX5_sumOf l D cI cT hc15) (cwV 2 hts gX5_isAhead_X5_sumOf rfl rfl rfl ⟨rfl, uhX5_sumOf⟩ ⟨Nat.le_of_ble_eq_true rfl, Nat.le_of_ble_eq_true rfl⟩) (ub_preV hPc hDc hK hN 0 (ci := 7) rfl rfl rfl) rfl rfl hl.1 rfl (lv_room (Nat.le_of_ble_eq_true rfl)) dX5_isAhead_15 ⟨Nat.le_of_ble_eq_true rfl, Nat.le_of_ble_eq_true rfl⟩) hP hD hS hA [0, 2, 1] rfl (by decide) rfl rfl (fun H locs hP hD hS => ?_)
  refine lv_isub hx hb dX5_isAhead_18 ?_
  refine lv_istore_n (lv' := [(3, .int (x_1 - x_2)), (0, .ref h0), (1, .int l1), (2, .int l2)]) hx hb dX5_isAhead_19 rfl hl (by decide) rfl (fun ls hl => ?_)
  refine lv_iload_n hx hb dX5_isAhead_20 rfl (lv_at hl 0 rfl) ?_
  refine lv_if_eq (tgt := 34) hx hb dX5_isAhead_21 (by decide) (fun c21 => ?_) (fun c21 => ?_)
  · have h := ub_if_t c21 h
    refine lv_aload_n hx hb dX5_isAhead_34 rfl (lv_at hl 1 rfl) ?_
    refine lv_iload_n hx hb dX5_isAhead_35 rfl (lv_at hl 2 rfl) ?_
    obtain ⟨x_3, hc36, h⟩ := ub_b1_some h
    have hPc : va_P D vwCl (udX5_setOf cI h0 h2 z0 z1 h1 z2 z3 ym_number ym_parish) H := ub_pickP hP [0, 2] rfl
    have hDc : va_D A (udX5_setOf cI h0 h2 z0 z1 h1 z2 z3 ym_number ym_parish) := hD.sub [0, 2] (by decide) rfl
    refine ub_calli (ws' := (udX5_isAhead cI h0 h1 h2 z0 z1 z2 z3 ym_number ym_answers ym_parish)) (va_runV (As := [.int l1]) (rest := []) ⟨hx, hb, hml, hown, hts⟩ (ucX5_setOf l D cI cT hc36) (cwV 1 hts gX5_isAhead_X5_setOf rfl rfl rfl ⟨rfl, uhX5_setOf⟩ ⟨Nat.le_of_ble_eq_true rfl, Nat.le_of_ble_eq_true rfl⟩) (ub_preV hPc hDc hK hN 0 (ci := 7) rfl rfl rfl) rfl rfl hl.1 rfl (lv_room (Nat.le_of_ble_eq_true rfl)) dX5_isAhead_36 ⟨Nat.le_of_ble_eq_true rfl, Nat.le_of_ble_eq_true rfl⟩) hP hD hS hA [0, 2] rfl (by decide) rfl rfl (fun H locs hP hD hS => ?_)
    obtain ⟨x_4, hc39, h⟩ := ub_b1_some h
    have hPc : va_P D vwCl (udJ6_bitCount_0f7a4 cI) H := ub_pickP hP [] rfl
    have hDc : va_D A (udJ6_bitCount_0f7a4 cI) := hD.sub [] (by decide) rfl
    refine ub_calli (ws' := (udX5_isAhead cI h0 h1 h2 z0 z1 z2 z3 ym_number ym_answers ym_parish)) (va_runS (As := [.int x_3]) (rest := []) ⟨hx, hb, hml, hown, hts⟩ (ucJ6_bitCount_0f7a4 l D cI cT hc39) (va_cwS 1 hts gX5_isAhead_J6_bitCount_0f7a4 rfl rfl rfl uhJ6_bitCount_0f7a4 ⟨Nat.le_of_ble_eq_true rfl, Nat.le_of_ble_eq_true rfl⟩) (ub_preS hPc hDc hK hN) rfl rfl hl.1 rfl (lv_room (Nat.le_of_ble_eq_true rfl)) dX5_isAhead_39 ⟨Nat.le_of_ble_eq_true rfl, Nat.le_of_ble_eq_true rfl⟩) hP hD hS hA [] rfl (by decide) rfl rfl (fun H locs hP hD hS => ?_)
    refine lv_aload_n hx hb dX5_isAhead_42 rfl (lv_at hl 1 rfl) ?_
    refine lv_iload_n hx hb dX5_isAhead_43 rfl (lv_at hl 3 rfl) ?_
    obtain ⟨x_5, hc44, h⟩ := ub_b1_some h
    have hPc : va_P D vwCl (udX5_setOf cI h0 h2 z0 z1 h1 z2 z3 ym_number ym_parish) H := ub_pickP hP [0, 2] rfl
    have hDc : va_D A (udX5_setOf cI h0 h2 z0 z1 h1 z2 z3 ym_number ym_parish) := hD.sub [0, 2] (by decide) rfl
    refine ub_calli (ws' := (udX5_isAhead cI h0 h1 h2 z0 z1 z2 z3 ym_number ym_answers ym_parish)) (va_runV (As := [.int l2]) (rest := [.int x_4]) ⟨hx, hb, hml, hown, hts⟩ (ucX5_setOf l D cI cT hc44) (cwV 1 hts gX5_isAhead_X5_setOf rfl rfl rfl ⟨rfl, uhX5_setOf⟩ ⟨Nat.le_of_ble_eq_true rfl, Nat.le_of_ble_eq_true rfl⟩) (ub_preV hPc hDc hK hN 0 (ci := 7) rfl rfl rfl) rfl rfl hl.1 rfl (lv_room (Nat.le_of_ble_eq_true rfl)) dX5_isAhead_44 ⟨Nat.le_of_ble_eq_true rfl, Nat.le_of_ble_eq_true rfl⟩) hP hD hS hA [0, 2] rfl (by decide) rfl rfl (fun H locs hP hD hS => ?_)
    obtain ⟨x_6, hc47, h⟩ := ub_b1_some h
    have hPc : va_P D vwCl (udJ6_bitCount_0f7a4 cI) H := ub_pickP hP [] rfl
    have hDc : va_D A (udJ6_bitCount_0f7a4 cI) := hD.sub [] (by decide) rfl
    refine ub_calli (ws' := (udX5_isAhead cI h0 h1 h2 z0 z1 z2 z3 ym_number ym_answers ym_parish)) (va_runS (As := [.int x_5]) (rest := [.int x_4]) ⟨hx, hb, hml, hown, hts⟩ (ucJ6_bitCount_0f7a4 l D cI cT hc47) (va_cwS 1 hts gX5_isAhead_J6_bitCount_0f7a4 rfl rfl rfl uhJ6_bitCount_0f7a4 ⟨Nat.le_of_ble_eq_true rfl, Nat.le_of_ble_eq_true rfl⟩) (ub_preS hPc hDc hK hN) rfl rfl hl.1 rfl (lv_room (Nat.le_of_ble_eq_true rfl)) dX5_isAhead_47 ⟨Nat.le_of_ble_eq_true rfl, Nat.le_of_ble_eq_true rfl⟩) hP hD hS hA [] rfl (by decide) rfl rfl (fun H locs hP hD hS => ?_)
    refine lv_isub hx hb dX5_isAhead_50 ?_
    refine lv_istore (lv' := [(4, .int (x_4 - x_6)), (3, .int (x_1 - x_2)), (0, .ref h0), (1, .int l1), (2, .int l2)]) hx hb dX5_isAhead_51 hl (by decide) rfl (fun ls hl => ?_)
    refine lv_iload hx hb dX5_isAhead_53 (lv_at hl 0 rfl) ?_
    refine lv_if_eq (tgt := 69) hx hb dX5_isAhead_55 (by decide) (fun c55 => ?_) (fun c55 => ?_)
    · have h := ub_if_t c55 h
      refine lv_iload_n hx hb dX5_isAhead_69 rfl (lv_at hl 3 rfl) ?_
      refine lv_iload_n hx hb dX5_isAhead_70 rfl (lv_at hl 4 rfl) ?_
      refine lv_icmp_ge (tgt := 78) hx hb dX5_isAhead_71 (by decide) (fun c71 => ?_) (fun c71 => ?_)
      · have h := ub_if_t c71 h
        refine lv_iconst (v := 0) hx hb dX5_isAhead_78 (by decide) ?_
        cases h
        exact hret H locs _ ls dX5_isAhead_79 rfl hP hD hS
      · have h := ub_if_f c71 h
        refine lv_iconst (v := 1) hx hb dX5_isAhead_74 (by decide) ?_
        refine lv_goto (tgt := 79) hx hb dX5_isAhead_75 (by decide) ?_
        cases h
        exact hret H locs _ ls dX5_isAhead_79 rfl hP hD hS
    · have h := ub_if_f c55 h
      refine lv_iload hx hb dX5_isAhead_58 (lv_at hl 0 rfl) ?_
      refine lv_if_le (tgt := 67) hx hb dX5_isAhead_60 (by decide) (fun c60 => ?_) (fun c60 => ?_)
      · have h := ub_if_t c60 h
        refine lv_iconst (v := 0) hx hb dX5_isAhead_67 (by decide) ?_
        cases h
        exact hret H locs _ ls dX5_isAhead_68 rfl hP hD hS
      · have h := ub_if_f c60 h
        refine lv_iconst (v := 1) hx hb dX5_isAhead_63 (by decide) ?_
        refine lv_goto (tgt := 68) hx hb dX5_isAhead_64 (by decide) ?_
        cases h
        exact hret H locs _ ls dX5_isAhead_68 rfl hP hD hS
  · have h := ub_if_f c21 h
    refine lv_iload_n hx hb dX5_isAhead_24 rfl (lv_at hl 0 rfl) ?_
    refine lv_if_le (tgt := 32) hx hb dX5_isAhead_25 (by decide) (fun c25 => ?_) (fun c25 => ?_)
    · have h := ub_if_t c25 h
      refine lv_iconst (v := 0) hx hb dX5_isAhead_32 (by decide) ?_
      cases h
      exact hret H locs _ ls dX5_isAhead_33 rfl hP hD hS
    · have h := ub_if_f c25 h
      refine lv_iconst (v := 1) hx hb dX5_isAhead_28 (by decide) ?_
      refine lv_goto (tgt := 33) hx hb dX5_isAhead_29 (by decide) ?_
      cases h
      exact hret H locs _ ls dX5_isAhead_33 rfl hP hD hS
set_option maxHeartbeats 4000000 in
set_option maxRecDepth 100000 in
theorem ucX5_isAhead (l : Launch) (D : va_G) (cI cT : ClassId) {h0 h1 h2 : Nat} {z0 : Nat} {z1 : Nat} {z2 : Nat} {z3 : Nat} {l1 : Int32} {l2 : Int32} {rr : Int32} {ym_number : Int32} {ym_answers : (Nat → Int32)} {ym_parish : (Nat → Int32)} {sz : Nat} (h : ufX5_isAhead ym_number ym_answers ym_parish l1 l2 = some rr) : Met l yX5_isAhead wsX5_isAhead ({ frames := 2, cells := 0, slots := 0, locals := 45 } : Room) (va_Pc [.ref h0, .int l1, .int l2] (ub_pc D cI cT (udX5_isAhead cI h0 h1 h2 z0 z1 z2 z3 ym_number ym_answers ym_parish) sz)) (va_Qi (fun (r' : Int32) (_ : Unit) => r' = rr) (fun _ t => ub_pq D (udX5_isAhead cI h0 h1 h2 z0 z1 z2 z3 ym_number ym_answers ym_parish) (va_A (udX5_isAhead cI h0 h1 h2 z0 z1 z2 z3 ym_number ym_answers ym_parish) sz) t) (va_A (udX5_isAhead cI h0 h1 h2 z0 z1 z2 z3 ym_number ym_answers ym_parish) sz)) 0 0 (va_A (udX5_isAhead cI h0 h1 h2 z0 z1 z2 z3 ym_number ym_answers ym_parish) sz) :=
  ub_met_i (by decide +kernel) rfl (Nat.le_of_ble_eq_true rfl) fun _ _ _ _ _ _ _ _ _ _ K hret _ hl hP hD hS => uwX5_isAhead_E K hret h hl hP hD hS
-- X5_placeByAnswers
def udX5_placeByAnswers (cI : ClassId) (h0 : Nat) (h1 : Nat) (h2 : Nat) (z0 : Nat) (z1 : Nat) (z2 : Nat) (z3 : Nat) (ym_number : Int32) (ym_answers : Nat → Int32) (ym_parish : Nat → Int32) : va_W := [(h0, .inr (7, [.int ym_number, .ref h2, .ref z0, .ref z1, .ref h1, .ref z2, .ref z3])), (h1, .inl (cI, 12, .inl ym_answers)), (h2, .inl (cI, 12, .inl ym_parish))]
def ulX5_placeByAnswers_4 (ym_number : Int32) (ym_answers : Nat → Int32) (ym_parish : Nat → Int32) (l1 : Int32) : Nat → Int32 → Int32 → Option (Int32)
  | 0, _, _ => none
  | k + 1, l2, l3 =>
    if 4 ≤ l3 then
      some (l2)
    else
      ub_b1 (ufX5_isAhead ym_number ym_answers ym_parish l3 l1) fun x_1 =>
      if x_1 = 0 then
        ulX5_placeByAnswers_4 ym_number ym_answers ym_parish l1 k l2 (l3 + 1)
      else
        ulX5_placeByAnswers_4 ym_number ym_answers ym_parish l1 k (l2 + 1) (l3 + 1)
def ufX5_placeByAnswers (ym_number : Int32) (ym_answers : Nat → Int32) (ym_parish : Nat → Int32) (l1 : Int32) : Option (Int32) :=
  ulX5_placeByAnswers_4 ym_number ym_answers ym_parish l1 ub_F 0 0
theorem uiX5_placeByAnswers_X5 : ∀ w ∈ u_ws RX5 TX5 7, w ∈ wsX5_placeByAnswers := fun w h => List.mem_cons_of_mem _ (us_inX5 w h)
theorem uhX5_placeByAnswers : yX5_placeByAnswers.cls ≠ "java/lang/invoke/MethodHandle" ∧ yX5_placeByAnswers.cls ≠ "java/lang/invoke/VarHandle" ∧ (parseMethodDescriptor yX5_placeByAnswers.desc).map (fun d => d.parameters.length) = some 1 := by decide +kernel
set_option maxHeartbeats 4000000 in
set_option maxRecDepth 100000 in
theorem uwX5_placeByAnswers_4 {p : Program} {l : Launch} {e : Env} {s : State} {m : MethodId} {args : Array Value} {below : List Frame} {meth : Method} {c : Code} {Q : State → Prop} {D : va_G} {cI cT : ClassId} {A : Nat → Prop} (K : ub_kx p s m args meth c cX5_placeByAnswers 4 RX5 wsX5_placeByAnswers D cI cT A) {h0 h1 h2 : Nat} {z0 : Nat} {z1 : Nat} {z2 : Nat} {z3 : Nat} {ym_number : Int32} {ym_answers : (Nat → Int32)} {ym_parish : (Nat → Int32)} {l1 : Int32} {rr : Int32} (hret : ∀ (H : Heap) (locs : List Loc) (pc : Nat) (ls : Array Slot), decode cX5_placeByAnswers pc = .ok (.ireturn, 1) → narrow .int (.int rr) = .int rr → va_P D vwCl (udX5_placeByAnswers cI h0 h1 h2 z0 z1 z2 z3 ym_number ym_answers ym_parish) H → va_D A (udX5_placeByAnswers cI h0 h1 h2 z0 z1 z2 z3 ym_number ym_answers ym_parish) → va_S A s.heap H locs → W p l e ({ frames := 3, cells := 0, slots := 0, locals := 69 } : Room) s m args below meth c H locs 0 0 Q (F0 m pc ls [.int rr])) : ∀ (k : Nat) (l2 : Int32) (l3 : Int32), ulX5_placeByAnswers_4 ym_number ym_answers ym_parish l1 k l2 l3 = some rr → ∀ (H : Heap) (locs : List Loc) (ls : Array Slot), lv_has ls 4 [(0, .ref h0), (1, .int l1), (2, .int l2), (3, .int l3)] → va_P D vwCl (udX5_placeByAnswers cI h0 h1 h2 z0 z1 z2 z3 ym_number ym_answers ym_parish) H → va_D A (udX5_placeByAnswers cI h0 h1 h2 z0 z1 z2 z3 ym_number ym_answers ym_parish) → va_S A s.heap H locs → W p l e ({ frames := 3, cells := 0, slots := 0, locals := 69 } : Room) s m args below meth c H locs 0 0 Q (F0 m 4 ls []) := by
  have K0 := K
  obtain ⟨hx, hb, hml, hown, hts, hK, hN, hA⟩ := K
  intro k
  induction k with
  | zero =>
    intro l2 l3 h
    rw [ulX5_placeByAnswers_4] at h
    cases h
  | succ k ih =>
    intro l2 l3 h H locs ls hl hP hD hS
    rw [ulX5_placeByAnswers_4] at h
    refine lv_iload_n hx hb dX5_placeByAnswers_4 rfl (lv_at hl 3 rfl) ?_
    refine lv_iconst (v := 4) hx hb dX5_placeByAnswers_5 (by decide) ?_
    refine lv_icmp_ge (tgt := 27) hx hb dX5_placeByAnswers_6 (by decide) (fun c6 => ?_) (fun c6 => ?_)
    · have h := ub_if_t c6 h
      refine lv_iload_n hx hb dX5_placeByAnswers_27 rfl (lv_at hl 2 rfl) ?_
      cases h
      exact hret H locs _ ls dX5_placeByAnswers_28 rfl hP hD hS
    · have h := ub_if_f c6 h
      refine lv_aload_n hx hb dX5_placeByAnswers_9 rfl (lv_at hl 0 rfl) ?_
      refine lv_iload_n hx hb dX5_placeByAnswers_10 rfl (lv_at hl 3 rfl) ?_
      refine lv_iload_n hx hb dX5_placeByAnswers_11 rfl (lv_at hl 1 rfl) ?_
      obtain ⟨x_1, hc12, h⟩ := ub_b1_some h
      have hPc : va_P D vwCl (udX5_isAhead cI h0 h1 h2 z0 z1 z2 z3 ym_number ym_answers ym_parish) H := ub_pickP hP [0, 1, 2] rfl
      have hDc : va_D A (udX5_isAhead cI h0 h1 h2 z0 z1 z2 z3 ym_number ym_answers ym_parish) := hD.sub [0, 1, 2] (by decide) rfl
      refine ub_calli (ws' := (udX5_placeByAnswers cI h0 h1 h2 z0 z1 z2 z3 ym_number ym_answers ym_parish)) (va_runV (As := [.int l3, .int l1]) (rest := []) ⟨hx, hb, hml, hown, hts⟩ (ucX5_isAhead l D cI cT hc12) (cwV 2 hts gX5_placeByAnswers_X5_isAhead rfl rfl rfl ⟨rfl, uhX5_isAhead⟩ ⟨Nat.le_of_ble_eq_true rfl, Nat.le_of_ble_eq_true rfl⟩) (ub_preV hPc hDc hK hN 0 (ci := 7) rfl rfl rfl) rfl rfl hl.1 rfl (lv_room (Nat.le_of_ble_eq_true rfl)) dX5_placeByAnswers_12 ⟨Nat.le_of_ble_eq_true rfl, Nat.le_of_ble_eq_true rfl⟩) hP hD hS hA [0, 1, 2] rfl (by decide) rfl rfl (fun H locs hP hD hS => ?_)
      refine lv_if_eq (tgt := 21) hx hb dX5_placeByAnswers_15 (by decide) (fun c15 => ?_) (fun c15 => ?_)
      · have h := ub_if_t c15 h
        refine lv_iinc (v := l3 + 1) (lv' := [(3, .int (l3 + 1)), (0, .ref h0), (1, .int l1), (2, .int l2)]) hx hb dX5_placeByAnswers_21 hl (k := 3) rfl rfl (by decide) rfl (fun ls hl => ?_)
        refine lv_goto (tgt := 4) hx hb dX5_placeByAnswers_24 (by decide) ?_
        exact ih l2 (l3 + 1) h H locs ls (lv_sub hl [1, 2, 3, 0] rfl) hP hD hS
      · have h := ub_if_f c15 h
        refine lv_iinc (v := l2 + 1) (lv' := [(2, .int (l2 + 1)), (0, .ref h0), (1, .int l1), (3, .int l3)]) hx hb dX5_placeByAnswers_18 hl (k := 2) rfl rfl (by decide) rfl (fun ls hl => ?_)
        refine lv_iinc (v := l3 + 1) (lv' := [(3, .int (l3 + 1)), (2, .int (l2 + 1)), (0, .ref h0), (1, .int l1)]) hx hb dX5_placeByAnswers_21 hl (k := 3) rfl rfl (by decide) rfl (fun ls hl => ?_)
        refine lv_goto (tgt := 4) hx hb dX5_placeByAnswers_24 (by decide) ?_
        exact ih (l2 + 1) (l3 + 1) h H locs ls (lv_sub hl [2, 3, 1, 0] rfl) hP hD hS
set_option maxHeartbeats 4000000 in
set_option maxRecDepth 100000 in
theorem uwX5_placeByAnswers_E {p : Program} {l : Launch} {e : Env} {s : State} {m : MethodId} {args : Array Value} {below : List Frame} {meth : Method} {c : Code} {Q : State → Prop} {D : va_G} {cI cT : ClassId} {A : Nat → Prop} (K : ub_kx p s m args meth c cX5_placeByAnswers 4 RX5 wsX5_placeByAnswers D cI cT A) {h0 h1 h2 : Nat} {z0 : Nat} {z1 : Nat} {z2 : Nat} {z3 : Nat} {ym_number : Int32} {ym_answers : (Nat → Int32)} {ym_parish : (Nat → Int32)} {l1 : Int32} {rr : Int32} (hret : ∀ (H : Heap) (locs : List Loc) (pc : Nat) (ls : Array Slot), decode cX5_placeByAnswers pc = .ok (.ireturn, 1) → narrow .int (.int rr) = .int rr → va_P D vwCl (udX5_placeByAnswers cI h0 h1 h2 z0 z1 z2 z3 ym_number ym_answers ym_parish) H → va_D A (udX5_placeByAnswers cI h0 h1 h2 z0 z1 z2 z3 ym_number ym_answers ym_parish) → va_S A s.heap H locs → W p l e ({ frames := 3, cells := 0, slots := 0, locals := 69 } : Room) s m args below meth c H locs 0 0 Q (F0 m pc ls [.int rr])) (h : ufX5_placeByAnswers ym_number ym_answers ym_parish l1 = some rr) {H : Heap} {locs : List Loc} {ls : Array Slot} (hl : lv_has ls 4 [(0, .ref h0), (1, .int l1)]) (hP : va_P D vwCl (udX5_placeByAnswers cI h0 h1 h2 z0 z1 z2 z3 ym_number ym_answers ym_parish) H) (hD : va_D A (udX5_placeByAnswers cI h0 h1 h2 z0 z1 z2 z3 ym_number ym_answers ym_parish)) (hS : va_S A s.heap H locs) : W p l e ({ frames := 3, cells := 0, slots := 0, locals := 69 } : Room) s m args below meth c H locs 0 0 Q (F0 m 0 ls []) := by
  have K0 := K
  obtain ⟨hx, hb, hml, hown, hts, hK, hN, hA⟩ := K
  unfold ufX5_placeByAnswers at h
  refine lv_iconst (v := 0) hx hb dX5_placeByAnswers_0 (by decide) ?_
  refine lv_istore_n (lv' := [(2, .int 0), (0, .ref h0), (1, .int l1)]) hx hb dX5_placeByAnswers_1 rfl hl (by decide) rfl (fun ls hl => ?_)
  refine lv_iconst (v := 0) hx hb dX5_placeByAnswers_2 (by decide) ?_
  refine lv_istore_n (lv' := [(3, .int 0), (2, .int 0), (0, .ref h0), (1, .int l1)]) hx hb dX5_placeByAnswers_3 rfl hl (by decide) rfl (fun ls hl => ?_)
  exact uwX5_placeByAnswers_4 K0 hret ub_F 0 0 h H locs ls (lv_sub hl [2, 3, 1, 0] rfl) hP hD hS
set_option maxHeartbeats 4000000 in
set_option maxRecDepth 100000 in
theorem ucX5_placeByAnswers (l : Launch) (D : va_G) (cI cT : ClassId) {h0 h1 h2 : Nat} {z0 : Nat} {z1 : Nat} {z2 : Nat} {z3 : Nat} {l1 : Int32} {rr : Int32} {ym_number : Int32} {ym_answers : (Nat → Int32)} {ym_parish : (Nat → Int32)} {sz : Nat} (h : ufX5_placeByAnswers ym_number ym_answers ym_parish l1 = some rr) : Met l yX5_placeByAnswers wsX5_placeByAnswers ({ frames := 3, cells := 0, slots := 0, locals := 69 } : Room) (va_Pc [.ref h0, .int l1] (ub_pc D cI cT (udX5_placeByAnswers cI h0 h1 h2 z0 z1 z2 z3 ym_number ym_answers ym_parish) sz)) (va_Qi (fun (r' : Int32) (_ : Unit) => r' = rr) (fun _ t => ub_pq D (udX5_placeByAnswers cI h0 h1 h2 z0 z1 z2 z3 ym_number ym_answers ym_parish) (va_A (udX5_placeByAnswers cI h0 h1 h2 z0 z1 z2 z3 ym_number ym_answers ym_parish) sz) t) (va_A (udX5_placeByAnswers cI h0 h1 h2 z0 z1 z2 z3 ym_number ym_answers ym_parish) sz)) 0 0 (va_A (udX5_placeByAnswers cI h0 h1 h2 z0 z1 z2 z3 ym_number ym_answers ym_parish) sz) :=
  ub_met_i (by decide +kernel) rfl (Nat.le_of_ble_eq_true rfl) fun _ _ _ _ _ _ _ _ _ _ K hret _ hl hP hD hS => uwX5_placeByAnswers_E K hret h hl hP hD hS
-- X5_guessByParishes
def udX5_guessByParishes (cI : ClassId) (h0 : Nat) (h1 : Nat) (z0 : Nat) (z1 : Nat) (z2 : Nat) (z3 : Nat) (z4 : Nat) (ym_number : Int32) (ym_parish : Nat → Int32) : va_W := [(h0, .inr (7, [.int ym_number, .ref h1, .ref z0, .ref z1, .ref z2, .ref z3, .ref z4])), (h1, .inl (cI, 12, .inl ym_parish))]
def ujX5_guessByParishes_74 (nx12 : Int32 → Int32 → Int32 → Int32 → Option (Int32)) (ym_number : Int32) (ym_parish : Nat → Int32) (l1 : Int32) (l5 : Int32) (l7 : Int32) (l8 : Int32) : Option (Int32) :=
  nx12 l5 l8 l7 (l5 + 1)
def ulX5_guessByParishes_12 (ym_number : Int32) (ym_parish : Nat → Int32) (l1 : Int32) : Nat → Int32 → Int32 → Int32 → Int32 → Option (Int32)
  | 0, _, _, _, _ => none
  | k + 1, l2, l3, l4, l5 =>
    if 4 ≤ l5 then
      some (l2)
    else
      if l1 = 0 then
        some (l2)
      else
        ub_b1 (ufX5_setOf ym_number ym_parish l5) fun x_1 =>
        ub_b1 (ufJ6_bitCount_0f7a4 x_1) fun x_2 =>
        ub_b1 (ufJ6_bitCount_0f7a4 (x_1 &&& l1)) fun x_3 =>
        if 0 < ((x_3 * l4) - (l3 * x_2)) then
          ujX5_guessByParishes_74 (fun l2' l3' l4' l5' => ulX5_guessByParishes_12 ym_number ym_parish l1 k l2' l3' l4' l5') ym_number ym_parish l1 l5 x_2 x_3
        else
          if ((x_3 * l4) - (l3 * x_2)) = 0 then
            if x_3 ≤ l3 then
              ulX5_guessByParishes_12 ym_number ym_parish l1 k l2 l3 l4 (l5 + 1)
            else
              ujX5_guessByParishes_74 (fun l2' l3' l4' l5' => ulX5_guessByParishes_12 ym_number ym_parish l1 k l2' l3' l4' l5') ym_number ym_parish l1 l5 x_2 x_3
          else
            ulX5_guessByParishes_12 ym_number ym_parish l1 k l2 l3 l4 (l5 + 1)
def ufX5_guessByParishes (ym_number : Int32) (ym_parish : Nat → Int32) (l1 : Int32) : Option (Int32) :=
  ulX5_guessByParishes_12 ym_number ym_parish l1 ub_F (-1015) 0 1 0
theorem uiX5_guessByParishes_X5 : ∀ w ∈ u_ws RX5 TX5 7, w ∈ wsX5_guessByParishes := fun w h => List.mem_cons_of_mem _ (us_inX5 w h)
theorem uhX5_guessByParishes : yX5_guessByParishes.cls ≠ "java/lang/invoke/MethodHandle" ∧ yX5_guessByParishes.cls ≠ "java/lang/invoke/VarHandle" ∧ (parseMethodDescriptor yX5_guessByParishes.desc).map (fun d => d.parameters.length) = some 1 := by decide +kernel
set_option maxHeartbeats 4000000 in
set_option maxRecDepth 100000 in
theorem uwX5_guessByParishes_74 {p : Program} {l : Launch} {e : Env} {s : State} {m : MethodId} {args : Array Value} {below : List Frame} {meth : Method} {c : Code} {Q : State → Prop} {D : va_G} {cI cT : ClassId} {A : Nat → Prop} (K : ub_kx p s m args meth c cX5_guessByParishes 10 RX5 wsX5_guessByParishes D cI cT A) {h0 h1 : Nat} {z0 : Nat} {z1 : Nat} {z2 : Nat} {z3 : Nat} {z4 : Nat} {ym_number : Int32} {ym_parish : (Nat → Int32)} {l1 : Int32} {l5 : Int32} {l7 : Int32} {l8 : Int32} {rr : Int32} {nx12 : Int32 → Int32 → Int32 → Int32 → Option (Int32)} (hret : ∀ (H : Heap) (locs : List Loc) (pc : Nat) (ls : Array Slot), decode cX5_guessByParishes pc = .ok (.ireturn, 1) → narrow .int (.int rr) = .int rr → va_P D vwCl (udX5_guessByParishes cI h0 h1 z0 z1 z2 z3 z4 ym_number ym_parish) H → va_D A (udX5_guessByParishes cI h0 h1 z0 z1 z2 z3 z4 ym_number ym_parish) → va_S A s.heap H locs → W p l e ({ frames := 2, cells := 0, slots := 0, locals := 44 } : Room) s m args below meth c H locs 0 0 Q (F0 m pc ls [.int rr])) (hnx12 : ∀ (l2 : Int32) (l3 : Int32) (l4 : Int32) (l5 : Int32), nx12 l2 l3 l4 l5 = some rr → ∀ (H : Heap) (locs : List Loc) (ls : Array Slot), lv_has ls 10 [(0, .ref h0), (1, .int l1), (2, .int l2), (3, .int l3), (4, .int l4), (5, .int l5)] → va_P D vwCl (udX5_guessByParishes cI h0 h1 z0 z1 z2 z3 z4 ym_number ym_parish) H → va_D A (udX5_guessByParishes cI h0 h1 z0 z1 z2 z3 z4 ym_number ym_parish) → va_S A s.heap H locs → W p l e ({ frames := 2, cells := 0, slots := 0, locals := 44 } : Room) s m args below meth c H locs 0 0 Q (F0 m 12 ls [])) (h : ujX5_guessByParishes_74 nx12 ym_number ym_parish l1 l5 l7 l8 = some rr) {H : Heap} {locs : List Loc} {ls : Array Slot} (hl : lv_has ls 10 [(0, .ref h0), (1, .int l1), (5, .int l5), (7, .int l7), (8, .int l8)]) (hP : va_P D vwCl (udX5_guessByParishes cI h0 h1 z0 z1 z2 z3 z4 ym_number ym_parish) H) (hD : va_D A (udX5_guessByParishes cI h0 h1 z0 z1 z2 z3 z4 ym_number ym_parish)) (hS : va_S A s.heap H locs) : W p l e ({ frames := 2, cells := 0, slots := 0, locals := 44 } : Room) s m args below meth c H locs 0 0 Q (F0 m 74 ls []) := by
  have K0 := K
  obtain ⟨hx, hb, hml, hown, hts, hK, hN, hA⟩ := K
  unfold ujX5_guessByParishes_74 at h
  refine lv_iload hx hb dX5_guessByParishes_74 (lv_at hl 2 rfl) ?_
  refine lv_istore_n (lv' := [(2, .int l5), (0, .ref h0), (1, .int l1), (5, .int l5), (7, .int l7), (8, .int l8)]) hx hb dX5_guessByParishes_76 rfl hl (by decide) rfl (fun ls hl => ?_)
  refine lv_iload hx hb dX5_guessByParishes_77 (lv_at hl 5 rfl) ?_
  refine lv_istore_n (lv' := [(3, .int l8), (2, .int l5), (0, .ref h0), (1, .int l1), (5, .int l5), (7, .int l7), (8, .int l8)]) hx hb dX5_guessByParishes_79 rfl hl (by decide) rfl (fun ls hl => ?_)
  refine lv_iload hx hb dX5_guessByParishes_80 (lv_at hl 5 rfl) ?_
  refine lv_istore (lv' := [(4, .int l7), (3, .int l8), (2, .int l5), (0, .ref h0), (1, .int l1), (5, .int l5), (7, .int l7), (8, .int l8)]) hx hb dX5_guessByParishes_82 hl (by decide) rfl (fun ls hl => ?_)
  refine lv_iinc (v := l5 + 1) (lv' := [(5, .int (l5 + 1)), (4, .int l7), (3, .int l8), (2, .int l5), (0, .ref h0), (1, .int l1), (7, .int l7), (8, .int l8)]) hx hb dX5_guessByParishes_84 hl (k := 5) rfl rfl (by decide) rfl (fun ls hl => ?_)
  refine lv_goto (tgt := 12) hx hb dX5_guessByParishes_87 (by decide) ?_
  exact hnx12 l5 l8 l7 (l5 + 1) h H locs ls (lv_sub hl [4, 5, 3, 2, 1, 0] rfl) hP hD hS
set_option maxHeartbeats 4000000 in
set_option maxRecDepth 100000 in
theorem uwX5_guessByParishes_12 {p : Program} {l : Launch} {e : Env} {s : State} {m : MethodId} {args : Array Value} {below : List Frame} {meth : Method} {c : Code} {Q : State → Prop} {D : va_G} {cI cT : ClassId} {A : Nat → Prop} (K : ub_kx p s m args meth c cX5_guessByParishes 10 RX5 wsX5_guessByParishes D cI cT A) {h0 h1 : Nat} {z0 : Nat} {z1 : Nat} {z2 : Nat} {z3 : Nat} {z4 : Nat} {ym_number : Int32} {ym_parish : (Nat → Int32)} {l1 : Int32} {rr : Int32} (hret : ∀ (H : Heap) (locs : List Loc) (pc : Nat) (ls : Array Slot), decode cX5_guessByParishes pc = .ok (.ireturn, 1) → narrow .int (.int rr) = .int rr → va_P D vwCl (udX5_guessByParishes cI h0 h1 z0 z1 z2 z3 z4 ym_number ym_parish) H → va_D A (udX5_guessByParishes cI h0 h1 z0 z1 z2 z3 z4 ym_number ym_parish) → va_S A s.heap H locs → W p l e ({ frames := 2, cells := 0, slots := 0, locals := 44 } : Room) s m args below meth c H locs 0 0 Q (F0 m pc ls [.int rr])) : ∀ (k : Nat) (l2 : Int32) (l3 : Int32) (l4 : Int32) (l5 : Int32), ulX5_guessByParishes_12 ym_number ym_parish l1 k l2 l3 l4 l5 = some rr → ∀ (H : Heap) (locs : List Loc) (ls : Array Slot), lv_has ls 10 [(0, .ref h0), (1, .int l1), (2, .int l2), (3, .int l3), (4, .int l4), (5, .int l5)] → va_P D vwCl (udX5_guessByParishes cI h0 h1 z0 z1 z2 z3 z4 ym_number ym_parish) H → va_D A (udX5_guessByParishes cI h0 h1 z0 z1 z2 z3 z4 ym_number ym_parish) → va_S A s.heap H locs → W p l e ({ frames := 2, cells := 0, slots := 0, locals := 44 } : Room) s m args below meth c H locs 0 0 Q (F0 m 12 ls []) := by
  have K0 := K
  obtain ⟨hx, hb, hml, hown, hts, hK, hN, hA⟩ := K
  intro k
  induction k with
  | zero =>
    intro l2 l3 l4 l5 h
    rw [ulX5_guessByParishes_12] at h
    cases h
  | succ k ih =>
    intro l2 l3 l4 l5 h H locs ls hl hP hD hS
    rw [ulX5_guessByParishes_12] at h
    refine lv_iload hx hb dX5_guessByParishes_12 (lv_at hl 5 rfl) ?_
    refine lv_iconst (v := 4) hx hb dX5_guessByParishes_14 (by decide) ?_
    refine lv_icmp_ge (tgt := 90) hx hb dX5_guessByParishes_15 (by decide) (fun c15 => ?_) (fun c15 => ?_)
    · have h := ub_if_t c15 h
      refine lv_iload_n hx hb dX5_guessByParishes_90 rfl (lv_at hl 2 rfl) ?_
      cases h
      exact hret H locs _ ls dX5_guessByParishes_91 rfl hP hD hS
    · have h := ub_if_f c15 h
      refine lv_iload_n hx hb dX5_guessByParishes_18 rfl (lv_at hl 1 rfl) ?_
      refine lv_if_eq (tgt := 90) hx hb dX5_guessByParishes_19 (by decide) (fun c19 => ?_) (fun c19 => ?_)
      · have h := ub_if_t c19 h
        refine lv_iload_n hx hb dX5_guessByParishes_90 rfl (lv_at hl 2 rfl) ?_
        cases h
        exact hret H locs _ ls dX5_guessByParishes_91 rfl hP hD hS
      · have h := ub_if_f c19 h
        refine lv_aload_n hx hb dX5_guessByParishes_22 rfl (lv_at hl 0 rfl) ?_
        refine lv_iload hx hb dX5_guessByParishes_23 (lv_at hl 5 rfl) ?_
        obtain ⟨x_1, hc25, h⟩ := ub_b1_some h
        have hPc : va_P D vwCl (udX5_setOf cI h0 h1 z0 z1 z2 z3 z4 ym_number ym_parish) H := ub_pickP hP [0, 1] rfl
        have hDc : va_D A (udX5_setOf cI h0 h1 z0 z1 z2 z3 z4 ym_number ym_parish) := hD.sub [0, 1] (by decide) rfl
        refine ub_calli (ws' := (udX5_guessByParishes cI h0 h1 z0 z1 z2 z3 z4 ym_number ym_parish)) (va_runV (As := [.int l5]) (rest := []) ⟨hx, hb, hml, hown, hts⟩ (ucX5_setOf l D cI cT hc25) (cwV 1 hts gX5_guessByParishes_X5_setOf rfl rfl rfl ⟨rfl, uhX5_setOf⟩ ⟨Nat.le_of_ble_eq_true rfl, Nat.le_of_ble_eq_true rfl⟩) (ub_preV hPc hDc hK hN 0 (ci := 7) rfl rfl rfl) rfl rfl hl.1 rfl (lv_room (Nat.le_of_ble_eq_true rfl)) dX5_guessByParishes_25 ⟨Nat.le_of_ble_eq_true rfl, Nat.le_of_ble_eq_true rfl⟩) hP hD hS hA [0, 1] rfl (by decide) rfl rfl (fun H locs hP hD hS => ?_)
        refine lv_istore (lv' := [(6, .int x_1), (0, .ref h0), (1, .int l1), (2, .int l2), (3, .int l3), (4, .int l4), (5, .int l5)]) hx hb dX5_guessByParishes_28 hl (by decide) rfl (fun ls hl => ?_)
        refine lv_iload hx hb dX5_guessByParishes_30 (lv_at hl 0 rfl) ?_
        obtain ⟨x_2, hc32, h⟩ := ub_b1_some h
        have hPc : va_P D vwCl (udJ6_bitCount_0f7a4 cI) H := ub_pickP hP [] rfl
        have hDc : va_D A (udJ6_bitCount_0f7a4 cI) := hD.sub [] (by decide) rfl
        refine ub_calli (ws' := (udX5_guessByParishes cI h0 h1 z0 z1 z2 z3 z4 ym_number ym_parish)) (va_runS (As := [.int x_1]) (rest := []) ⟨hx, hb, hml, hown, hts⟩ (ucJ6_bitCount_0f7a4 l D cI cT hc32) (va_cwS 1 hts gX5_guessByParishes_J6_bitCount_0f7a4 rfl rfl rfl uhJ6_bitCount_0f7a4 ⟨Nat.le_of_ble_eq_true rfl, Nat.le_of_ble_eq_true rfl⟩) (ub_preS hPc hDc hK hN) rfl rfl hl.1 rfl (lv_room (Nat.le_of_ble_eq_true rfl)) dX5_guessByParishes_32 ⟨Nat.le_of_ble_eq_true rfl, Nat.le_of_ble_eq_true rfl⟩) hP hD hS hA [] rfl (by decide) rfl rfl (fun H locs hP hD hS => ?_)
        refine lv_istore (lv' := [(7, .int x_2), (6, .int x_1), (0, .ref h0), (1, .int l1), (2, .int l2), (3, .int l3), (4, .int l4), (5, .int l5)]) hx hb dX5_guessByParishes_35 hl (by decide) rfl (fun ls hl => ?_)
        refine lv_iload hx hb dX5_guessByParishes_37 (lv_at hl 1 rfl) ?_
        refine lv_iload_n hx hb dX5_guessByParishes_39 rfl (lv_at hl 3 rfl) ?_
        refine lv_iand hx hb dX5_guessByParishes_40 ?_
        obtain ⟨x_3, hc41, h⟩ := ub_b1_some h
        have hPc : va_P D vwCl (udJ6_bitCount_0f7a4 cI) H := ub_pickP hP [] rfl
        have hDc : va_D A (udJ6_bitCount_0f7a4 cI) := hD.sub [] (by decide) rfl
        refine ub_calli (ws' := (udX5_guessByParishes cI h0 h1 z0 z1 z2 z3 z4 ym_number ym_parish)) (va_runS (As := [.int (x_1 &&& l1)]) (rest := []) ⟨hx, hb, hml, hown, hts⟩ (ucJ6_bitCount_0f7a4 l D cI cT hc41) (va_cwS 1 hts gX5_guessByParishes_J6_bitCount_0f7a4 rfl rfl rfl uhJ6_bitCount_0f7a4 ⟨Nat.le_of_ble_eq_true rfl, Nat.le_of_ble_eq_true rfl⟩) (ub_preS hPc hDc hK hN) rfl rfl hl.1 rfl (lv_room (Nat.le_of_ble_eq_true rfl)) dX5_guessByParishes_41 ⟨Nat.le_of_ble_eq_true rfl, Nat.le_of_ble_eq_true rfl⟩) hP hD hS hA [] rfl (by decide) rfl rfl (fun H locs hP hD hS => ?_)
        refine lv_istore (lv' := [(8, .int x_3), (7, .int x_2), (6, .int x_1), (0, .ref h0), (1, .int l1), (2, .int l2), (3, .int l3), (4, .int l4), (5, .int l5)]) hx hb dX5_guessByParishes_44 hl (by decide) rfl (fun ls hl => ?_)
        refine lv_iload hx hb dX5_guessByParishes_46 (lv_at hl 0 rfl) ?_
        refine lv_iload hx hb dX5_guessByParishes_48 (lv_at hl 7 rfl) ?_
        refine lv_imul hx hb dX5_guessByParishes_50 ?_
        refine lv_iload_n hx hb dX5_guessByParishes_51 rfl (lv_at hl 6 rfl) ?_
        refine lv_iload hx hb dX5_guessByParishes_52 (lv_at hl 1 rfl) ?_
        refine lv_imul hx hb dX5_guessByParishes_54 ?_
        refine lv_isub hx hb dX5_guessByParishes_55 ?_
        refine lv_istore (lv' := [(9, .int ((x_3 * l4) - (l3 * x_2))), (8, .int x_3), (7, .int x_2), (6, .int x_1), (0, .ref h0), (1, .int l1), (2, .int l2), (3, .int l3), (4, .int l4), (5, .int l5)]) hx hb dX5_guessByParishes_56 hl (by decide) rfl (fun ls hl => ?_)
        refine lv_iload hx hb dX5_guessByParishes_58 (lv_at hl 0 rfl) ?_
        refine lv_if_gt (tgt := 74) hx hb dX5_guessByParishes_60 (by decide) (fun c60 => ?_) (fun c60 => ?_)
        · have h := ub_if_t c60 h
          exact uwX5_guessByParishes_74 K0 hret ih h (lv_sub hl [4, 5, 9, 2, 1] rfl) hP hD hS
        · have h := ub_if_f c60 h
          refine lv_iload hx hb dX5_guessByParishes_63 (lv_at hl 0 rfl) ?_
          refine lv_if_ne (tgt := 84) hx hb dX5_guessByParishes_65 (by decide) (fun c65 => ?_) (fun c65 => ?_)
          · have h := ub_if_f c65 h
            refine lv_iinc (v := l5 + 1) (lv' := [(5, .int (l5 + 1)), (9, .int ((x_3 * l4) - (l3 * x_2))), (8, .int x_3), (7, .int x_2), (6, .int x_1), (0, .ref h0), (1, .int l1), (2, .int l2), (3, .int l3), (4, .int l4)]) hx hb dX5_guessByParishes_84 hl (k := 9) rfl rfl (by decide) rfl (fun ls hl => ?_)
            refine lv_goto (tgt := 12) hx hb dX5_guessByParishes_87 (by decide) ?_
            exact ih l2 l3 l4 (l5 + 1) h H locs ls (lv_sub hl [5, 6, 7, 8, 9, 0] rfl) hP hD hS
          · have h := ub_if_t c65 h
            refine lv_iload hx hb dX5_guessByParishes_68 (lv_at hl 1 rfl) ?_
            refine lv_iload_n hx hb dX5_guessByParishes_70 rfl (lv_at hl 7 rfl) ?_
            refine lv_icmp_le (tgt := 84) hx hb dX5_guessByParishes_71 (by decide) (fun c71 => ?_) (fun c71 => ?_)
            · have h := ub_if_t c71 h
              refine lv_iinc (v := l5 + 1) (lv' := [(5, .int (l5 + 1)), (9, .int ((x_3 * l4) - (l3 * x_2))), (8, .int x_3), (7, .int x_2), (6, .int x_1), (0, .ref h0), (1, .int l1), (2, .int l2), (3, .int l3), (4, .int l4)]) hx hb dX5_guessByParishes_84 hl (k := 9) rfl rfl (by decide) rfl (fun ls hl => ?_)
              refine lv_goto (tgt := 12) hx hb dX5_guessByParishes_87 (by decide) ?_
              exact ih l2 l3 l4 (l5 + 1) h H locs ls (lv_sub hl [5, 6, 7, 8, 9, 0] rfl) hP hD hS
            · have h := ub_if_f c71 h
              exact uwX5_guessByParishes_74 K0 hret ih h (lv_sub hl [4, 5, 9, 2, 1] rfl) hP hD hS
set_option maxHeartbeats 4000000 in
set_option maxRecDepth 100000 in
theorem uwX5_guessByParishes_E {p : Program} {l : Launch} {e : Env} {s : State} {m : MethodId} {args : Array Value} {below : List Frame} {meth : Method} {c : Code} {Q : State → Prop} {D : va_G} {cI cT : ClassId} {A : Nat → Prop} (K : ub_kx p s m args meth c cX5_guessByParishes 10 RX5 wsX5_guessByParishes D cI cT A) {h0 h1 : Nat} {z0 : Nat} {z1 : Nat} {z2 : Nat} {z3 : Nat} {z4 : Nat} {ym_number : Int32} {ym_parish : (Nat → Int32)} {l1 : Int32} {rr : Int32} (hret : ∀ (H : Heap) (locs : List Loc) (pc : Nat) (ls : Array Slot), decode cX5_guessByParishes pc = .ok (.ireturn, 1) → narrow .int (.int rr) = .int rr → va_P D vwCl (udX5_guessByParishes cI h0 h1 z0 z1 z2 z3 z4 ym_number ym_parish) H → va_D A (udX5_guessByParishes cI h0 h1 z0 z1 z2 z3 z4 ym_number ym_parish) → va_S A s.heap H locs → W p l e ({ frames := 2, cells := 0, slots := 0, locals := 44 } : Room) s m args below meth c H locs 0 0 Q (F0 m pc ls [.int rr])) (h : ufX5_guessByParishes ym_number ym_parish l1 = some rr) {H : Heap} {locs : List Loc} {ls : Array Slot} (hl : lv_has ls 10 [(0, .ref h0), (1, .int l1)]) (hP : va_P D vwCl (udX5_guessByParishes cI h0 h1 z0 z1 z2 z3 z4 ym_number ym_parish) H) (hD : va_D A (udX5_guessByParishes cI h0 h1 z0 z1 z2 z3 z4 ym_number ym_parish)) (hS : va_S A s.heap H locs) : W p l e ({ frames := 2, cells := 0, slots := 0, locals := 44 } : Room) s m args below meth c H locs 0 0 Q (F0 m 0 ls []) := by
  have K0 := K
  obtain ⟨hx, hb, hml, hown, hts, hK, hN, hA⟩ := K
  unfold ufX5_guessByParishes at h
  refine lv_sipush (v := (-1015)) hx hb dX5_guessByParishes_0 (by decide) ?_
  refine lv_istore_n (lv' := [(2, .int (-1015)), (0, .ref h0), (1, .int l1)]) hx hb dX5_guessByParishes_3 rfl hl (by decide) rfl (fun ls hl => ?_)
  refine lv_iconst (v := 0) hx hb dX5_guessByParishes_4 (by decide) ?_
  refine lv_istore_n (lv' := [(3, .int 0), (2, .int (-1015)), (0, .ref h0), (1, .int l1)]) hx hb dX5_guessByParishes_5 rfl hl (by decide) rfl (fun ls hl => ?_)
  refine lv_iconst (v := 1) hx hb dX5_guessByParishes_6 (by decide) ?_
  refine lv_istore (lv' := [(4, .int 1), (3, .int 0), (2, .int (-1015)), (0, .ref h0), (1, .int l1)]) hx hb dX5_guessByParishes_7 hl (by decide) rfl (fun ls hl => ?_)
  refine lv_iconst (v := 0) hx hb dX5_guessByParishes_9 (by decide) ?_
  refine lv_istore (lv' := [(5, .int 0), (4, .int 1), (3, .int 0), (2, .int (-1015)), (0, .ref h0), (1, .int l1)]) hx hb dX5_guessByParishes_10 hl (by decide) rfl (fun ls hl => ?_)
  exact uwX5_guessByParishes_12 K0 hret ub_F (-1015) 0 1 0 h H locs ls (lv_sub hl [4, 5, 3, 2, 1, 0] rfl) hP hD hS
set_option maxHeartbeats 4000000 in
set_option maxRecDepth 100000 in
theorem ucX5_guessByParishes (l : Launch) (D : va_G) (cI cT : ClassId) {h0 h1 : Nat} {z0 : Nat} {z1 : Nat} {z2 : Nat} {z3 : Nat} {z4 : Nat} {l1 : Int32} {rr : Int32} {ym_number : Int32} {ym_parish : (Nat → Int32)} {sz : Nat} (h : ufX5_guessByParishes ym_number ym_parish l1 = some rr) : Met l yX5_guessByParishes wsX5_guessByParishes ({ frames := 2, cells := 0, slots := 0, locals := 44 } : Room) (va_Pc [.ref h0, .int l1] (ub_pc D cI cT (udX5_guessByParishes cI h0 h1 z0 z1 z2 z3 z4 ym_number ym_parish) sz)) (va_Qi (fun (r' : Int32) (_ : Unit) => r' = rr) (fun _ t => ub_pq D (udX5_guessByParishes cI h0 h1 z0 z1 z2 z3 z4 ym_number ym_parish) (va_A (udX5_guessByParishes cI h0 h1 z0 z1 z2 z3 z4 ym_number ym_parish) sz) t) (va_A (udX5_guessByParishes cI h0 h1 z0 z1 z2 z3 z4 ym_number ym_parish) sz)) 0 0 (va_A (udX5_guessByParishes cI h0 h1 z0 z1 z2 z3 z4 ym_number ym_parish) sz) :=
  ub_met_i (by decide +kernel) rfl (Nat.le_of_ble_eq_true rfl) fun _ _ _ _ _ _ _ _ _ _ K hret _ hl hP hD hS => uwX5_guessByParishes_E K hret h hl hP hD hS
-- X5_neighbours
def udX5_neighbours (cI : ClassId) (h0 : Nat) (h1 : Nat) (z0 : Nat) (z1 : Nat) (z2 : Nat) (z3 : Nat) (z4 : Nat) (ym_number : Int32) (ym_parish : Nat → Int32) : va_W := [(h0, .inr (7, [.int ym_number, .ref h1, .ref z0, .ref z1, .ref z2, .ref z3, .ref z4])), (h1, .inl (cI, 12, .inl ym_parish))]
def ulX5_neighbours_5 (ym_number : Int32) (ym_parish : Nat → Int32) (l1 : Int32) (l2 : Int32) : Nat → Int32 → Int32 → Option (Int32)
  | 0, _, _ => none
  | k + 1, l3, l4 =>
    if ym_number ≤ l4 then
      some (l3)
    else
      ub_b1 (ufX8_isIn l2 l4) fun x_1 =>
      if x_1 = 0 then
        ulX5_neighbours_5 ym_number ym_parish l1 l2 k l3 (l4 + 1)
      else
        ub_b1 (ufX8_at 12 ym_parish l4) fun x_2 =>
        if x_2 = l1 then
          ulX5_neighbours_5 ym_number ym_parish l1 l2 k (l3 + 1) (l4 + 1)
        else
          ulX5_neighbours_5 ym_number ym_parish l1 l2 k l3 (l4 + 1)
def ufX5_neighbours (ym_number : Int32) (ym_parish : Nat → Int32) (l1 : Int32) (l2 : Int32) : Option (Int32) :=
  ulX5_neighbours_5 ym_number ym_parish l1 l2 ub_F 0 0
theorem uvX5_neighbours_1 : Cond.fieldLink RX5 30 "UnheardBells$Ropes" "number" "I" ∈ wsX5_neighbours := List.mem_cons_of_mem _ us_m81
theorem uvX5_neighbours_4 : Cond.initialized RX8 ∈ wsX5_neighbours := List.mem_cons_of_mem _ us_m40
theorem uvX5_neighbours_3 : Cond.static yX8_isIn ∈ wsX5_neighbours := List.mem_cons_of_mem _ us_m467
theorem uvX5_neighbours_2 : Cond.fieldLink RX5 9 "UnheardBells$Ropes" "parish" "[I" ∈ wsX5_neighbours := List.mem_cons_of_mem _ us_m83
theorem uvX5_neighbours_6 : Cond.static yX8_at ∈ wsX5_neighbours := List.mem_cons_of_mem _ us_m404
theorem uiX5_neighbours_X5 : ∀ w ∈ u_ws RX5 TX5 7, w ∈ wsX5_neighbours := fun w h => List.mem_cons_of_mem _ (us_inX5 w h)
theorem uhX5_neighbours : yX5_neighbours.cls ≠ "java/lang/invoke/MethodHandle" ∧ yX5_neighbours.cls ≠ "java/lang/invoke/VarHandle" ∧ (parseMethodDescriptor yX5_neighbours.desc).map (fun d => d.parameters.length) = some 2 := by decide +kernel
set_option maxHeartbeats 4000000 in
set_option maxRecDepth 100000 in
theorem uwX5_neighbours_5 {p : Program} {l : Launch} {e : Env} {s : State} {m : MethodId} {args : Array Value} {below : List Frame} {meth : Method} {c : Code} {Q : State → Prop} {D : va_G} {cI cT : ClassId} {A : Nat → Prop} (K : ub_kx p s m args meth c cX5_neighbours 5 RX5 wsX5_neighbours D cI cT A) {h0 h1 : Nat} {z0 : Nat} {z1 : Nat} {z2 : Nat} {z3 : Nat} {z4 : Nat} {ym_number : Int32} {ym_parish : (Nat → Int32)} {l1 : Int32} {l2 : Int32} {rr : Int32} (hret : ∀ (H : Heap) (locs : List Loc) (pc : Nat) (ls : Array Slot), decode cX5_neighbours pc = .ok (.ireturn, 1) → narrow .int (.int rr) = .int rr → va_P D vwCl (udX5_neighbours cI h0 h1 z0 z1 z2 z3 z4 ym_number ym_parish) H → va_D A (udX5_neighbours cI h0 h1 z0 z1 z2 z3 z4 ym_number ym_parish) → va_S A s.heap H locs → W p l e ({ frames := 1, cells := 0, slots := 0, locals := 21 } : Room) s m args below meth c H locs 0 0 Q (F0 m pc ls [.int rr])) : ∀ (k : Nat) (l3 : Int32) (l4 : Int32), ulX5_neighbours_5 ym_number ym_parish l1 l2 k l3 l4 = some rr → ∀ (H : Heap) (locs : List Loc) (ls : Array Slot), lv_has ls 5 [(0, .ref h0), (1, .int l1), (2, .int l2), (3, .int l3), (4, .int l4)] → va_P D vwCl (udX5_neighbours cI h0 h1 z0 z1 z2 z3 z4 ym_number ym_parish) H → va_D A (udX5_neighbours cI h0 h1 z0 z1 z2 z3 z4 ym_number ym_parish) → va_S A s.heap H locs → W p l e ({ frames := 1, cells := 0, slots := 0, locals := 21 } : Room) s m args below meth c H locs 0 0 Q (F0 m 5 ls []) := by
  have K0 := K
  obtain ⟨hx, hb, hml, hown, hts, hK, hN, hA⟩ := K
  intro k
  induction k with
  | zero =>
    intro l3 l4 h
    rw [ulX5_neighbours_5] at h
    cases h
  | succ k ih =>
    intro l3 l4 h H locs ls hl hP hD hS
    rw [ulX5_neighbours_5] at h
    refine lv_iload hx hb dX5_neighbours_5 (lv_at hl 4 rfl) ?_
    refine lv_aload_n hx hb dX5_neighbours_7 rfl (lv_at hl 0 rfl) ?_
    refine va_get (ci := 7) (v := .int ym_number) (C := RX5) (T := TX5) (N := 7) hx hb hts uiX5_neighbours_X5 hown hK hP 0 rfl rfl 0 (by decide) (hts _ uvX5_neighbours_1) (fun _ h9 => h9) rfl dX5_neighbours_8 ?_
    refine lv_icmp_ge (tgt := 45) hx hb dX5_neighbours_11 (by decide) (fun c11 => ?_) (fun c11 => ?_)
    · have h := ub_if_t c11 h
      refine lv_iload_n hx hb dX5_neighbours_45 rfl (lv_at hl 3 rfl) ?_
      cases h
      exact hret H locs _ ls dX5_neighbours_46 rfl hP hD hS
    · have h := ub_if_f c11 h
      refine lv_iload_n hx hb dX5_neighbours_14 rfl (lv_at hl 2 rfl) ?_
      refine lv_iload hx hb dX5_neighbours_15 (lv_at hl 4 rfl) ?_
      obtain ⟨x_1, hc17, h⟩ := ub_b1_some h
      have hPc : va_P D vwCl (udX8_isIn cI) H := ub_pickP hP [] rfl
      have hDc : va_D A (udX8_isIn cI) := hD.sub [] (by decide) rfl
      refine ub_calli (ws' := (udX5_neighbours cI h0 h1 z0 z1 z2 z3 z4 ym_number ym_parish)) (va_runSN (As := [.int l2, .int l4]) (rest := []) ⟨hx, hb, hml, hown, hts⟩ (ucX8_isIn l D cI cT hc17) ⟨va_cnB 2 hts gX5_neighbours_X8_isIn_n52 rfl rfl rfl (hN.at 30 rfl) (hts _ uvX5_neighbours_4) uhX8_isIn ⟨Nat.le_of_ble_eq_true rfl, Nat.le_of_ble_eq_true rfl⟩, (hts _ uvX5_neighbours_3), trivial⟩ (ub_preS hPc hDc hK hN) rfl rfl hl.1 rfl (lv_room (Nat.le_of_ble_eq_true rfl)) dX5_neighbours_17 ⟨Nat.le_of_ble_eq_true rfl, Nat.le_of_ble_eq_true rfl⟩) hP hD hS hA [] rfl (by decide) rfl rfl (fun H locs hP hD hS => ?_)
      refine lv_if_eq (tgt := 39) hx hb dX5_neighbours_20 (by decide) (fun c20 => ?_) (fun c20 => ?_)
      · have h := ub_if_t c20 h
        refine lv_iinc (v := l4 + 1) (lv' := [(4, .int (l4 + 1)), (0, .ref h0), (1, .int l1), (2, .int l2), (3, .int l3)]) hx hb dX5_neighbours_39 hl (k := 4) rfl rfl (by decide) rfl (fun ls hl => ?_)
        refine lv_goto (tgt := 5) hx hb dX5_neighbours_42 (by decide) ?_
        exact ih l3 (l4 + 1) h H locs ls (lv_sub hl [1, 2, 3, 4, 0] rfl) hP hD hS
      · have h := ub_if_f c20 h
        refine lv_aload_n hx hb dX5_neighbours_23 rfl (lv_at hl 0 rfl) ?_
        refine va_get (ci := 7) (v := .ref h1) (C := RX5) (T := TX5) (N := 7) hx hb hts uiX5_neighbours_X5 hown hK hP 0 rfl rfl 1 (by decide) (hts _ uvX5_neighbours_2) (fun _ h9 => h9) rfl dX5_neighbours_24 ?_
        refine lv_iload hx hb dX5_neighbours_27 (lv_at hl 4 rfl) ?_
        obtain ⟨x_2, hc29, h⟩ := ub_b1_some h
        have hPc : va_P D vwCl (udX8_at cI 12 h1 ym_parish) H := ub_pickP hP [1] rfl
        have hDc : va_D A (udX8_at cI 12 h1 ym_parish) := hD.sub [1] (by decide) rfl
        refine ub_calli (ws' := (udX5_neighbours cI h0 h1 z0 z1 z2 z3 z4 ym_number ym_parish)) (va_runSN (As := [.ref h1, .int l4]) (rest := []) ⟨hx, hb, hml, hown, hts⟩ (ucX8_at l D cI cT hc29) ⟨va_cnB 2 hts gX5_neighbours_X8_at_n42 rfl rfl rfl (hN.at 19 rfl) (hts _ uvX5_neighbours_4) uhX8_at ⟨Nat.le_of_ble_eq_true rfl, Nat.le_of_ble_eq_true rfl⟩, (hts _ uvX5_neighbours_6), trivial⟩ (ub_preS hPc hDc hK hN) rfl rfl hl.1 rfl (lv_room (Nat.le_of_ble_eq_true rfl)) dX5_neighbours_29 ⟨Nat.le_of_ble_eq_true rfl, Nat.le_of_ble_eq_true rfl⟩) hP hD hS hA [1] rfl (by decide) rfl rfl (fun H locs hP hD hS => ?_)
        refine lv_iload_n hx hb dX5_neighbours_32 rfl (lv_at hl 1 rfl) ?_
        refine lv_icmp_ne (tgt := 39) hx hb dX5_neighbours_33 (by decide) (fun c33 => ?_) (fun c33 => ?_)
        · have h := ub_if_f c33 h
          refine lv_iinc (v := l4 + 1) (lv' := [(4, .int (l4 + 1)), (0, .ref h0), (1, .int l1), (2, .int l2), (3, .int l3)]) hx hb dX5_neighbours_39 hl (k := 4) rfl rfl (by decide) rfl (fun ls hl => ?_)
          refine lv_goto (tgt := 5) hx hb dX5_neighbours_42 (by decide) ?_
          exact ih l3 (l4 + 1) h H locs ls (lv_sub hl [1, 2, 3, 4, 0] rfl) hP hD hS
        · have h := ub_if_t c33 h
          refine lv_iinc (v := l3 + 1) (lv' := [(3, .int (l3 + 1)), (0, .ref h0), (1, .int l1), (2, .int l2), (4, .int l4)]) hx hb dX5_neighbours_36 hl (k := 3) rfl rfl (by decide) rfl (fun ls hl => ?_)
          refine lv_iinc (v := l4 + 1) (lv' := [(4, .int (l4 + 1)), (3, .int (l3 + 1)), (0, .ref h0), (1, .int l1), (2, .int l2)]) hx hb dX5_neighbours_39 hl (k := 4) rfl rfl (by decide) rfl (fun ls hl => ?_)
          refine lv_goto (tgt := 5) hx hb dX5_neighbours_42 (by decide) ?_
          exact ih (l3 + 1) (l4 + 1) h H locs ls (lv_sub hl [2, 3, 4, 1, 0] rfl) hP hD hS
set_option maxHeartbeats 4000000 in
set_option maxRecDepth 100000 in
theorem uwX5_neighbours_E {p : Program} {l : Launch} {e : Env} {s : State} {m : MethodId} {args : Array Value} {below : List Frame} {meth : Method} {c : Code} {Q : State → Prop} {D : va_G} {cI cT : ClassId} {A : Nat → Prop} (K : ub_kx p s m args meth c cX5_neighbours 5 RX5 wsX5_neighbours D cI cT A) {h0 h1 : Nat} {z0 : Nat} {z1 : Nat} {z2 : Nat} {z3 : Nat} {z4 : Nat} {ym_number : Int32} {ym_parish : (Nat → Int32)} {l1 : Int32} {l2 : Int32} {rr : Int32} (hret : ∀ (H : Heap) (locs : List Loc) (pc : Nat) (ls : Array Slot), decode cX5_neighbours pc = .ok (.ireturn, 1) → narrow .int (.int rr) = .int rr → va_P D vwCl (udX5_neighbours cI h0 h1 z0 z1 z2 z3 z4 ym_number ym_parish) H → va_D A (udX5_neighbours cI h0 h1 z0 z1 z2 z3 z4 ym_number ym_parish) → va_S A s.heap H locs → W p l e ({ frames := 1, cells := 0, slots := 0, locals := 21 } : Room) s m args below meth c H locs 0 0 Q (F0 m pc ls [.int rr])) (h : ufX5_neighbours ym_number ym_parish l1 l2 = some rr) {H : Heap} {locs : List Loc} {ls : Array Slot} (hl : lv_has ls 5 [(0, .ref h0), (1, .int l1), (2, .int l2)]) (hP : va_P D vwCl (udX5_neighbours cI h0 h1 z0 z1 z2 z3 z4 ym_number ym_parish) H) (hD : va_D A (udX5_neighbours cI h0 h1 z0 z1 z2 z3 z4 ym_number ym_parish)) (hS : va_S A s.heap H locs) : W p l e ({ frames := 1, cells := 0, slots := 0, locals := 21 } : Room) s m args below meth c H locs 0 0 Q (F0 m 0 ls []) := by
  have K0 := K
  obtain ⟨hx, hb, hml, hown, hts, hK, hN, hA⟩ := K
  unfold ufX5_neighbours at h
  refine lv_iconst (v := 0) hx hb dX5_neighbours_0 (by decide) ?_
  refine lv_istore_n (lv' := [(3, .int 0), (0, .ref h0), (1, .int l1), (2, .int l2)]) hx hb dX5_neighbours_1 rfl hl (by decide) rfl (fun ls hl => ?_)
  refine lv_iconst (v := 0) hx hb dX5_neighbours_2 (by decide) ?_
  refine lv_istore (lv' := [(4, .int 0), (3, .int 0), (0, .ref h0), (1, .int l1), (2, .int l2)]) hx hb dX5_neighbours_3 hl (by decide) rfl (fun ls hl => ?_)
  exact uwX5_neighbours_5 K0 hret ub_F 0 0 h H locs ls (lv_sub hl [2, 3, 4, 1, 0] rfl) hP hD hS
set_option maxHeartbeats 4000000 in
set_option maxRecDepth 100000 in
theorem ucX5_neighbours (l : Launch) (D : va_G) (cI cT : ClassId) {h0 h1 : Nat} {z0 : Nat} {z1 : Nat} {z2 : Nat} {z3 : Nat} {z4 : Nat} {l1 : Int32} {l2 : Int32} {rr : Int32} {ym_number : Int32} {ym_parish : (Nat → Int32)} {sz : Nat} (h : ufX5_neighbours ym_number ym_parish l1 l2 = some rr) : Met l yX5_neighbours wsX5_neighbours ({ frames := 1, cells := 0, slots := 0, locals := 21 } : Room) (va_Pc [.ref h0, .int l1, .int l2] (ub_pc D cI cT (udX5_neighbours cI h0 h1 z0 z1 z2 z3 z4 ym_number ym_parish) sz)) (va_Qi (fun (r' : Int32) (_ : Unit) => r' = rr) (fun _ t => ub_pq D (udX5_neighbours cI h0 h1 z0 z1 z2 z3 z4 ym_number ym_parish) (va_A (udX5_neighbours cI h0 h1 z0 z1 z2 z3 z4 ym_number ym_parish) sz) t) (va_A (udX5_neighbours cI h0 h1 z0 z1 z2 z3 z4 ym_number ym_parish) sz)) 0 0 (va_A (udX5_neighbours cI h0 h1 z0 z1 z2 z3 z4 ym_number ym_parish) sz) :=
  ub_met_i (by decide +kernel) rfl (Nat.le_of_ble_eq_true rfl) fun _ _ _ _ _ _ _ _ _ _ K hret _ hl hP hD hS => uwX5_neighbours_E K hret h hl hP hD hS
-- X5_isGreaterShare
def udX5_isGreaterShare (cI : ClassId) (h0 : Nat) (h1 : Nat) (z0 : Nat) (z1 : Nat) (z2 : Nat) (z3 : Nat) (z4 : Nat) (ym_number : Int32) (ym_parish : Nat → Int32) : va_W := [(h0, .inr (7, [.int ym_number, .ref h1, .ref z0, .ref z1, .ref z2, .ref z3, .ref z4])), (h1, .inl (cI, 12, .inl ym_parish))]
def ufX5_isGreaterShare (ym_number : Int32) (ym_parish : Nat → Int32) (l1 : Int32) (l2 : Int32) (l3 : Int32) : Option (Int32) :=
  ub_b1 (ufX8_at 12 ym_parish l1) fun x_1 =>
  ub_b1 (ufX8_at 12 ym_parish l2) fun x_2 =>
  ub_b1 (ufX5_neighbours ym_number ym_parish x_1 l3) fun x_3 =>
  ub_b1 (ufX5_neighbours ym_number ym_parish x_2 l3) fun x_4 =>
  ub_b1 (ufX5_setOfAll ym_number) fun x_5 =>
  ub_b1 (ufX5_neighbours ym_number ym_parish x_2 x_5) fun x_6 =>
  ub_b1 (ufX5_setOfAll ym_number) fun x_7 =>
  ub_b1 (ufX5_neighbours ym_number ym_parish x_1 x_7) fun x_8 =>
  if (x_3 * x_6) = (x_4 * x_8) then
    if x_3 = x_4 then
      if x_2 ≤ x_1 then
        some (0)
      else
        some (1)
    else
      if x_3 ≤ x_4 then
        some (0)
      else
        some (1)
  else
    if (x_3 * x_6) ≤ (x_4 * x_8) then
      some (0)
    else
      some (1)
theorem uvX5_isGreaterShare_1 : Cond.fieldLink RX5 9 "UnheardBells$Ropes" "parish" "[I" ∈ wsX5_isGreaterShare := List.mem_cons_of_mem _ us_m83
theorem uvX5_isGreaterShare_3 : Cond.initialized RX8 ∈ wsX5_isGreaterShare := List.mem_cons_of_mem _ us_m40
theorem uvX5_isGreaterShare_2 : Cond.static yX8_at ∈ wsX5_isGreaterShare := List.mem_cons_of_mem _ us_m404
theorem uiX5_isGreaterShare_X5 : ∀ w ∈ u_ws RX5 TX5 7, w ∈ wsX5_isGreaterShare := fun w h => List.mem_cons_of_mem _ (us_inX5 w h)
theorem uhX5_isGreaterShare : yX5_isGreaterShare.cls ≠ "java/lang/invoke/MethodHandle" ∧ yX5_isGreaterShare.cls ≠ "java/lang/invoke/VarHandle" ∧ (parseMethodDescriptor yX5_isGreaterShare.desc).map (fun d => d.parameters.length) = some 3 := by decide +kernel
set_option maxHeartbeats 4000000 in
set_option maxRecDepth 100000 in
theorem uwX5_isGreaterShare_E {p : Program} {l : Launch} {e : Env} {s : State} {m : MethodId} {args : Array Value} {below : List Frame} {meth : Method} {c : Code} {Q : State → Prop} {D : va_G} {cI cT : ClassId} {A : Nat → Prop} (K : ub_kx p s m args meth c cX5_isGreaterShare 10 RX5 wsX5_isGreaterShare D cI cT A) {h0 h1 : Nat} {z0 : Nat} {z1 : Nat} {z2 : Nat} {z3 : Nat} {z4 : Nat} {ym_number : Int32} {ym_parish : (Nat → Int32)} {l1 : Int32} {l2 : Int32} {l3 : Int32} {rr : Int32} (hret : ∀ (H : Heap) (locs : List Loc) (pc : Nat) (ls : Array Slot), decode cX5_isGreaterShare pc = .ok (.ireturn, 1) → narrow .boolean (.int rr) = .int rr → va_P D vwCl (udX5_isGreaterShare cI h0 h1 z0 z1 z2 z3 z4 ym_number ym_parish) H → va_D A (udX5_isGreaterShare cI h0 h1 z0 z1 z2 z3 z4 ym_number ym_parish) → va_S A s.heap H locs → W p l e ({ frames := 2, cells := 0, slots := 0, locals := 45 } : Room) s m args below meth c H locs 0 0 Q (F0 m pc ls [.int rr])) (h : ufX5_isGreaterShare ym_number ym_parish l1 l2 l3 = some rr) {H : Heap} {locs : List Loc} {ls : Array Slot} (hl : lv_has ls 10 [(0, .ref h0), (1, .int l1), (2, .int l2), (3, .int l3)]) (hP : va_P D vwCl (udX5_isGreaterShare cI h0 h1 z0 z1 z2 z3 z4 ym_number ym_parish) H) (hD : va_D A (udX5_isGreaterShare cI h0 h1 z0 z1 z2 z3 z4 ym_number ym_parish)) (hS : va_S A s.heap H locs) : W p l e ({ frames := 2, cells := 0, slots := 0, locals := 45 } : Room) s m args below meth c H locs 0 0 Q (F0 m 0 ls []) := by
  have K0 := K
  obtain ⟨hx, hb, hml, hown, hts, hK, hN, hA⟩ := K
  unfold ufX5_isGreaterShare at h
  refine lv_aload_n hx hb dX5_isGreaterShare_0 rfl (lv_at hl 0 rfl) ?_
  refine va_get (ci := 7) (v := .ref h1) (C := RX5) (T := TX5) (N := 7) hx hb hts uiX5_isGreaterShare_X5 hown hK hP 0 rfl rfl 1 (by decide) (hts _ uvX5_isGreaterShare_1) (fun _ h9 => h9) rfl dX5_isGreaterShare_1 ?_
  refine lv_iload_n hx hb dX5_isGreaterShare_4 rfl (lv_at hl 1 rfl) ?_
  obtain ⟨x_1, hc5, h⟩ := ub_b1_some h
  have hPc : va_P D vwCl (udX8_at cI 12 h1 ym_parish) H := ub_pickP hP [1] rfl
  have hDc : va_D A (udX8_at cI 12 h1 ym_parish) := hD.sub [1] (by decide) rfl
  refine ub_calli (ws' := (udX5_isGreaterShare cI h0 h1 z0 z1 z2 z3 z4 ym_number ym_parish)) (va_runSN (As := [.ref h1, .int l1]) (rest := []) ⟨hx, hb, hml, hown, hts⟩ (ucX8_at l D cI cT hc5) ⟨va_cnB 2 hts gX5_isGreaterShare_X8_at_n42 rfl rfl rfl (hN.at 19 rfl) (hts _ uvX5_isGreaterShare_3) uhX8_at ⟨Nat.le_of_ble_eq_true rfl, Nat.le_of_ble_eq_true rfl⟩, (hts _ uvX5_isGreaterShare_2), trivial⟩ (ub_preS hPc hDc hK hN) rfl rfl hl.1 rfl (lv_room (Nat.le_of_ble_eq_true rfl)) dX5_isGreaterShare_5 ⟨Nat.le_of_ble_eq_true rfl, Nat.le_of_ble_eq_true rfl⟩) hP hD hS hA [1] rfl (by decide) rfl rfl (fun H locs hP hD hS => ?_)
  refine lv_istore (lv' := [(4, .int x_1), (0, .ref h0), (1, .int l1), (2, .int l2), (3, .int l3)]) hx hb dX5_isGreaterShare_8 hl (by decide) rfl (fun ls hl => ?_)
  refine lv_aload_n hx hb dX5_isGreaterShare_10 rfl (lv_at hl 1 rfl) ?_
  refine va_get (ci := 7) (v := .ref h1) (C := RX5) (T := TX5) (N := 7) hx hb hts uiX5_isGreaterShare_X5 hown hK hP 0 rfl rfl 1 (by decide) (hts _ uvX5_isGreaterShare_1) (fun _ h9 => h9) rfl dX5_isGreaterShare_11 ?_
  refine lv_iload_n hx hb dX5_isGreaterShare_14 rfl (lv_at hl 3 rfl) ?_
  obtain ⟨x_2, hc15, h⟩ := ub_b1_some h
  have hPc : va_P D vwCl (udX8_at cI 12 h1 ym_parish) H := ub_pickP hP [1] rfl
  have hDc : va_D A (udX8_at cI 12 h1 ym_parish) := hD.sub [1] (by decide) rfl
  refine ub_calli (ws' := (udX5_isGreaterShare cI h0 h1 z0 z1 z2 z3 z4 ym_number ym_parish)) (va_runSN (As := [.ref h1, .int l2]) (rest := []) ⟨hx, hb, hml, hown, hts⟩ (ucX8_at l D cI cT hc15) ⟨va_cnB 2 hts gX5_isGreaterShare_X8_at_n42 rfl rfl rfl (hN.at 19 rfl) (hts _ uvX5_isGreaterShare_3) uhX8_at ⟨Nat.le_of_ble_eq_true rfl, Nat.le_of_ble_eq_true rfl⟩, (hts _ uvX5_isGreaterShare_2), trivial⟩ (ub_preS hPc hDc hK hN) rfl rfl hl.1 rfl (lv_room (Nat.le_of_ble_eq_true rfl)) dX5_isGreaterShare_15 ⟨Nat.le_of_ble_eq_true rfl, Nat.le_of_ble_eq_true rfl⟩) hP hD hS hA [1] rfl (by decide) rfl rfl (fun H locs hP hD hS => ?_)
  refine lv_istore (lv' := [(5, .int x_2), (4, .int x_1), (0, .ref h0), (1, .int l1), (2, .int l2), (3, .int l3)]) hx hb dX5_isGreaterShare_18 hl (by decide) rfl (fun ls hl => ?_)
  refine lv_aload_n hx hb dX5_isGreaterShare_20 rfl (lv_at hl 2 rfl) ?_
  refine lv_iload hx hb dX5_isGreaterShare_21 (lv_at hl 1 rfl) ?_
  refine lv_iload_n hx hb dX5_isGreaterShare_23 rfl (lv_at hl 5 rfl) ?_
  obtain ⟨x_3, hc24, h⟩ := ub_b1_some h
  have hPc : va_P D vwCl (udX5_neighbours cI h0 h1 z0 z1 z2 z3 z4 ym_number ym_parish) H := ub_pickP hP [0, 1] rfl
  have hDc : va_D A (udX5_neighbours cI h0 h1 z0 z1 z2 z3 z4 ym_number ym_parish) := hD.sub [0, 1] (by decide) rfl
  refine ub_calli (ws' := (udX5_isGreaterShare cI h0 h1 z0 z1 z2 z3 z4 ym_number ym_parish)) (va_runV (As := [.int x_1, .int l3]) (rest := []) ⟨hx, hb, hml, hown, hts⟩ (ucX5_neighbours l D cI cT hc24) (cwV 2 hts gX5_isGreaterShare_X5_neighbours rfl rfl rfl ⟨rfl, uhX5_neighbours⟩ ⟨Nat.le_of_ble_eq_true rfl, Nat.le_of_ble_eq_true rfl⟩) (ub_preV hPc hDc hK hN 0 (ci := 7) rfl rfl rfl) rfl rfl hl.1 rfl (lv_room (Nat.le_of_ble_eq_true rfl)) dX5_isGreaterShare_24 ⟨Nat.le_of_ble_eq_true rfl, Nat.le_of_ble_eq_true rfl⟩) hP hD hS hA [0, 1] rfl (by decide) rfl rfl (fun H locs hP hD hS => ?_)
  refine lv_istore (lv' := [(6, .int x_3), (5, .int x_2), (4, .int x_1), (0, .ref h0), (1, .int l1), (2, .int l2), (3, .int l3)]) hx hb dX5_isGreaterShare_27 hl (by decide) rfl (fun ls hl => ?_)
  refine lv_aload_n hx hb dX5_isGreaterShare_29 rfl (lv_at hl 3 rfl) ?_
  refine lv_iload hx hb dX5_isGreaterShare_30 (lv_at hl 1 rfl) ?_
  refine lv_iload_n hx hb dX5_isGreaterShare_32 rfl (lv_at hl 6 rfl) ?_
  obtain ⟨x_4, hc33, h⟩ := ub_b1_some h
  have hPc : va_P D vwCl (udX5_neighbours cI h0 h1 z0 z1 z2 z3 z4 ym_number ym_parish) H := ub_pickP hP [0, 1] rfl
  have hDc : va_D A (udX5_neighbours cI h0 h1 z0 z1 z2 z3 z4 ym_number ym_parish) := hD.sub [0, 1] (by decide) rfl
  refine ub_calli (ws' := (udX5_isGreaterShare cI h0 h1 z0 z1 z2 z3 z4 ym_number ym_parish)) (va_runV (As := [.int x_2, .int l3]) (rest := []) ⟨hx, hb, hml, hown, hts⟩ (ucX5_neighbours l D cI cT hc33) (cwV 2 hts gX5_isGreaterShare_X5_neighbours rfl rfl rfl ⟨rfl, uhX5_neighbours⟩ ⟨Nat.le_of_ble_eq_true rfl, Nat.le_of_ble_eq_true rfl⟩) (ub_preV hPc hDc hK hN 0 (ci := 7) rfl rfl rfl) rfl rfl hl.1 rfl (lv_room (Nat.le_of_ble_eq_true rfl)) dX5_isGreaterShare_33 ⟨Nat.le_of_ble_eq_true rfl, Nat.le_of_ble_eq_true rfl⟩) hP hD hS hA [0, 1] rfl (by decide) rfl rfl (fun H locs hP hD hS => ?_)
  refine lv_istore (lv' := [(7, .int x_4), (6, .int x_3), (5, .int x_2), (4, .int x_1), (0, .ref h0), (1, .int l1), (2, .int l2), (3, .int l3)]) hx hb dX5_isGreaterShare_36 hl (by decide) rfl (fun ls hl => ?_)
  refine lv_iload hx hb dX5_isGreaterShare_38 (lv_at hl 1 rfl) ?_
  refine lv_aload_n hx hb dX5_isGreaterShare_40 rfl (lv_at hl 4 rfl) ?_
  refine lv_iload hx hb dX5_isGreaterShare_41 (lv_at hl 2 rfl) ?_
  refine lv_aload_n hx hb dX5_isGreaterShare_43 rfl (lv_at hl 4 rfl) ?_
  obtain ⟨x_5, hc44, h⟩ := ub_b1_some h
  have hPc : va_P D vwCl (udX5_setOfAll cI h0 h1 z0 z1 z2 z3 z4 ym_number) H := ub_pickP hP [0] rfl
  have hDc : va_D A (udX5_setOfAll cI h0 h1 z0 z1 z2 z3 z4 ym_number) := hD.sub [0] (by decide) rfl
  refine ub_calli (ws' := (udX5_isGreaterShare cI h0 h1 z0 z1 z2 z3 z4 ym_number ym_parish)) (va_runV (As := []) (rest := [.int x_2, .ref h0, .int x_3]) ⟨hx, hb, hml, hown, hts⟩ (ucX5_setOfAll l D cI cT hc44) (cwV 0 hts gX5_isGreaterShare_X5_setOfAll rfl rfl rfl ⟨rfl, uhX5_setOfAll⟩ ⟨Nat.le_of_ble_eq_true rfl, Nat.le_of_ble_eq_true rfl⟩) (ub_preV hPc hDc hK hN 0 (ci := 7) rfl rfl rfl) rfl rfl hl.1 rfl (lv_room (Nat.le_of_ble_eq_true rfl)) dX5_isGreaterShare_44 ⟨Nat.le_of_ble_eq_true rfl, Nat.le_of_ble_eq_true rfl⟩) hP hD hS hA [0] rfl (by decide) rfl rfl (fun H locs hP hD hS => ?_)
  obtain ⟨x_6, hc47, h⟩ := ub_b1_some h
  have hPc : va_P D vwCl (udX5_neighbours cI h0 h1 z0 z1 z2 z3 z4 ym_number ym_parish) H := ub_pickP hP [0, 1] rfl
  have hDc : va_D A (udX5_neighbours cI h0 h1 z0 z1 z2 z3 z4 ym_number ym_parish) := hD.sub [0, 1] (by decide) rfl
  refine ub_calli (ws' := (udX5_isGreaterShare cI h0 h1 z0 z1 z2 z3 z4 ym_number ym_parish)) (va_runV (As := [.int x_2, .int x_5]) (rest := [.int x_3]) ⟨hx, hb, hml, hown, hts⟩ (ucX5_neighbours l D cI cT hc47) (cwV 2 hts gX5_isGreaterShare_X5_neighbours rfl rfl rfl ⟨rfl, uhX5_neighbours⟩ ⟨Nat.le_of_ble_eq_true rfl, Nat.le_of_ble_eq_true rfl⟩) (ub_preV hPc hDc hK hN 0 (ci := 7) rfl rfl rfl) rfl rfl hl.1 rfl (lv_room (Nat.le_of_ble_eq_true rfl)) dX5_isGreaterShare_47 ⟨Nat.le_of_ble_eq_true rfl, Nat.le_of_ble_eq_true rfl⟩) hP hD hS hA [0, 1] rfl (by decide) rfl rfl (fun H locs hP hD hS => ?_)
  refine lv_imul hx hb dX5_isGreaterShare_50 ?_
  refine lv_istore (lv' := [(8, .int (x_3 * x_6)), (7, .int x_4), (6, .int x_3), (5, .int x_2), (4, .int x_1), (0, .ref h0), (1, .int l1), (2, .int l2), (3, .int l3)]) hx hb dX5_isGreaterShare_51 hl (by decide) rfl (fun ls hl => ?_)
  refine lv_iload hx hb dX5_isGreaterShare_53 (lv_at hl 1 rfl) ?_
  refine lv_aload_n hx hb dX5_isGreaterShare_55 rfl (lv_at hl 5 rfl) ?_
  refine lv_iload hx hb dX5_isGreaterShare_56 (lv_at hl 4 rfl) ?_
  refine lv_aload_n hx hb dX5_isGreaterShare_58 rfl (lv_at hl 5 rfl) ?_
  obtain ⟨x_7, hc59, h⟩ := ub_b1_some h
  have hPc : va_P D vwCl (udX5_setOfAll cI h0 h1 z0 z1 z2 z3 z4 ym_number) H := ub_pickP hP [0] rfl
  have hDc : va_D A (udX5_setOfAll cI h0 h1 z0 z1 z2 z3 z4 ym_number) := hD.sub [0] (by decide) rfl
  refine ub_calli (ws' := (udX5_isGreaterShare cI h0 h1 z0 z1 z2 z3 z4 ym_number ym_parish)) (va_runV (As := []) (rest := [.int x_1, .ref h0, .int x_4]) ⟨hx, hb, hml, hown, hts⟩ (ucX5_setOfAll l D cI cT hc59) (cwV 0 hts gX5_isGreaterShare_X5_setOfAll rfl rfl rfl ⟨rfl, uhX5_setOfAll⟩ ⟨Nat.le_of_ble_eq_true rfl, Nat.le_of_ble_eq_true rfl⟩) (ub_preV hPc hDc hK hN 0 (ci := 7) rfl rfl rfl) rfl rfl hl.1 rfl (lv_room (Nat.le_of_ble_eq_true rfl)) dX5_isGreaterShare_59 ⟨Nat.le_of_ble_eq_true rfl, Nat.le_of_ble_eq_true rfl⟩) hP hD hS hA [0] rfl (by decide) rfl rfl (fun H locs hP hD hS => ?_)
  obtain ⟨x_8, hc62, h⟩ := ub_b1_some h
  have hPc : va_P D vwCl (udX5_neighbours cI h0 h1 z0 z1 z2 z3 z4 ym_number ym_parish) H := ub_pickP hP [0, 1] rfl
  have hDc : va_D A (udX5_neighbours cI h0 h1 z0 z1 z2 z3 z4 ym_number ym_parish) := hD.sub [0, 1] (by decide) rfl
  refine ub_calli (ws' := (udX5_isGreaterShare cI h0 h1 z0 z1 z2 z3 z4 ym_number ym_parish)) (va_runV (As := [.int x_1, .int x_7]) (rest := [.int x_4]) ⟨hx, hb, hml, hown, hts⟩ (ucX5_neighbours l D cI cT hc62) (cwV 2 hts gX5_isGreaterShare_X5_neighbours rfl rfl rfl ⟨rfl, uhX5_neighbours⟩ ⟨Nat.le_of_ble_eq_true rfl, Nat.le_of_ble_eq_true rfl⟩) (ub_preV hPc hDc hK hN 0 (ci := 7) rfl rfl rfl) rfl rfl hl.1 rfl (lv_room (Nat.le_of_ble_eq_true rfl)) dX5_isGreaterShare_62 ⟨Nat.le_of_ble_eq_true rfl, Nat.le_of_ble_eq_true rfl⟩) hP hD hS hA [0, 1] rfl (by decide) rfl rfl (fun H locs hP hD hS => ?_)
  refine lv_imul hx hb dX5_isGreaterShare_65 ?_
  refine lv_istore (lv' := [(9, .int (x_4 * x_8)), (8, .int (x_3 * x_6)), (7, .int x_4), (6, .int x_3), (5, .int x_2), (4, .int x_1), (0, .ref h0), (1, .int l1), (2, .int l2), (3, .int l3)]) hx hb dX5_isGreaterShare_66 hl (by decide) rfl (fun ls hl => ?_)
  refine lv_iload hx hb dX5_isGreaterShare_68 (lv_at hl 1 rfl) ?_
  refine lv_iload hx hb dX5_isGreaterShare_70 (lv_at hl 0 rfl) ?_
  refine lv_icmp_eq (tgt := 88) hx hb dX5_isGreaterShare_72 (by decide) (fun c72 => ?_) (fun c72 => ?_)
  · have h := ub_if_t c72 h
    refine lv_iload hx hb dX5_isGreaterShare_88 (lv_at hl 3 rfl) ?_
    refine lv_iload hx hb dX5_isGreaterShare_90 (lv_at hl 2 rfl) ?_
    refine lv_icmp_eq (tgt := 108) hx hb dX5_isGreaterShare_92 (by decide) (fun c92 => ?_) (fun c92 => ?_)
    · have h := ub_if_t c92 h
      refine lv_iload hx hb dX5_isGreaterShare_108 (lv_at hl 5 rfl) ?_
      refine lv_iload hx hb dX5_isGreaterShare_110 (lv_at hl 4 rfl) ?_
      refine lv_icmp_ge (tgt := 119) hx hb dX5_isGreaterShare_112 (by decide) (fun c112 => ?_) (fun c112 => ?_)
      · have h := ub_if_t c112 h
        refine lv_iconst (v := 0) hx hb dX5_isGreaterShare_119 (by decide) ?_
        cases h
        exact hret H locs _ ls dX5_isGreaterShare_120 rfl hP hD hS
      · have h := ub_if_f c112 h
        refine lv_iconst (v := 1) hx hb dX5_isGreaterShare_115 (by decide) ?_
        refine lv_goto (tgt := 120) hx hb dX5_isGreaterShare_116 (by decide) ?_
        cases h
        exact hret H locs _ ls dX5_isGreaterShare_120 rfl hP hD hS
    · have h := ub_if_f c92 h
      refine lv_iload hx hb dX5_isGreaterShare_95 (lv_at hl 3 rfl) ?_
      refine lv_iload hx hb dX5_isGreaterShare_97 (lv_at hl 2 rfl) ?_
      refine lv_icmp_le (tgt := 106) hx hb dX5_isGreaterShare_99 (by decide) (fun c99 => ?_) (fun c99 => ?_)
      · have h := ub_if_t c99 h
        refine lv_iconst (v := 0) hx hb dX5_isGreaterShare_106 (by decide) ?_
        cases h
        exact hret H locs _ ls dX5_isGreaterShare_107 rfl hP hD hS
      · have h := ub_if_f c99 h
        refine lv_iconst (v := 1) hx hb dX5_isGreaterShare_102 (by decide) ?_
        refine lv_goto (tgt := 107) hx hb dX5_isGreaterShare_103 (by decide) ?_
        cases h
        exact hret H locs _ ls dX5_isGreaterShare_107 rfl hP hD hS
  · have h := ub_if_f c72 h
    refine lv_iload hx hb dX5_isGreaterShare_75 (lv_at hl 1 rfl) ?_
    refine lv_iload hx hb dX5_isGreaterShare_77 (lv_at hl 0 rfl) ?_
    refine lv_icmp_le (tgt := 86) hx hb dX5_isGreaterShare_79 (by decide) (fun c79 => ?_) (fun c79 => ?_)
    · have h := ub_if_t c79 h
      refine lv_iconst (v := 0) hx hb dX5_isGreaterShare_86 (by decide) ?_
      cases h
      exact hret H locs _ ls dX5_isGreaterShare_87 rfl hP hD hS
    · have h := ub_if_f c79 h
      refine lv_iconst (v := 1) hx hb dX5_isGreaterShare_82 (by decide) ?_
      refine lv_goto (tgt := 87) hx hb dX5_isGreaterShare_83 (by decide) ?_
      cases h
      exact hret H locs _ ls dX5_isGreaterShare_87 rfl hP hD hS
set_option maxHeartbeats 4000000 in
set_option maxRecDepth 100000 in
theorem ucX5_isGreaterShare (l : Launch) (D : va_G) (cI cT : ClassId) {h0 h1 : Nat} {z0 : Nat} {z1 : Nat} {z2 : Nat} {z3 : Nat} {z4 : Nat} {l1 : Int32} {l2 : Int32} {l3 : Int32} {rr : Int32} {ym_number : Int32} {ym_parish : (Nat → Int32)} {sz : Nat} (h : ufX5_isGreaterShare ym_number ym_parish l1 l2 l3 = some rr) : Met l yX5_isGreaterShare wsX5_isGreaterShare ({ frames := 2, cells := 0, slots := 0, locals := 45 } : Room) (va_Pc [.ref h0, .int l1, .int l2, .int l3] (ub_pc D cI cT (udX5_isGreaterShare cI h0 h1 z0 z1 z2 z3 z4 ym_number ym_parish) sz)) (va_Qi (fun (r' : Int32) (_ : Unit) => r' = rr) (fun _ t => ub_pq D (udX5_isGreaterShare cI h0 h1 z0 z1 z2 z3 z4 ym_number ym_parish) (va_A (udX5_isGreaterShare cI h0 h1 z0 z1 z2 z3 z4 ym_number ym_parish) sz) t) (va_A (udX5_isGreaterShare cI h0 h1 z0 z1 z2 z3 z4 ym_number ym_parish) sz)) 0 0 (va_A (udX5_isGreaterShare cI h0 h1 z0 z1 z2 z3 z4 ym_number ym_parish) sz) :=
  ub_met_i (by decide +kernel) rfl (Nat.le_of_ble_eq_true rfl) fun _ _ _ _ _ _ _ _ _ _ K hret _ hl hP hD hS => uwX5_isGreaterShare_E K hret h hl hP hD hS
-- X5_guessByRopes
def udX5_guessByRopes (cI : ClassId) (h0 : Nat) (h1 : Nat) (z0 : Nat) (z1 : Nat) (z2 : Nat) (z3 : Nat) (z4 : Nat) (ym_number : Int32) (ym_parish : Nat → Int32) : va_W := [(h0, .inr (7, [.int ym_number, .ref h1, .ref z0, .ref z1, .ref z2, .ref z3, .ref z4])), (h1, .inl (cI, 12, .inl ym_parish))]
def ulX5_guessByRopes_6 (ym_number : Int32) (ym_parish : Nat → Int32) (l1 : Int32) : Nat → Int32 → Int32 → Option (Int32)
  | 0, _, _ => none
  | k + 1, l2, l3 =>
    if ym_number ≤ l3 then
      if l2 = (-1011) then
        some ((-1015))
      else
        ub_b1 (ufX8_at 12 ym_parish l2) fun x_1 =>
        some (x_1)
    else
      ub_b1 (ufX8_isIn l1 l3) fun x_2 =>
      if x_2 = 0 then
        ulX5_guessByRopes_6 ym_number ym_parish l1 k l2 (l3 + 1)
      else
        if l2 = (-1011) then
          ulX5_guessByRopes_6 ym_number ym_parish l1 k l3 (l3 + 1)
        else
          ub_b1 (ufX5_isGreaterShare ym_number ym_parish l3 l2 l1) fun x_3 =>
          if x_3 = 0 then
            ulX5_guessByRopes_6 ym_number ym_parish l1 k l2 (l3 + 1)
          else
            ulX5_guessByRopes_6 ym_number ym_parish l1 k l3 (l3 + 1)
def ufX5_guessByRopes (ym_number : Int32) (ym_parish : Nat → Int32) (l1 : Int32) : Option (Int32) :=
  ulX5_guessByRopes_6 ym_number ym_parish l1 ub_F (-1011) 0
theorem uvX5_guessByRopes_1 : Cond.fieldLink RX5 30 "UnheardBells$Ropes" "number" "I" ∈ wsX5_guessByRopes := List.mem_cons_of_mem _ us_m81
theorem uvX5_guessByRopes_2 : Cond.fieldLink RX5 9 "UnheardBells$Ropes" "parish" "[I" ∈ wsX5_guessByRopes := List.mem_cons_of_mem _ us_m83
theorem uvX5_guessByRopes_4 : Cond.initialized RX8 ∈ wsX5_guessByRopes := List.mem_cons_of_mem _ us_m40
theorem uvX5_guessByRopes_11 : Cond.static yX8_at ∈ wsX5_guessByRopes := List.mem_cons_of_mem _ us_m404
theorem uvX5_guessByRopes_3 : Cond.static yX8_isIn ∈ wsX5_guessByRopes := List.mem_cons_of_mem _ us_m467
theorem uiX5_guessByRopes_X5 : ∀ w ∈ u_ws RX5 TX5 7, w ∈ wsX5_guessByRopes := fun w h => List.mem_cons_of_mem _ (us_inX5 w h)
theorem uhX5_guessByRopes : yX5_guessByRopes.cls ≠ "java/lang/invoke/MethodHandle" ∧ yX5_guessByRopes.cls ≠ "java/lang/invoke/VarHandle" ∧ (parseMethodDescriptor yX5_guessByRopes.desc).map (fun d => d.parameters.length) = some 1 := by decide +kernel
set_option maxHeartbeats 4000000 in
set_option maxRecDepth 100000 in
theorem uwX5_guessByRopes_6 {p : Program} {l : Launch} {e : Env} {s : State} {m : MethodId} {args : Array Value} {below : List Frame} {meth : Method} {c : Code} {Q : State → Prop} {D : va_G} {cI cT : ClassId} {A : Nat → Prop} (K : ub_kx p s m args meth c cX5_guessByRopes 4 RX5 wsX5_guessByRopes D cI cT A) {h0 h1 : Nat} {z0 : Nat} {z1 : Nat} {z2 : Nat} {z3 : Nat} {z4 : Nat} {ym_number : Int32} {ym_parish : (Nat → Int32)} {l1 : Int32} {rr : Int32} (hret : ∀ (H : Heap) (locs : List Loc) (pc : Nat) (ls : Array Slot), decode cX5_guessByRopes pc = .ok (.ireturn, 1) → narrow .int (.int rr) = .int rr → va_P D vwCl (udX5_guessByRopes cI h0 h1 z0 z1 z2 z3 z4 ym_number ym_parish) H → va_D A (udX5_guessByRopes cI h0 h1 z0 z1 z2 z3 z4 ym_number ym_parish) → va_S A s.heap H locs → W p l e ({ frames := 3, cells := 0, slots := 0, locals := 74 } : Room) s m args below meth c H locs 0 0 Q (F0 m pc ls [.int rr])) : ∀ (k : Nat) (l2 : Int32) (l3 : Int32), ulX5_guessByRopes_6 ym_number ym_parish l1 k l2 l3 = some rr → ∀ (H : Heap) (locs : List Loc) (ls : Array Slot), lv_has ls 4 [(0, .ref h0), (1, .int l1), (2, .int l2), (3, .int l3)] → va_P D vwCl (udX5_guessByRopes cI h0 h1 z0 z1 z2 z3 z4 ym_number ym_parish) H → va_D A (udX5_guessByRopes cI h0 h1 z0 z1 z2 z3 z4 ym_number ym_parish) → va_S A s.heap H locs → W p l e ({ frames := 3, cells := 0, slots := 0, locals := 74 } : Room) s m args below meth c H locs 0 0 Q (F0 m 6 ls []) := by
  have K0 := K
  obtain ⟨hx, hb, hml, hown, hts, hK, hN, hA⟩ := K
  intro k
  induction k with
  | zero =>
    intro l2 l3 h
    rw [ulX5_guessByRopes_6] at h
    cases h
  | succ k ih =>
    intro l2 l3 h H locs ls hl hP hD hS
    rw [ulX5_guessByRopes_6] at h
    refine lv_iload_n hx hb dX5_guessByRopes_6 rfl (lv_at hl 3 rfl) ?_
    refine lv_aload_n hx hb dX5_guessByRopes_7 rfl (lv_at hl 0 rfl) ?_
    refine va_get (ci := 7) (v := .int ym_number) (C := RX5) (T := TX5) (N := 7) hx hb hts uiX5_guessByRopes_X5 hown hK hP 0 rfl rfl 0 (by decide) (hts _ uvX5_guessByRopes_1) (fun _ h9 => h9) rfl dX5_guessByRopes_8 ?_
    refine lv_icmp_ge (tgt := 47) hx hb dX5_guessByRopes_11 (by decide) (fun c11 => ?_) (fun c11 => ?_)
    · have h := ub_if_t c11 h
      refine lv_iload_n hx hb dX5_guessByRopes_47 rfl (lv_at hl 2 rfl) ?_
      refine lv_sipush (v := (-1011)) hx hb dX5_guessByRopes_48 (by decide) ?_
      refine lv_icmp_ne (tgt := 60) hx hb dX5_guessByRopes_51 (by decide) (fun c51 => ?_) (fun c51 => ?_)
      · have h := ub_if_f c51 h
        refine lv_aload_n hx hb dX5_guessByRopes_60 rfl (lv_at hl 0 rfl) ?_
        refine va_get (ci := 7) (v := .ref h1) (C := RX5) (T := TX5) (N := 7) hx hb hts uiX5_guessByRopes_X5 hown hK hP 0 rfl rfl 1 (by decide) (hts _ uvX5_guessByRopes_2) (fun _ h9 => h9) rfl dX5_guessByRopes_61 ?_
        refine lv_iload_n hx hb dX5_guessByRopes_64 rfl (lv_at hl 2 rfl) ?_
        obtain ⟨x_1, hc65, h⟩ := ub_b1_some h
        have hPc : va_P D vwCl (udX8_at cI 12 h1 ym_parish) H := ub_pickP hP [1] rfl
        have hDc : va_D A (udX8_at cI 12 h1 ym_parish) := hD.sub [1] (by decide) rfl
        refine ub_calli (ws' := (udX5_guessByRopes cI h0 h1 z0 z1 z2 z3 z4 ym_number ym_parish)) (va_runSN (As := [.ref h1, .int l2]) (rest := []) ⟨hx, hb, hml, hown, hts⟩ (ucX8_at l D cI cT hc65) ⟨va_cnB 2 hts gX5_guessByRopes_X8_at_n42 rfl rfl rfl (hN.at 19 rfl) (hts _ uvX5_guessByRopes_4) uhX8_at ⟨Nat.le_of_ble_eq_true rfl, Nat.le_of_ble_eq_true rfl⟩, (hts _ uvX5_guessByRopes_11), trivial⟩ (ub_preS hPc hDc hK hN) rfl rfl hl.1 rfl (lv_room (Nat.le_of_ble_eq_true rfl)) dX5_guessByRopes_65 ⟨Nat.le_of_ble_eq_true rfl, Nat.le_of_ble_eq_true rfl⟩) hP hD hS hA [1] rfl (by decide) rfl rfl (fun H locs hP hD hS => ?_)
        cases h
        exact hret H locs _ ls dX5_guessByRopes_68 rfl hP hD hS
      · have h := ub_if_t c51 h
        refine lv_sipush (v := (-1015)) hx hb dX5_guessByRopes_54 (by decide) ?_
        refine lv_goto (tgt := 68) hx hb dX5_guessByRopes_57 (by decide) ?_
        cases h
        exact hret H locs _ ls dX5_guessByRopes_68 rfl hP hD hS
    · have h := ub_if_f c11 h
      refine lv_iload_n hx hb dX5_guessByRopes_14 rfl (lv_at hl 1 rfl) ?_
      refine lv_iload_n hx hb dX5_guessByRopes_15 rfl (lv_at hl 3 rfl) ?_
      obtain ⟨x_2, hc16, h⟩ := ub_b1_some h
      have hPc : va_P D vwCl (udX8_isIn cI) H := ub_pickP hP [] rfl
      have hDc : va_D A (udX8_isIn cI) := hD.sub [] (by decide) rfl
      refine ub_calli (ws' := (udX5_guessByRopes cI h0 h1 z0 z1 z2 z3 z4 ym_number ym_parish)) (va_runSN (As := [.int l1, .int l3]) (rest := []) ⟨hx, hb, hml, hown, hts⟩ (ucX8_isIn l D cI cT hc16) ⟨va_cnB 2 hts gX5_guessByRopes_X8_isIn_n52 rfl rfl rfl (hN.at 30 rfl) (hts _ uvX5_guessByRopes_4) uhX8_isIn ⟨Nat.le_of_ble_eq_true rfl, Nat.le_of_ble_eq_true rfl⟩, (hts _ uvX5_guessByRopes_3), trivial⟩ (ub_preS hPc hDc hK hN) rfl rfl hl.1 rfl (lv_room (Nat.le_of_ble_eq_true rfl)) dX5_guessByRopes_16 ⟨Nat.le_of_ble_eq_true rfl, Nat.le_of_ble_eq_true rfl⟩) hP hD hS hA [] rfl (by decide) rfl rfl (fun H locs hP hD hS => ?_)
      refine lv_if_eq (tgt := 41) hx hb dX5_guessByRopes_19 (by decide) (fun c19 => ?_) (fun c19 => ?_)
      · have h := ub_if_t c19 h
        refine lv_iinc (v := l3 + 1) (lv' := [(3, .int (l3 + 1)), (0, .ref h0), (1, .int l1), (2, .int l2)]) hx hb dX5_guessByRopes_41 hl (k := 3) rfl rfl (by decide) rfl (fun ls hl => ?_)
        refine lv_goto (tgt := 6) hx hb dX5_guessByRopes_44 (by decide) ?_
        exact ih l2 (l3 + 1) h H locs ls (lv_sub hl [1, 2, 3, 0] rfl) hP hD hS
      · have h := ub_if_f c19 h
        refine lv_iload_n hx hb dX5_guessByRopes_22 rfl (lv_at hl 2 rfl) ?_
        refine lv_sipush (v := (-1011)) hx hb dX5_guessByRopes_23 (by decide) ?_
        refine lv_icmp_eq (tgt := 39) hx hb dX5_guessByRopes_26 (by decide) (fun c26 => ?_) (fun c26 => ?_)
        · have h := ub_if_t c26 h
          refine lv_iload_n hx hb dX5_guessByRopes_39 rfl (lv_at hl 3 rfl) ?_
          refine lv_istore_n (lv' := [(2, .int l3), (0, .ref h0), (1, .int l1), (3, .int l3)]) hx hb dX5_guessByRopes_40 rfl hl (by decide) rfl (fun ls hl => ?_)
          refine lv_iinc (v := l3 + 1) (lv' := [(3, .int (l3 + 1)), (2, .int l3), (0, .ref h0), (1, .int l1)]) hx hb dX5_guessByRopes_41 hl (k := 3) rfl rfl (by decide) rfl (fun ls hl => ?_)
          refine lv_goto (tgt := 6) hx hb dX5_guessByRopes_44 (by decide) ?_
          exact ih l3 (l3 + 1) h H locs ls (lv_sub hl [2, 3, 1, 0] rfl) hP hD hS
        · have h := ub_if_f c26 h
          refine lv_aload_n hx hb dX5_guessByRopes_29 rfl (lv_at hl 0 rfl) ?_
          refine lv_iload_n hx hb dX5_guessByRopes_30 rfl (lv_at hl 3 rfl) ?_
          refine lv_iload_n hx hb dX5_guessByRopes_31 rfl (lv_at hl 2 rfl) ?_
          refine lv_iload_n hx hb dX5_guessByRopes_32 rfl (lv_at hl 1 rfl) ?_
          obtain ⟨x_3, hc33, h⟩ := ub_b1_some h
          have hPc : va_P D vwCl (udX5_isGreaterShare cI h0 h1 z0 z1 z2 z3 z4 ym_number ym_parish) H := ub_pickP hP [0, 1] rfl
          have hDc : va_D A (udX5_isGreaterShare cI h0 h1 z0 z1 z2 z3 z4 ym_number ym_parish) := hD.sub [0, 1] (by decide) rfl
          refine ub_calli (ws' := (udX5_guessByRopes cI h0 h1 z0 z1 z2 z3 z4 ym_number ym_parish)) (va_runV (As := [.int l3, .int l2, .int l1]) (rest := []) ⟨hx, hb, hml, hown, hts⟩ (ucX5_isGreaterShare l D cI cT hc33) (cwV 3 hts gX5_guessByRopes_X5_isGreaterShare rfl rfl rfl ⟨rfl, uhX5_isGreaterShare⟩ ⟨Nat.le_of_ble_eq_true rfl, Nat.le_of_ble_eq_true rfl⟩) (ub_preV hPc hDc hK hN 0 (ci := 7) rfl rfl rfl) rfl rfl hl.1 rfl (lv_room (Nat.le_of_ble_eq_true rfl)) dX5_guessByRopes_33 ⟨Nat.le_of_ble_eq_true rfl, Nat.le_of_ble_eq_true rfl⟩) hP hD hS hA [0, 1] rfl (by decide) rfl rfl (fun H locs hP hD hS => ?_)
          refine lv_if_eq (tgt := 41) hx hb dX5_guessByRopes_36 (by decide) (fun c36 => ?_) (fun c36 => ?_)
          · have h := ub_if_t c36 h
            refine lv_iinc (v := l3 + 1) (lv' := [(3, .int (l3 + 1)), (0, .ref h0), (1, .int l1), (2, .int l2)]) hx hb dX5_guessByRopes_41 hl (k := 3) rfl rfl (by decide) rfl (fun ls hl => ?_)
            refine lv_goto (tgt := 6) hx hb dX5_guessByRopes_44 (by decide) ?_
            exact ih l2 (l3 + 1) h H locs ls (lv_sub hl [1, 2, 3, 0] rfl) hP hD hS
          · have h := ub_if_f c36 h
            refine lv_iload_n hx hb dX5_guessByRopes_39 rfl (lv_at hl 3 rfl) ?_
            refine lv_istore_n (lv' := [(2, .int l3), (0, .ref h0), (1, .int l1), (3, .int l3)]) hx hb dX5_guessByRopes_40 rfl hl (by decide) rfl (fun ls hl => ?_)
            refine lv_iinc (v := l3 + 1) (lv' := [(3, .int (l3 + 1)), (2, .int l3), (0, .ref h0), (1, .int l1)]) hx hb dX5_guessByRopes_41 hl (k := 3) rfl rfl (by decide) rfl (fun ls hl => ?_)
            refine lv_goto (tgt := 6) hx hb dX5_guessByRopes_44 (by decide) ?_
            exact ih l3 (l3 + 1) h H locs ls (lv_sub hl [2, 3, 1, 0] rfl) hP hD hS
set_option maxHeartbeats 4000000 in
set_option maxRecDepth 100000 in
theorem uwX5_guessByRopes_E {p : Program} {l : Launch} {e : Env} {s : State} {m : MethodId} {args : Array Value} {below : List Frame} {meth : Method} {c : Code} {Q : State → Prop} {D : va_G} {cI cT : ClassId} {A : Nat → Prop} (K : ub_kx p s m args meth c cX5_guessByRopes 4 RX5 wsX5_guessByRopes D cI cT A) {h0 h1 : Nat} {z0 : Nat} {z1 : Nat} {z2 : Nat} {z3 : Nat} {z4 : Nat} {ym_number : Int32} {ym_parish : (Nat → Int32)} {l1 : Int32} {rr : Int32} (hret : ∀ (H : Heap) (locs : List Loc) (pc : Nat) (ls : Array Slot), decode cX5_guessByRopes pc = .ok (.ireturn, 1) → narrow .int (.int rr) = .int rr → va_P D vwCl (udX5_guessByRopes cI h0 h1 z0 z1 z2 z3 z4 ym_number ym_parish) H → va_D A (udX5_guessByRopes cI h0 h1 z0 z1 z2 z3 z4 ym_number ym_parish) → va_S A s.heap H locs → W p l e ({ frames := 3, cells := 0, slots := 0, locals := 74 } : Room) s m args below meth c H locs 0 0 Q (F0 m pc ls [.int rr])) (h : ufX5_guessByRopes ym_number ym_parish l1 = some rr) {H : Heap} {locs : List Loc} {ls : Array Slot} (hl : lv_has ls 4 [(0, .ref h0), (1, .int l1)]) (hP : va_P D vwCl (udX5_guessByRopes cI h0 h1 z0 z1 z2 z3 z4 ym_number ym_parish) H) (hD : va_D A (udX5_guessByRopes cI h0 h1 z0 z1 z2 z3 z4 ym_number ym_parish)) (hS : va_S A s.heap H locs) : W p l e ({ frames := 3, cells := 0, slots := 0, locals := 74 } : Room) s m args below meth c H locs 0 0 Q (F0 m 0 ls []) := by
  have K0 := K
  obtain ⟨hx, hb, hml, hown, hts, hK, hN, hA⟩ := K
  unfold ufX5_guessByRopes at h
  refine lv_sipush (v := (-1011)) hx hb dX5_guessByRopes_0 (by decide) ?_
  refine lv_istore_n (lv' := [(2, .int (-1011)), (0, .ref h0), (1, .int l1)]) hx hb dX5_guessByRopes_3 rfl hl (by decide) rfl (fun ls hl => ?_)
  refine lv_iconst (v := 0) hx hb dX5_guessByRopes_4 (by decide) ?_
  refine lv_istore_n (lv' := [(3, .int 0), (2, .int (-1011)), (0, .ref h0), (1, .int l1)]) hx hb dX5_guessByRopes_5 rfl hl (by decide) rfl (fun ls hl => ?_)
  exact uwX5_guessByRopes_6 K0 hret ub_F (-1011) 0 h H locs ls (lv_sub hl [2, 3, 1, 0] rfl) hP hD hS
set_option maxHeartbeats 4000000 in
set_option maxRecDepth 100000 in
theorem ucX5_guessByRopes (l : Launch) (D : va_G) (cI cT : ClassId) {h0 h1 : Nat} {z0 : Nat} {z1 : Nat} {z2 : Nat} {z3 : Nat} {z4 : Nat} {l1 : Int32} {rr : Int32} {ym_number : Int32} {ym_parish : (Nat → Int32)} {sz : Nat} (h : ufX5_guessByRopes ym_number ym_parish l1 = some rr) : Met l yX5_guessByRopes wsX5_guessByRopes ({ frames := 3, cells := 0, slots := 0, locals := 74 } : Room) (va_Pc [.ref h0, .int l1] (ub_pc D cI cT (udX5_guessByRopes cI h0 h1 z0 z1 z2 z3 z4 ym_number ym_parish) sz)) (va_Qi (fun (r' : Int32) (_ : Unit) => r' = rr) (fun _ t => ub_pq D (udX5_guessByRopes cI h0 h1 z0 z1 z2 z3 z4 ym_number ym_parish) (va_A (udX5_guessByRopes cI h0 h1 z0 z1 z2 z3 z4 ym_number ym_parish) sz) t) (va_A (udX5_guessByRopes cI h0 h1 z0 z1 z2 z3 z4 ym_number ym_parish) sz)) 0 0 (va_A (udX5_guessByRopes cI h0 h1 z0 z1 z2 z3 z4 ym_number ym_parish) sz) :=
  ub_met_i (by decide +kernel) rfl (Nat.le_of_ble_eq_true rfl) fun _ _ _ _ _ _ _ _ _ _ K hret _ hl hP hD hS => uwX5_guessByRopes_E K hret h hl hP hD hS
