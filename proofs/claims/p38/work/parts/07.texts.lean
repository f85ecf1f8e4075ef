-- X2_write
def udX2_write (cI : ClassId) (h0 : Nat) (h1 : Nat) (ym_length : Int32) (ym_codes : Nat → Int32) : va_W := [(h0, .inr (4, [.int ym_length, .ref h1])), (h1, .inl (cI, 128, .inl ym_codes))]
def ufX2_write (ym_length : Int32) (ym_codes : Nat → Int32) (l1 : Int32) : Option (Int32 × (Nat → Int32)) :=
  ub_b1 (ufX8_put 128 ym_codes ym_length l1) fun ym_codes_1 =>
  ub_nm (if 128 < (ym_length + 1) then 128 else (ym_length + 1)) fun x_2 =>
  some (x_2, ym_codes_1)
theorem uvX2_write_1 : Cond.fieldLink RX2 9 "UnheardBells$Line" "codes" "[I" ∈ wsX2_write := List.mem_cons_of_mem _ us_m285
theorem uvX2_write_2 : Cond.fieldLink RX2 15 "UnheardBells$Line" "length" "I" ∈ wsX2_write := List.mem_cons_of_mem _ us_m283
theorem uvX2_write_8 : Cond.initialized RX8 ∈ wsX2_write := List.mem_cons_of_mem _ us_m40
theorem uvX2_write_7 : Cond.static yX8_put ∈ wsX2_write := List.mem_cons_of_mem _ us_m380
theorem uvX2_write_3 : Cond.methodLink RX2 23 Lib.Math.min.name ∈ wsX2_write := List.mem_cons_of_mem _ us_m968
theorem uvX2_write_4 : Cond.static Lib.Math.min.name ∈ wsX2_write := List.mem_cons_of_mem _ us_m348
theorem uvX2_write_5 : Cond.initialized "java/lang/Math" ∈ wsX2_write := List.mem_cons_of_mem _ us_m49
theorem uvX2_write_6 : Cond.code Lib.Math.min.name Lib.Math.min.code 2 (some .int) ∈ wsX2_write := List.mem_cons_of_mem _ us_m349
theorem uiX2_write_X2 : ∀ w ∈ u_ws RX2 TX2 2, w ∈ wsX2_write := fun w h => List.mem_cons_of_mem _ (us_inX2 w h)
theorem uhX2_write : yX2_write.cls ≠ "java/lang/invoke/MethodHandle" ∧ yX2_write.cls ≠ "java/lang/invoke/VarHandle" ∧ (parseMethodDescriptor yX2_write.desc).map (fun d => d.parameters.length) = some 1 := by decide +kernel
set_option maxHeartbeats 4000000 in
set_option maxRecDepth 100000 in
theorem uwX2_write_E {p : Program} {l : Launch} {e : Env} {s : State} {m : MethodId} {args : Array Value} {below : List Frame} {meth : Method} {c : Code} {Q : State → Prop} {D : va_G} {cI cT : ClassId} {A : Nat → Prop} (K : ub_kx p s m args meth c cX2_write 2 RX2 wsX2_write D cI cT A) {h0 h1 : Nat} {ym_length : Int32} {ym_codes : (Nat → Int32)} {l1 : Int32} {w_ym_length : Int32} {w_ym_codes : (Nat → Int32)} (hret : ∀ (H : Heap) (locs : List Loc) (pc : Nat) (ls : Array Slot), decode cX2_write pc = .ok (.return_, 1) → va_P D vwCl (udX2_write cI h0 h1 w_ym_length w_ym_codes) H → va_D A (udX2_write cI h0 h1 w_ym_length w_ym_codes) → va_S A s.heap H locs → W p l e ({ frames := 1, cells := 0, slots := 0, locals := 22 } : Room) s m args below meth c H locs 0 0 Q (F0 m pc ls [])) (h : ufX2_write ym_length ym_codes l1 = some (w_ym_length, w_ym_codes)) {H : Heap} {locs : List Loc} {ls : Array Slot} (hl : lv_has ls 2 [(0, .ref h0), (1, .int l1)]) (hP : va_P D vwCl (udX2_write cI h0 h1 ym_length ym_codes) H) (hD : va_D A (udX2_write cI h0 h1 ym_length ym_codes)) (hS : va_S A s.heap H locs) : W p l e ({ frames := 1, cells := 0, slots := 0, locals := 22 } : Room) s m args below meth c H locs 0 0 Q (F0 m 0 ls []) := by
  have K0 := K
  obtain ⟨hx, hb, hml, hown, hts, hK, hN, hA⟩ := K
  unfold ufX2_write at h
  refine lv_aload_n hx hb dX2_write_0 rfl (lv_at hl 0 rfl) ?_
  refine va_get (ci := 4) (v := .ref h1) (C := RX2) (T := TX2) (N := 2) hx hb hts uiX2_write_X2 hown hK hP 0 rfl rfl 1 (by decide) (hts _ uvX2_write_1) (fun _ h9 => h9) rfl dX2_write_1 ?_
  refine lv_aload_n hx hb dX2_write_4 rfl (lv_at hl 0 rfl) ?_
  refine va_get (ci := 4) (v := .int ym_length) (C := RX2) (T := TX2) (N := 2) hx hb hts uiX2_write_X2 hown hK hP 0 rfl rfl 0 (by decide) (hts _ uvX2_write_2) (fun _ h9 => h9) rfl dX2_write_5 ?_
  refine lv_iload_n hx hb dX2_write_8 rfl (lv_at hl 1 rfl) ?_
  obtain ⟨ym_codes_1, hc9, h⟩ := ub_b1_some h
  have hPc : va_P D vwCl (udX8_put cI 128 h1 ym_codes) H := ub_pickP hP [1] rfl
  have hDc : va_D A (udX8_put cI 128 h1 ym_codes) := hD.sub [1] (by decide) rfl
  refine ub_callv (ws' := (udX2_write cI h0 h1 ym_length ym_codes_1)) (va_runSN (As := [.ref h1, .int ym_length, .int l1]) (rest := []) ⟨hx, hb, hml, hown, hts⟩ (ucX8_put l D cI cT hc9) ⟨va_cnB 3 hts gX2_write_X8_put_n19 rfl rfl rfl (hN.at 31 rfl) (hts _ uvX2_write_8) uhX8_put ⟨Nat.le_of_ble_eq_true rfl, Nat.le_of_ble_eq_true rfl⟩, (hts _ uvX2_write_7), trivial⟩ (ub_preS hPc hDc hK hN) rfl rfl hl.1 rfl (lv_room (Nat.le_of_ble_eq_true rfl)) dX2_write_9 ⟨Nat.le_of_ble_eq_true rfl, Nat.le_of_ble_eq_true rfl⟩) hP hD hS hA [1] rfl (by decide) rfl rfl (fun H locs hP hD hS => ?_)
  refine lv_aload_n hx hb dX2_write_12 rfl (lv_at hl 0 rfl) ?_
  refine lv_aload_n hx hb dX2_write_13 rfl (lv_at hl 0 rfl) ?_
  refine va_get (ci := 4) (v := .int ym_length) (C := RX2) (T := TX2) (N := 2) hx hb hts uiX2_write_X2 hown hK hP 0 rfl rfl 0 (by decide) (hts _ uvX2_write_2) (fun _ h9 => h9) rfl dX2_write_14 ?_
  refine lv_iconst (v := 1) hx hb dX2_write_17 (by decide) ?_
  refine lv_iadd hx hb dX2_write_18 ?_
  refine lv_sipush (v := 128) hx hb dX2_write_19 (by decide) ?_
  refine va_mmin hx hb (hml.trans hl.1.symm) hown (hts _ uvX2_write_3) (hts _ uvX2_write_4) (hts _ uvX2_write_5) (hts _ uvX2_write_6) (Nat.le_of_ble_eq_true rfl) (Nat.le_of_ble_eq_true rfl) (Nat.le_of_ble_eq_true rfl) (Nat.le_of_ble_eq_true rfl) dX2_write_22 ?_
  obtain ⟨x_2, ex_2, h⟩ := ub_nm_some h
  refine ub_topi ex_2 ?_
  refine ub_put (ws' := (udX2_write cI h0 h1 x_2 ym_codes_1)) (ci := 4) (C := RX2) (T := TX2) (N := 2) hx hb hts uiX2_write_X2 tyX2 tyX2_ok nmX2 hown hK hP hD hS 0 0 (v := .int x_2) (ty := tyX2 0) rfl rfl (by decide) (hts _ uvX2_write_2) (fun _ h9 => h9) rfl (tyX2_ok 0 (by decide)) rfl rfl (Nat.le_of_ble_eq_true rfl) rfl dX2_write_25 (fun H locs hP hD hS => ?_)
  cases h
  exact hret H locs _ ls dX2_write_28 hP hD hS
set_option maxHeartbeats 4000000 in
set_option maxRecDepth 100000 in
theorem ucX2_write (l : Launch) (D : va_G) (cI cT : ClassId) {h0 h1 : Nat} {l1 : Int32} {w_ym_length : Int32} {w_ym_codes : (Nat → Int32)} {ym_length : Int32} {ym_codes : (Nat → Int32)} {sz : Nat} (h : ufX2_write ym_length ym_codes l1 = some (w_ym_length, w_ym_codes)) : Met l yX2_write wsX2_write ({ frames := 1, cells := 0, slots := 0, locals := 22 } : Room) (va_Pc [.ref h0, .int l1] (ub_pc D cI cT (udX2_write cI h0 h1 ym_length ym_codes) sz)) (va_Qv (fun (_ : Unit) => True) (fun _ t => ub_pq D (udX2_write cI h0 h1 w_ym_length w_ym_codes) (va_A (udX2_write cI h0 h1 ym_length ym_codes) sz) t) (va_A (udX2_write cI h0 h1 ym_length ym_codes) sz)) 0 0 (va_A (udX2_write cI h0 h1 ym_length ym_codes) sz) :=
  ub_met_v (by decide +kernel) rfl (Nat.le_of_ble_eq_true rfl) fun _ _ _ _ _ _ _ _ _ _ K hret _ hl hP hD hS => uwX2_write_E K hret h hl hP hD hS
-- X2_writeNumber
def udX2_writeNumber (cI : ClassId) (h0 : Nat) (h1 : Nat) (ym_length : Int32) (ym_codes : Nat → Int32) : va_W := [(h0, .inr (4, [.int ym_length, .ref h1])), (h1, .inl (cI, 128, .inl ym_codes))]
def ujX2_writeNumber_17 (ym_length : Int32) (ym_codes : Nat → Int32) (l1 : Int32) : Option (Int32 × (Nat → Int32)) :=
  ub_b2 (ufX2_write ym_length ym_codes (48 + (l1 - l1 / 10 * 10))) fun ym_length_1 ym_codes_2 =>
  some (ym_length_1, ym_codes_2)
def ufX2_writeNumber (ym_length : Int32) (ym_codes : Nat → Int32) (l1 : Int32) : Option (Int32 × (Nat → Int32)) :=
  if l1 < 10 then
    ujX2_writeNumber_17 ym_length ym_codes l1
  else
    ub_b2 (ufX2_write ym_length ym_codes (48 + (l1 / 10))) fun ym_length_3 ym_codes_4 =>
    ujX2_writeNumber_17 ym_length_3 ym_codes_4 l1
theorem uiX2_writeNumber_X2 : ∀ w ∈ u_ws RX2 TX2 2, w ∈ wsX2_writeNumber := fun w h => List.mem_cons_of_mem _ (us_inX2 w h)
theorem uhX2_writeNumber : yX2_writeNumber.cls ≠ "java/lang/invoke/MethodHandle" ∧ yX2_writeNumber.cls ≠ "java/lang/invoke/VarHandle" ∧ (parseMethodDescriptor yX2_writeNumber.desc).map (fun d => d.parameters.length) = some 1 := by decide +kernel
set_option maxHeartbeats 4000000 in
set_option maxRecDepth 100000 in
theorem uwX2_writeNumber_17 {p : Program} {l : Launch} {e : Env} {s : State} {m : MethodId} {args : Array Value} {below : List Frame} {meth : Method} {c : Code} {Q : State → Prop} {D : va_G} {cI cT : ClassId} {A : Nat → Prop} (K : ub_kx p s m args meth c cX2_writeNumber 2 RX2 wsX2_writeNumber D cI cT A) {h0 h1 : Nat} {ym_length : Int32} {ym_codes : (Nat → Int32)} {l1 : Int32} {w_ym_length : Int32} {w_ym_codes : (Nat → Int32)} (hret : ∀ (H : Heap) (locs : List Loc) (pc : Nat) (ls : Array Slot), decode cX2_writeNumber pc = .ok (.return_, 1) → va_P D vwCl (udX2_writeNumber cI h0 h1 w_ym_length w_ym_codes) H → va_D A (udX2_writeNumber cI h0 h1 w_ym_length w_ym_codes) → va_S A s.heap H locs → W p l e ({ frames := 2, cells := 0, slots := 0, locals := 43 } : Room) s m args below meth c H locs 0 0 Q (F0 m pc ls [])) (h : ujX2_writeNumber_17 ym_length ym_codes l1 = some (w_ym_length, w_ym_codes)) {H : Heap} {locs : List Loc} {ls : Array Slot} (hl : lv_has ls 2 [(0, .ref h0), (1, .int l1)]) (hP : va_P D vwCl (udX2_writeNumber cI h0 h1 ym_length ym_codes) H) (hD : va_D A (udX2_writeNumber cI h0 h1 ym_length ym_codes)) (hS : va_S A s.heap H locs) : W p l e ({ frames := 2, cells := 0, slots := 0, locals := 43 } : Room) s m args below meth c H locs 0 0 Q (F0 m 17 ls []) := by
  have K0 := K
  obtain ⟨hx, hb, hml, hown, hts, hK, hN, hA⟩ := K
  unfold ujX2_writeNumber_17 at h
  refine lv_aload_n hx hb dX2_writeNumber_17 rfl (lv_at hl 0 rfl) ?_
  refine lv_bipush (v := 48) hx hb dX2_writeNumber_18 (by decide) ?_
  refine lv_iload_n hx hb dX2_writeNumber_20 rfl (lv_at hl 1 rfl) ?_
  refine lv_bipush (v := 10) hx hb dX2_writeNumber_21 (by decide) ?_
  refine lv_irem hx hb dX2_writeNumber_23 (by decide) ?_
  refine lv_iadd hx hb dX2_writeNumber_24 ?_
  obtain ⟨ym_length_1, ym_codes_2, hc25, h⟩ := ub_b2_some h
  have hPc : va_P D vwCl (udX2_write cI h0 h1 ym_length ym_codes) H := ub_pickP hP [0, 1] rfl
  have hDc : va_D A (udX2_write cI h0 h1 ym_length ym_codes) := hD.sub [0, 1] (by decide) rfl
  refine ub_callv (ws' := (udX2_writeNumber cI h0 h1 ym_length_1 ym_codes_2)) (va_runV (As := [.int (48 + (l1 - l1 / 10 * 10))]) (rest := []) ⟨hx, hb, hml, hown, hts⟩ (ucX2_write l D cI cT hc25) (cwV 1 hts gX2_writeNumber_X2_write rfl rfl rfl ⟨rfl, uhX2_write⟩ ⟨Nat.le_of_ble_eq_true rfl, Nat.le_of_ble_eq_true rfl⟩) (ub_preV hPc hDc hK hN 0 (ci := 4) rfl rfl rfl) rfl rfl hl.1 rfl (lv_room (Nat.le_of_ble_eq_true rfl)) dX2_writeNumber_25 ⟨Nat.le_of_ble_eq_true rfl, Nat.le_of_ble_eq_true rfl⟩) hP hD hS hA [0, 1] rfl (by decide) rfl rfl (fun H locs hP hD hS => ?_)
  cases h
  exact hret H locs _ ls dX2_writeNumber_28 hP hD hS
set_option maxHeartbeats 4000000 in
set_option maxRecDepth 100000 in
theorem uwX2_writeNumber_E {p : Program} {l : Launch} {e : Env} {s : State} {m : MethodId} {args : Array Value} {below : List Frame} {meth : Method} {c : Code} {Q : State → Prop} {D : va_G} {cI cT : ClassId} {A : Nat → Prop} (K : ub_kx p s m args meth c cX2_writeNumber 2 RX2 wsX2_writeNumber D cI cT A) {h0 h1 : Nat} {ym_length : Int32} {ym_codes : (Nat → Int32)} {l1 : Int32} {w_ym_length : Int32} {w_ym_codes : (Nat → Int32)} (hret : ∀ (H : Heap) (locs : List Loc) (pc : Nat) (ls : Array Slot), decode cX2_writeNumber pc = .ok (.return_, 1) → va_P D vwCl (udX2_writeNumber cI h0 h1 w_ym_length w_ym_codes) H → va_D A (udX2_writeNumber cI h0 h1 w_ym_length w_ym_codes) → va_S A s.heap H locs → W p l e ({ frames := 2, cells := 0, slots := 0, locals := 43 } : Room) s m args below meth c H locs 0 0 Q (F0 m pc ls [])) (h : ufX2_writeNumber ym_length ym_codes l1 = some (w_ym_length, w_ym_codes)) {H : Heap} {locs : List Loc} {ls : Array Slot} (hl : lv_has ls 2 [(0, .ref h0), (1, .int l1)]) (hP : va_P D vwCl (udX2_writeNumber cI h0 h1 ym_length ym_codes) H) (hD : va_D A (udX2_writeNumber cI h0 h1 ym_length ym_codes)) (hS : va_S A s.heap H locs) : W p l e ({ frames := 2, cells := 0, slots := 0, locals := 43 } : Room) s m args below meth c H locs 0 0 Q (F0 m 0 ls []) := by
  have K0 := K
  obtain ⟨hx, hb, hml, hown, hts, hK, hN, hA⟩ := K
  unfold ufX2_writeNumber at h
  refine lv_iload_n hx hb dX2_writeNumber_0 rfl (lv_at hl 1 rfl) ?_
  refine lv_bipush (v := 10) hx hb dX2_writeNumber_1 (by decide) ?_
  refine lv_icmp_lt (tgt := 17) hx hb dX2_writeNumber_3 (by decide) (fun c3 => ?_) (fun c3 => ?_)
  · have h := ub_if_t c3 h
    exact uwX2_writeNumber_17 K0 hret h (lv_sub hl [0, 1] rfl) hP hD hS
  · have h := ub_if_f c3 h
    refine lv_aload_n hx hb dX2_writeNumber_6 rfl (lv_at hl 0 rfl) ?_
    refine lv_bipush (v := 48) hx hb dX2_writeNumber_7 (by decide) ?_
    refine lv_iload_n hx hb dX2_writeNumber_9 rfl (lv_at hl 1 rfl) ?_
    refine lv_bipush (v := 10) hx hb dX2_writeNumber_10 (by decide) ?_
    refine lv_idiv hx hb dX2_writeNumber_12 (by decide) ?_
    refine lv_iadd hx hb dX2_writeNumber_13 ?_
    obtain ⟨ym_length_3, ym_codes_4, hc14, h⟩ := ub_b2_some h
    have hPc : va_P D vwCl (udX2_write cI h0 h1 ym_length ym_codes) H := ub_pickP hP [0, 1] rfl
    have hDc : va_D A (udX2_write cI h0 h1 ym_length ym_codes) := hD.sub [0, 1] (by decide) rfl
    refine ub_callv (ws' := (udX2_writeNumber cI h0 h1 ym_length_3 ym_codes_4)) (va_runV (As := [.int (48 + (l1 / 10))]) (rest := []) ⟨hx, hb, hml, hown, hts⟩ (ucX2_write l D cI cT hc14) (cwV 1 hts gX2_writeNumber_X2_write rfl rfl rfl ⟨rfl, uhX2_write⟩ ⟨Nat.le_of_ble_eq_true rfl, Nat.le_of_ble_eq_true rfl⟩) (ub_preV hPc hDc hK hN 0 (ci := 4) rfl rfl rfl) rfl rfl hl.1 rfl (lv_room (Nat.le_of_ble_eq_true rfl)) dX2_writeNumber_14 ⟨Nat.le_of_ble_eq_true rfl, Nat.le_of_ble_eq_true rfl⟩) hP hD hS hA [0, 1] rfl (by decide) rfl rfl (fun H locs hP hD hS => ?_)
    exact uwX2_writeNumber_17 K0 hret h (lv_sub hl [0, 1] rfl) hP hD hS
set_option maxHeartbeats 4000000 in
set_option maxRecDepth 100000 in
theorem ucX2_writeNumber (l : Launch) (D : va_G) (cI cT : ClassId) {h0 h1 : Nat} {l1 : Int32} {w_ym_length : Int32} {w_ym_codes : (Nat → Int32)} {ym_length : Int32} {ym_codes : (Nat → Int32)} {sz : Nat} (h : ufX2_writeNumber ym_length ym_codes l1 = some (w_ym_length, w_ym_codes)) : Met l yX2_writeNumber wsX2_writeNumber ({ frames := 2, cells := 0, slots := 0, locals := 43 } : Room) (va_Pc [.ref h0, .int l1] (ub_pc D cI cT (udX2_writeNumber cI h0 h1 ym_length ym_codes) sz)) (va_Qv (fun (_ : Unit) => True) (fun _ t => ub_pq D (udX2_writeNumber cI h0 h1 w_ym_length w_ym_codes) (va_A (udX2_writeNumber cI h0 h1 ym_length ym_codes) sz) t) (va_A (udX2_writeNumber cI h0 h1 ym_length ym_codes) sz)) 0 0 (va_A (udX2_writeNumber cI h0 h1 ym_length ym_codes) sz) :=
  ub_met_v (by decide +kernel) rfl (Nat.le_of_ble_eq_true rfl) fun _ _ _ _ _ _ _ _ _ _ K hret _ hl hP hD hS => uwX2_writeNumber_E K hret h hl hP hD hS
-- X3_numberAt
def udX3_numberAt (cI : ClassId) (h0 : Nat) (h1 : Nat) (z0 : Nat) (ym_number : Int32) (ym_position : Int32) (ym_numbers : Nat → Int32) : va_W := [(h0, .inr (5, [.int ym_number, .ref z0, .ref h1, .int ym_position])), (h1, .inl (cI, 180, .inl ym_numbers))]
def ufX3_numberAt (ym_numbers : Nat → Int32) (l1 : Int32) (l2 : Int32) : Option (Int32) :=
  ub_b1 (ufX8_at 180 ym_numbers ((l1 * 3) + l2)) fun x_1 =>
  some (x_1)
theorem uvX3_numberAt_1 : Cond.fieldLink RX3 15 "UnheardBells$Orders" "numbers" "[I" ∈ wsX3_numberAt := List.mem_cons_of_mem _ us_m266
theorem uvX3_numberAt_3 : Cond.initialized RX8 ∈ wsX3_numberAt := List.mem_cons_of_mem _ us_m40
theorem uvX3_numberAt_2 : Cond.static yX8_at ∈ wsX3_numberAt := List.mem_cons_of_mem _ us_m404
theorem uiX3_numberAt_X3 : ∀ w ∈ u_ws RX3 TX3 4, w ∈ wsX3_numberAt := fun w h => List.mem_cons_of_mem _ (us_inX3 w h)
theorem uhX3_numberAt : yX3_numberAt.cls ≠ "java/lang/invoke/MethodHandle" ∧ yX3_numberAt.cls ≠ "java/lang/invoke/VarHandle" ∧ (parseMethodDescriptor yX3_numberAt.desc).map (fun d => d.parameters.length) = some 2 := by decide +kernel
set_option maxHeartbeats 4000000 in
set_option maxRecDepth 100000 in
theorem uwX3_numberAt_E {p : Program} {l : Launch} {e : Env} {s : State} {m : MethodId} {args : Array Value} {below : List Frame} {meth : Method} {c : Code} {Q : State → Prop} {D : va_G} {cI cT : ClassId} {A : Nat → Prop} (K : ub_kx p s m args meth c cX3_numberAt 3 RX3 wsX3_numberAt D cI cT A) {h0 h1 : Nat} {z0 : Nat} {ym_number : Int32} {ym_position : Int32} {ym_numbers : (Nat → Int32)} {l1 : Int32} {l2 : Int32} {rr : Int32} (hret : ∀ (H : Heap) (locs : List Loc) (pc : Nat) (ls : Array Slot), decode cX3_numberAt pc = .ok (.ireturn, 1) → narrow .int (.int rr) = .int rr → va_P D vwCl (udX3_numberAt cI h0 h1 z0 ym_number ym_position ym_numbers) H → va_D A (udX3_numberAt cI h0 h1 z0 ym_number ym_position ym_numbers) → va_S A s.heap H locs → W p l e ({ frames := 1, cells := 0, slots := 0, locals := 21 } : Room) s m args below meth c H locs 0 0 Q (F0 m pc ls [.int rr])) (h : ufX3_numberAt ym_numbers l1 l2 = some rr) {H : Heap} {locs : List Loc} {ls : Array Slot} (hl : lv_has ls 3 [(0, .ref h0), (1, .int l1), (2, .int l2)]) (hP : va_P D vwCl (udX3_numberAt cI h0 h1 z0 ym_number ym_position ym_numbers) H) (hD : va_D A (udX3_numberAt cI h0 h1 z0 ym_number ym_position ym_numbers)) (hS : va_S A s.heap H locs) : W p l e ({ frames := 1, cells := 0, slots := 0, locals := 21 } : Room) s m args below meth c H locs 0 0 Q (F0 m 0 ls []) := by
  have K0 := K
  obtain ⟨hx, hb, hml, hown, hts, hK, hN, hA⟩ := K
  unfold ufX3_numberAt at h
  refine lv_aload_n hx hb dX3_numberAt_0 rfl (lv_at hl 0 rfl) ?_
  refine va_get (ci := 5) (v := .ref h1) (C := RX3) (T := TX3) (N := 4) hx hb hts uiX3_numberAt_X3 hown hK hP 0 rfl rfl 2 (by decide) (hts _ uvX3_numberAt_1) (fun _ h9 => h9) rfl dX3_numberAt_1 ?_
  refine lv_iload_n hx hb dX3_numberAt_4 rfl (lv_at hl 1 rfl) ?_
  refine lv_iconst (v := 3) hx hb dX3_numberAt_5 (by decide) ?_
  refine lv_imul hx hb dX3_numberAt_6 ?_
  refine lv_iload_n hx hb dX3_numberAt_7 rfl (lv_at hl 2 rfl) ?_
  refine lv_iadd hx hb dX3_numberAt_8 ?_
  obtain ⟨x_1, hc9, h⟩ := ub_b1_some h
  have hPc : va_P D vwCl (udX8_at cI 180 h1 ym_numbers) H := ub_pickP hP [1] rfl
  have hDc : va_D A (udX8_at cI 180 h1 ym_numbers) := hD.sub [1] (by decide) rfl
  refine ub_calli (ws' := (udX3_numberAt cI h0 h1 z0 ym_number ym_position ym_numbers)) (va_runSN (As := [.ref h1, .int ((l1 * 3) + l2)]) (rest := []) ⟨hx, hb, hml, hown, hts⟩ (ucX8_at l D cI cT hc9) ⟨va_cnB 2 hts gX3_numberAt_X8_at_n18 rfl rfl rfl (hN.at 27 rfl) (hts _ uvX3_numberAt_3) uhX8_at ⟨Nat.le_of_ble_eq_true rfl, Nat.le_of_ble_eq_true rfl⟩, (hts _ uvX3_numberAt_2), trivial⟩ (ub_preS hPc hDc hK hN) rfl rfl hl.1 rfl (lv_room (Nat.le_of_ble_eq_true rfl)) dX3_numberAt_9 ⟨Nat.le_of_ble_eq_true rfl, Nat.le_of_ble_eq_true rfl⟩) hP hD hS hA [1] rfl (by decide) rfl rfl (fun H locs hP hD hS => ?_)
  cases h
  exact hret H locs _ ls dX3_numberAt_12 rfl hP hD hS
set_option maxHeartbeats 4000000 in
set_option maxRecDepth 100000 in
theorem ucX3_numberAt (l : Launch) (D : va_G) (cI cT : ClassId) {h0 h1 : Nat} {z0 : Nat} {l1 : Int32} {l2 : Int32} {rr : Int32} {ym_number : Int32} {ym_position : Int32} {ym_numbers : (Nat → Int32)} {sz : Nat} (h : ufX3_numberAt ym_numbers l1 l2 = some rr) : Met l yX3_numberAt wsX3_numberAt ({ frames := 1, cells := 0, slots := 0, locals := 21 } : Room) (va_Pc [.ref h0, .int l1, .int l2] (ub_pc D cI cT (udX3_numberAt cI h0 h1 z0 ym_number ym_position ym_numbers) sz)) (va_Qi (fun (r' : Int32) (_ : Unit) => r' = rr) (fun _ t => ub_pq D (udX3_numberAt cI h0 h1 z0 ym_number ym_position ym_numbers) (va_A (udX3_numberAt cI h0 h1 z0 ym_number ym_position ym_numbers) sz) t) (va_A (udX3_numberAt cI h0 h1 z0 ym_number ym_position ym_numbers) sz)) 0 0 (va_A (udX3_numberAt cI h0 h1 z0 ym_number ym_position ym_numbers) sz) :=
  ub_met_i (by decide +kernel) rfl (Nat.le_of_ble_eq_true rfl) fun _ _ _ _ _ _ _ _ _ _ K hret _ hl hP hD hS => uwX3_numberAt_E K hret h hl hP hD hS
-- X6_codeAt
def udX6_codeAt (cI : ClassId) (h0 : Nat) (h1 : Nat) (ym_length : Int32) (ym_codes : Nat → Int32) : va_W := [(h0, .inr (8, [.int ym_length, .ref h1])), (h1, .inl (cI, 60, .inl ym_codes))]
def ufX6_codeAt (ym_length : Int32) (ym_codes : Nat → Int32) (l1 : Int32) : Option (Int32) :=
  if l1 < 0 then
    some ((-1011))
  else
    if ym_length ≤ l1 then
      some ((-1011))
    else
      ub_b1 (ufX8_at 60 ym_codes l1) fun x_1 =>
      some (x_1)
theorem uvX6_codeAt_1 : Cond.fieldLink RX6 15 "UnheardBells$Text" "length" "I" ∈ wsX6_codeAt := List.mem_cons_of_mem _ us_m247
theorem uvX6_codeAt_2 : Cond.fieldLink RX6 9 "UnheardBells$Text" "codes" "[I" ∈ wsX6_codeAt := List.mem_cons_of_mem _ us_m250
theorem uvX6_codeAt_4 : Cond.initialized RX8 ∈ wsX6_codeAt := List.mem_cons_of_mem _ us_m40
theorem uvX6_codeAt_3 : Cond.static yX8_at ∈ wsX6_codeAt := List.mem_cons_of_mem _ us_m404
theorem uiX6_codeAt_X6 : ∀ w ∈ u_ws RX6 TX6 2, w ∈ wsX6_codeAt := fun w h => List.mem_cons_of_mem _ (us_inX6 w h)
theorem uhX6_codeAt : yX6_codeAt.cls ≠ "java/lang/invoke/MethodHandle" ∧ yX6_codeAt.cls ≠ "java/lang/invoke/VarHandle" ∧ (parseMethodDescriptor yX6_codeAt.desc).map (fun d => d.parameters.length) = some 1 := by decide +kernel
set_option maxHeartbeats 4000000 in
set_option maxRecDepth 100000 in
theorem uwX6_codeAt_E {p : Program} {l : Launch} {e : Env} {s : State} {m : MethodId} {args : Array Value} {below : List Frame} {meth : Method} {c : Code} {Q : State → Prop} {D : va_G} {cI cT : ClassId} {A : Nat → Prop} (K : ub_kx p s m args meth c cX6_codeAt 2 RX6 wsX6_codeAt D cI cT A) {h0 h1 : Nat} {ym_length : Int32} {ym_codes : (Nat → Int32)} {l1 : Int32} {rr : Int32} (hret : ∀ (H : Heap) (locs : List Loc) (pc : Nat) (ls : Array Slot), decode cX6_codeAt pc = .ok (.ireturn, 1) → narrow .int (.int rr) = .int rr → va_P D vwCl (udX6_codeAt cI h0 h1 ym_length ym_codes) H → va_D A (udX6_codeAt cI h0 h1 ym_length ym_codes) → va_S A s.heap H locs → W p l e ({ frames := 1, cells := 0, slots := 0, locals := 21 } : Room) s m args below meth c H locs 0 0 Q (F0 m pc ls [.int rr])) (h : ufX6_codeAt ym_length ym_codes l1 = some rr) {H : Heap} {locs : List Loc} {ls : Array Slot} (hl : lv_has ls 2 [(0, .ref h0), (1, .int l1)]) (hP : va_P D vwCl (udX6_codeAt cI h0 h1 ym_length ym_codes) H) (hD : va_D A (udX6_codeAt cI h0 h1 ym_length ym_codes)) (hS : va_S A s.heap H locs) : W p l e ({ frames := 1, cells := 0, slots := 0, locals := 21 } : Room) s m args below meth c H locs 0 0 Q (F0 m 0 ls []) := by
  have K0 := K
  obtain ⟨hx, hb, hml, hown, hts, hK, hN, hA⟩ := K
  unfold ufX6_codeAt at h
  refine lv_iload_n hx hb dX6_codeAt_0 rfl (lv_at hl 1 rfl) ?_
  refine lv_if_lt (tgt := 23) hx hb dX6_codeAt_1 (by decide) (fun c1 => ?_) (fun c1 => ?_)
  · have h := ub_if_t c1 h
    refine lv_sipush (v := (-1011)) hx hb dX6_codeAt_23 (by decide) ?_
    cases h
    exact hret H locs _ ls dX6_codeAt_26 rfl hP hD hS
  · have h := ub_if_f c1 h
    refine lv_iload_n hx hb dX6_codeAt_4 rfl (lv_at hl 1 rfl) ?_
    refine lv_aload_n hx hb dX6_codeAt_5 rfl (lv_at hl 0 rfl) ?_
    refine va_get (ci := 8) (v := .int ym_length) (C := RX6) (T := TX6) (N := 2) hx hb hts uiX6_codeAt_X6 hown hK hP 0 rfl rfl 0 (by decide) (hts _ uvX6_codeAt_1) (fun _ h9 => h9) rfl dX6_codeAt_6 ?_
    refine lv_icmp_ge (tgt := 23) hx hb dX6_codeAt_9 (by decide) (fun c9 => ?_) (fun c9 => ?_)
    · have h := ub_if_t c9 h
      refine lv_sipush (v := (-1011)) hx hb dX6_codeAt_23 (by decide) ?_
      cases h
      exact hret H locs _ ls dX6_codeAt_26 rfl hP hD hS
    · have h := ub_if_f c9 h
      refine lv_aload_n hx hb dX6_codeAt_12 rfl (lv_at hl 0 rfl) ?_
      refine va_get (ci := 8) (v := .ref h1) (C := RX6) (T := TX6) (N := 2) hx hb hts uiX6_codeAt_X6 hown hK hP 0 rfl rfl 1 (by decide) (hts _ uvX6_codeAt_2) (fun _ h9 => h9) rfl dX6_codeAt_13 ?_
      refine lv_iload_n hx hb dX6_codeAt_16 rfl (lv_at hl 1 rfl) ?_
      obtain ⟨x_1, hc17, h⟩ := ub_b1_some h
      have hPc : va_P D vwCl (udX8_at cI 60 h1 ym_codes) H := ub_pickP hP [1] rfl
      have hDc : va_D A (udX8_at cI 60 h1 ym_codes) := hD.sub [1] (by decide) rfl
      refine ub_calli (ws' := (udX6_codeAt cI h0 h1 ym_length ym_codes)) (va_runSN (As := [.ref h1, .int l1]) (rest := []) ⟨hx, hb, hml, hown, hts⟩ (ucX8_at l D cI cT hc17) ⟨va_cnB 2 hts gX6_codeAt_X8_at_n29 rfl rfl rfl (hN.at 24 rfl) (hts _ uvX6_codeAt_4) uhX8_at ⟨Nat.le_of_ble_eq_true rfl, Nat.le_of_ble_eq_true rfl⟩, (hts _ uvX6_codeAt_3), trivial⟩ (ub_preS hPc hDc hK hN) rfl rfl hl.1 rfl (lv_room (Nat.le_of_ble_eq_true rfl)) dX6_codeAt_17 ⟨Nat.le_of_ble_eq_true rfl, Nat.le_of_ble_eq_true rfl⟩) hP hD hS hA [1] rfl (by decide) rfl rfl (fun H locs hP hD hS => ?_)
      refine lv_goto (tgt := 26) hx hb dX6_codeAt_20 (by decide) ?_
      cases h
      exact hret H locs _ ls dX6_codeAt_26 rfl hP hD hS
set_option maxHeartbeats 4000000 in
set_option maxRecDepth 100000 in
theorem ucX6_codeAt (l : Launch) (D : va_G) (cI cT : ClassId) {h0 h1 : Nat} {l1 : Int32} {rr : Int32} {ym_length : Int32} {ym_codes : (Nat → Int32)} {sz : Nat} (h : ufX6_codeAt ym_length ym_codes l1 = some rr) : Met l yX6_codeAt wsX6_codeAt ({ frames := 1, cells := 0, slots := 0, locals := 21 } : Room) (va_Pc [.ref h0, .int l1] (ub_pc D cI cT (udX6_codeAt cI h0 h1 ym_length ym_codes) sz)) (va_Qi (fun (r' : Int32) (_ : Unit) => r' = rr) (fun _ t => ub_pq D (udX6_codeAt cI h0 h1 ym_length ym_codes) (va_A (udX6_codeAt cI h0 h1 ym_length ym_codes) sz) t) (va_A (udX6_codeAt cI h0 h1 ym_length ym_codes) sz)) 0 0 (va_A (udX6_codeAt cI h0 h1 ym_length ym_codes) sz) :=
  ub_met_i (by decide +kernel) rfl (Nat.le_of_ble_eq_true rfl) fun _ _ _ _ _ _ _ _ _ _ K hret _ hl hP hD hS => uwX6_codeAt_E K hret h hl hP hD hS
-- X3_readSign
def udX3_readSign (cI : ClassId) (h0 : Nat) (h1 : Nat) (h2 : Nat) (z0 : Nat) (z1 : Nat) (ym_number : Int32) (ym_position : Int32) (yo_length : Int32) (yo_codes : Nat → Int32) : va_W := [(h0, .inr (5, [.int ym_number, .ref z0, .ref z1, .int ym_position])), (h1, .inr (8, [.int yo_length, .ref h2])), (h2, .inl (cI, 60, .inl yo_codes))]
def ufX3_readSign (ym_position : Int32) (yo_length : Int32) (yo_codes : Nat → Int32) (l2 : Int32) : Option (Int32 × Int32) :=
  ub_b1 (ufX6_codeAt yo_length yo_codes ym_position) fun x_1 =>
  if x_1 = l2 then
    some (1, ym_position + 1)
  else
    some (0, ym_position)
theorem uvX3_readSign_1 : Cond.fieldLink RX3 26 "UnheardBells$Orders" "position" "I" ∈ wsX3_readSign := List.mem_cons_of_mem _ us_m267
theorem uiX3_readSign_X3 : ∀ w ∈ u_ws RX3 TX3 4, w ∈ wsX3_readSign := fun w h => List.mem_cons_of_mem _ (us_inX3 w h)
theorem uiX3_readSign_X6 : ∀ w ∈ u_ws RX6 TX6 2, w ∈ wsX3_readSign := fun w h => List.mem_cons_of_mem _ (us_inX6 w h)
theorem uhX3_readSign : yX3_readSign.cls ≠ "java/lang/invoke/MethodHandle" ∧ yX3_readSign.cls ≠ "java/lang/invoke/VarHandle" ∧ (parseMethodDescriptor yX3_readSign.desc).map (fun d => d.parameters.length) = some 2 := by decide +kernel
set_option maxHeartbeats 4000000 in
set_option maxRecDepth 100000 in
theorem uwX3_readSign_E {p : Program} {l : Launch} {e : Env} {s : State} {m : MethodId} {args : Array Value} {below : List Frame} {meth : Method} {c : Code} {Q : State → Prop} {D : va_G} {cI cT : ClassId} {A : Nat → Prop} (K : ub_kx p s m args meth c cX3_readSign 3 RX3 wsX3_readSign D cI cT A) {h0 h1 h2 : Nat} {z0 : Nat} {z1 : Nat} {ym_number : Int32} {ym_position : Int32} {yo_length : Int32} {yo_codes : (Nat → Int32)} {l2 : Int32} {rr : Int32} {w_ym_position : Int32} (hret : ∀ (H : Heap) (locs : List Loc) (pc : Nat) (ls : Array Slot), decode cX3_readSign pc = .ok (.ireturn, 1) → narrow .boolean (.int rr) = .int rr → va_P D vwCl (udX3_readSign cI h0 h1 h2 z0 z1 ym_number w_ym_position yo_length yo_codes) H → va_D A (udX3_readSign cI h0 h1 h2 z0 z1 ym_number w_ym_position yo_length yo_codes) → va_S A s.heap H locs → W p l e ({ frames := 2, cells := 0, slots := 0, locals := 42 } : Room) s m args below meth c H locs 0 0 Q (F0 m pc ls [.int rr])) (h : ufX3_readSign ym_position yo_length yo_codes l2 = some (rr, w_ym_position)) {H : Heap} {locs : List Loc} {ls : Array Slot} (hl : lv_has ls 3 [(0, .ref h0), (1, .ref h1), (2, .int l2)]) (hP : va_P D vwCl (udX3_readSign cI h0 h1 h2 z0 z1 ym_number ym_position yo_length yo_codes) H) (hD : va_D A (udX3_readSign cI h0 h1 h2 z0 z1 ym_number ym_position yo_length yo_codes)) (hS : va_S A s.heap H locs) : W p l e ({ frames := 2, cells := 0, slots := 0, locals := 42 } : Room) s m args below meth c H locs 0 0 Q (F0 m 0 ls []) := by
  have K0 := K
  obtain ⟨hx, hb, hml, hown, hts, hK, hN, hA⟩ := K
  unfold ufX3_readSign at h
  refine lv_aload_n hx hb dX3_readSign_0 rfl (lv_at hl 1 rfl) ?_
  refine lv_aload_n hx hb dX3_readSign_1 rfl (lv_at hl 0 rfl) ?_
  refine va_get (ci := 5) (v := .int ym_position) (C := RX3) (T := TX3) (N := 4) hx hb hts uiX3_readSign_X3 hown hK hP 0 rfl rfl 3 (by decide) (hts _ uvX3_readSign_1) (fun _ h9 => h9) rfl dX3_readSign_2 ?_
  obtain ⟨x_1, hc5, h⟩ := ub_b1_some h
  have hPc : va_P D vwCl (udX6_codeAt cI h1 h2 yo_length yo_codes) H := ub_pickP hP [1, 2] rfl
  have hDc : va_D A (udX6_codeAt cI h1 h2 yo_length yo_codes) := hD.sub [1, 2] (by decide) rfl
  refine ub_calli (ws' := (udX3_readSign cI h0 h1 h2 z0 z1 ym_number ym_position yo_length yo_codes)) (va_runV (As := [.int ym_position]) (rest := []) ⟨hx, hb, hml, hown, hts⟩ (ucX6_codeAt l D cI cT hc5) (cwV 1 hts gX3_readSign_X6_codeAt rfl rfl rfl ⟨rfl, uhX6_codeAt⟩ ⟨Nat.le_of_ble_eq_true rfl, Nat.le_of_ble_eq_true rfl⟩) (ub_preV hPc hDc hK hN 0 (ci := 8) rfl rfl rfl) rfl rfl hl.1 rfl (lv_room (Nat.le_of_ble_eq_true rfl)) dX3_readSign_5 ⟨Nat.le_of_ble_eq_true rfl, Nat.le_of_ble_eq_true rfl⟩) hP hD hS hA [1, 2] rfl (by decide) rfl rfl (fun H locs hP hD hS => ?_)
  refine lv_iload_n hx hb dX3_readSign_8 rfl (lv_at hl 2 rfl) ?_
  refine lv_icmp_eq (tgt := 14) hx hb dX3_readSign_9 (by decide) (fun c9 => ?_) (fun c9 => ?_)
  · have h := ub_if_t c9 h
    refine lv_aload_n hx hb dX3_readSign_14 rfl (lv_at hl 0 rfl) ?_
    refine lv_dup hx hb dX3_readSign_15 rfl ?_
    refine va_get (ci := 5) (v := .int ym_position) (C := RX3) (T := TX3) (N := 4) hx hb hts uiX3_readSign_X3 hown hK hP 0 rfl rfl 3 (by decide) (hts _ uvX3_readSign_1) (fun _ h9 => h9) rfl dX3_readSign_16 ?_
    refine lv_iconst (v := 1) hx hb dX3_readSign_19 (by decide) ?_
    refine lv_iadd hx hb dX3_readSign_20 ?_
    refine ub_put (ws' := (udX3_readSign cI h0 h1 h2 z0 z1 ym_number (ym_position + 1) yo_length yo_codes)) (ci := 5) (C := RX3) (T := TX3) (N := 4) hx hb hts uiX3_readSign_X3 tyX3 tyX3_ok nmX3 hown hK hP hD hS 0 3 (v := .int (ym_position + 1)) (ty := tyX3 3) rfl rfl (by decide) (hts _ uvX3_readSign_1) (fun _ h9 => h9) rfl (tyX3_ok 3 (by decide)) rfl rfl (Nat.le_of_ble_eq_true rfl) rfl dX3_readSign_21 (fun H locs hP hD hS => ?_)
    refine lv_iconst (v := 1) hx hb dX3_readSign_24 (by decide) ?_
    cases h
    exact hret H locs _ ls dX3_readSign_25 rfl hP hD hS
  · have h := ub_if_f c9 h
    refine lv_iconst (v := 0) hx hb dX3_readSign_12 (by decide) ?_
    cases h
    exact hret H locs _ ls dX3_readSign_13 rfl hP hD hS
set_option maxHeartbeats 4000000 in
set_option maxRecDepth 100000 in
theorem ucX3_readSign (l : Launch) (D : va_G) (cI cT : ClassId) {h0 h1 h2 : Nat} {z0 : Nat} {z1 : Nat} {l2 : Int32} {rr : Int32} {w_ym_position : Int32} {ym_number : Int32} {ym_position : Int32} {yo_length : Int32} {yo_codes : (Nat → Int32)} {sz : Nat} (h : ufX3_readSign ym_position yo_length yo_codes l2 = some (rr, w_ym_position)) : Met l yX3_readSign wsX3_readSign ({ frames := 2, cells := 0, slots := 0, locals := 42 } : Room) (va_Pc [.ref h0, .ref h1, .int l2] (ub_pc D cI cT (udX3_readSign cI h0 h1 h2 z0 z1 ym_number ym_position yo_length yo_codes) sz)) (va_Qi (fun (r' : Int32) (_ : Unit) => r' = rr) (fun _ t => ub_pq D (udX3_readSign cI h0 h1 h2 z0 z1 ym_number w_ym_position yo_length yo_codes) (va_A (udX3_readSign cI h0 h1 h2 z0 z1 ym_number ym_position yo_length yo_codes) sz) t) (va_A (udX3_readSign cI h0 h1 h2 z0 z1 ym_number ym_position yo_length yo_codes) sz)) 0 0 (va_A (udX3_readSign cI h0 h1 h2 z0 z1 ym_number ym_position yo_length yo_codes) sz) :=
  ub_met_i (by decide +kernel) rfl (Nat.le_of_ble_eq_true rfl) fun _ _ _ _ _ _ _ _ _ _ K hret _ hl hP hD hS => uwX3_readSign_E K hret h hl hP hD hS
-- X3_readNumber
def udX3_readNumber (cI : ClassId) (h0 : Nat) (h1 : Nat) (h2 : Nat) (h3 : Nat) (z0 : Nat) (ym_number : Int32) (ym_position : Int32) (ym_numbers : Nat → Int32) (yo_length : Int32) (yo_codes : Nat → Int32) : va_W := [(h0, .inr (5, [.int ym_number, .ref z0, .ref h1, .int ym_position])), (h1, .inl (cI, 180, .inl ym_numbers)), (h2, .inr (8, [.int yo_length, .ref h3])), (h3, .inl (cI, 60, .inl yo_codes))]
def ujX3_readNumber_33 (ym_position : Int32) (ym_numbers : Nat → Int32) (yo_length : Int32) (yo_codes : Nat → Int32) (t1 : Int32) (t2 : Int32) : Option (Int32 × Int32 × (Nat → Int32)) :=
  ub_b1 (ufX8_put 180 ym_numbers t1 t2) fun ym_numbers_7 =>
  ub_b2 (ufX3_readSign ym_position yo_length yo_codes 43) fun x_8 ym_position_9 =>
  if x_8 = 0 then
    ub_b2 (ufX3_readSign ym_position_9 yo_length yo_codes 45) fun x_10 ym_position_11 =>
    if x_10 = 0 then
      some (0, ym_position_11, ym_numbers_7)
    else
      some (1, ym_position_11, ym_numbers_7)
  else
    some (1, ym_position_9, ym_numbers_7)
def ufX3_readNumber (ym_position : Int32) (ym_numbers : Nat → Int32) (yo_length : Int32) (yo_codes : Nat → Int32) (l2 : Int32) (l3 : Int32) : Option (Int32 × Int32 × (Nat → Int32)) :=
  ub_b1 (ufX6_codeAt yo_length yo_codes ym_position) fun x_1 =>
  if l2 = 63 then
    if x_1 = 43 then
      ujX3_readNumber_33 ym_position ym_numbers yo_length yo_codes l3 1
    else
      ujX3_readNumber_33 ym_position ym_numbers yo_length yo_codes l3 0
  else
    ub_b1 (ufX8_isDigit x_1) fun x_2 =>
    if x_2 = 0 then
      some (0, ym_position, ym_numbers)
    else
      ub_b1 (ufX8_put 180 ym_numbers l3 (x_1 - 48)) fun ym_numbers_3 =>
      ub_b1 (ufX6_codeAt yo_length yo_codes (ym_position + 1)) fun x_4 =>
      if l2 = 68 then
        ub_b1 (ufX8_isDigit x_4) fun x_5 =>
        if x_5 = 0 then
          some (1, ym_position + 1, ym_numbers_3)
        else
          ub_b1 (ufX8_put 180 ym_numbers_3 l3 ((((x_1 - 48) * 10) + x_4) - 48)) fun ym_numbers_6 =>
          some (1, (ym_position + 1) + 1, ym_numbers_6)
      else
        some (1, ym_position + 1, ym_numbers_3)
theorem uvX3_readNumber_1 : Cond.fieldLink RX3 26 "UnheardBells$Orders" "position" "I" ∈ wsX3_readNumber := List.mem_cons_of_mem _ us_m267
theorem uvX3_readNumber_11 : Cond.initialized RX8 ∈ wsX3_readNumber := List.mem_cons_of_mem _ us_m40
theorem uvX3_readNumber_20 : Cond.static yX8_isDigit ∈ wsX3_readNumber := List.mem_cons_of_mem _ us_m639
theorem uvX3_readNumber_2 : Cond.fieldLink RX3 15 "UnheardBells$Orders" "numbers" "[I" ∈ wsX3_readNumber := List.mem_cons_of_mem _ us_m266
theorem uvX3_readNumber_13 : Cond.static yX8_put ∈ wsX3_readNumber := List.mem_cons_of_mem _ us_m380
theorem uiX3_readNumber_X3 : ∀ w ∈ u_ws RX3 TX3 4, w ∈ wsX3_readNumber := fun w h => List.mem_cons_of_mem _ (us_inX3 w h)
theorem uiX3_readNumber_X6 : ∀ w ∈ u_ws RX6 TX6 2, w ∈ wsX3_readNumber := fun w h => List.mem_cons_of_mem _ (us_inX6 w h)
theorem uhX3_readNumber : yX3_readNumber.cls ≠ "java/lang/invoke/MethodHandle" ∧ yX3_readNumber.cls ≠ "java/lang/invoke/VarHandle" ∧ (parseMethodDescriptor yX3_readNumber.desc).map (fun d => d.parameters.length) = some 3 := by decide +kernel
set_option maxHeartbeats 4000000 in
set_option maxRecDepth 100000 in
theorem uwX3_readNumber_33 {p : Program} {l : Launch} {e : Env} {s : State} {m : MethodId} {args : Array Value} {below : List Frame} {meth : Method} {c : Code} {Q : State → Prop} {D : va_G} {cI cT : ClassId} {A : Nat → Prop} (K : ub_kx p s m args meth c cX3_readNumber 6 RX3 wsX3_readNumber D cI cT A) {h0 h1 h2 h3 : Nat} {z0 : Nat} {ym_number : Int32} {ym_position : Int32} {ym_numbers : (Nat → Int32)} {yo_length : Int32} {yo_codes : (Nat → Int32)} {t1 : Int32} {t2 : Int32} {rr : Int32} {w_ym_position : Int32} {w_ym_numbers : (Nat → Int32)} (hret : ∀ (H : Heap) (locs : List Loc) (pc : Nat) (ls : Array Slot), decode cX3_readNumber pc = .ok (.ireturn, 1) → narrow .boolean (.int rr) = .int rr → va_P D vwCl (udX3_readNumber cI h0 h1 h2 h3 z0 ym_number w_ym_position w_ym_numbers yo_length yo_codes) H → va_D A (udX3_readNumber cI h0 h1 h2 h3 z0 ym_number w_ym_position w_ym_numbers yo_length yo_codes) → va_S A s.heap H locs → W p l e ({ frames := 3, cells := 0, slots := 0, locals := 64 } : Room) s m args below meth c H locs 0 0 Q (F0 m pc ls [.int rr])) (h : ujX3_readNumber_33 ym_position ym_numbers yo_length yo_codes t1 t2 = some (rr, w_ym_position, w_ym_numbers)) {H : Heap} {locs : List Loc} {ls : Array Slot} (hl : lv_has ls 6 [(0, .ref h0), (1, .ref h2)]) (hP : va_P D vwCl (udX3_readNumber cI h0 h1 h2 h3 z0 ym_number ym_position ym_numbers yo_length yo_codes) H) (hD : va_D A (udX3_readNumber cI h0 h1 h2 h3 z0 ym_number ym_position ym_numbers yo_length yo_codes)) (hS : va_S A s.heap H locs) : W p l e ({ frames := 3, cells := 0, slots := 0, locals := 64 } : Room) s m args below meth c H locs 0 0 Q (F0 m 33 ls [.int t2, .int t1, .ref h1]) := by
  have K0 := K
  obtain ⟨hx, hb, hml, hown, hts, hK, hN, hA⟩ := K
  unfold ujX3_readNumber_33 at h
  obtain ⟨ym_numbers_7, hc33, h⟩ := ub_b1_some h
  have hPc : va_P D vwCl (udX8_put cI 180 h1 ym_numbers) H := ub_pickP hP [1] rfl
  have hDc : va_D A (udX8_put cI 180 h1 ym_numbers) := hD.sub [1] (by decide) rfl
  refine ub_callv (ws' := (udX3_readNumber cI h0 h1 h2 h3 z0 ym_number ym_position ym_numbers_7 yo_length yo_codes)) (va_runSN (As := [.ref h1, .int t1, .int t2]) (rest := []) ⟨hx, hb, hml, hown, hts⟩ (ucX8_put l D cI cT hc33) ⟨va_cnB 3 hts gX3_readNumber_X8_put_n56 rfl rfl rfl (hN.at 25 rfl) (hts _ uvX3_readNumber_11) uhX8_put ⟨Nat.le_of_ble_eq_true rfl, Nat.le_of_ble_eq_true rfl⟩, (hts _ uvX3_readNumber_13), trivial⟩ (ub_preS hPc hDc hK hN) rfl rfl hl.1 rfl (lv_room (Nat.le_of_ble_eq_true rfl)) dX3_readNumber_33 ⟨Nat.le_of_ble_eq_true rfl, Nat.le_of_ble_eq_true rfl⟩) hP hD hS hA [1] rfl (by decide) rfl rfl (fun H locs hP hD hS => ?_)
  refine lv_aload_n hx hb dX3_readNumber_36 rfl (lv_at hl 0 rfl) ?_
  refine lv_aload_n hx hb dX3_readNumber_37 rfl (lv_at hl 1 rfl) ?_
  refine lv_bipush (v := 43) hx hb dX3_readNumber_38 (by decide) ?_
  obtain ⟨x_8, ym_position_9, hc40, h⟩ := ub_b2_some h
  have hPc : va_P D vwCl (udX3_readSign cI h0 h2 h3 z0 h1 ym_number ym_position yo_length yo_codes) H := ub_pickP hP [0, 2, 3] rfl
  have hDc : va_D A (udX3_readSign cI h0 h2 h3 z0 h1 ym_number ym_position yo_length yo_codes) := hD.sub [0, 2, 3] (by decide) rfl
  refine ub_calli (ws' := (udX3_readNumber cI h0 h1 h2 h3 z0 ym_number ym_position_9 ym_numbers_7 yo_length yo_codes)) (va_runV (As := [.ref h2, .int 43]) (rest := []) ⟨hx, hb, hml, hown, hts⟩ (ucX3_readSign l D cI cT hc40) (cwV 2 hts gX3_readNumber_X3_readSign rfl rfl rfl ⟨rfl, uhX3_readSign⟩ ⟨Nat.le_of_ble_eq_true rfl, Nat.le_of_ble_eq_true rfl⟩) (ub_preV hPc hDc hK hN 0 (ci := 5) rfl rfl rfl) rfl rfl hl.1 rfl (lv_room (Nat.le_of_ble_eq_true rfl)) dX3_readNumber_40 ⟨Nat.le_of_ble_eq_true rfl, Nat.le_of_ble_eq_true rfl⟩) hP hD hS hA [0, 2, 3] rfl (by decide) rfl rfl (fun H locs hP hD hS => ?_)
  refine lv_if_ne (tgt := 56) hx hb dX3_readNumber_43 (by decide) (fun c43 => ?_) (fun c43 => ?_)
  · have h := ub_if_f c43 h
    refine lv_iconst (v := 1) hx hb dX3_readNumber_56 (by decide) ?_
    refine lv_goto (tgt := 61) hx hb dX3_readNumber_57 (by decide) ?_
    cases h
    exact hret H locs _ ls dX3_readNumber_61 rfl hP hD hS
  · have h := ub_if_t c43 h
    refine lv_aload_n hx hb dX3_readNumber_46 rfl (lv_at hl 0 rfl) ?_
    refine lv_aload_n hx hb dX3_readNumber_47 rfl (lv_at hl 1 rfl) ?_
    refine lv_bipush (v := 45) hx hb dX3_readNumber_48 (by decide) ?_
    obtain ⟨x_10, ym_position_11, hc50, h⟩ := ub_b2_some h
    have hPc : va_P D vwCl (udX3_readSign cI h0 h2 h3 z0 h1 ym_number ym_position_9 yo_length yo_codes) H := ub_pickP hP [0, 2, 3] rfl
    have hDc : va_D A (udX3_readSign cI h0 h2 h3 z0 h1 ym_number ym_position_9 yo_length yo_codes) := hD.sub [0, 2, 3] (by decide) rfl
    refine ub_calli (ws' := (udX3_readNumber cI h0 h1 h2 h3 z0 ym_number ym_position_11 ym_numbers_7 yo_length yo_codes)) (va_runV (As := [.ref h2, .int 45]) (rest := []) ⟨hx, hb, hml, hown, hts⟩ (ucX3_readSign l D cI cT hc50) (cwV 2 hts gX3_readNumber_X3_readSign rfl rfl rfl ⟨rfl, uhX3_readSign⟩ ⟨Nat.le_of_ble_eq_true rfl, Nat.le_of_ble_eq_true rfl⟩) (ub_preV hPc hDc hK hN 0 (ci := 5) rfl rfl rfl) rfl rfl hl.1 rfl (lv_room (Nat.le_of_ble_eq_true rfl)) dX3_readNumber_50 ⟨Nat.le_of_ble_eq_true rfl, Nat.le_of_ble_eq_true rfl⟩) hP hD hS hA [0, 2, 3] rfl (by decide) rfl rfl (fun H locs hP hD hS => ?_)
    refine lv_if_eq (tgt := 60) hx hb dX3_readNumber_53 (by decide) (fun c53 => ?_) (fun c53 => ?_)
    · have h := ub_if_t c53 h
      refine lv_iconst (v := 0) hx hb dX3_readNumber_60 (by decide) ?_
      cases h
      exact hret H locs _ ls dX3_readNumber_61 rfl hP hD hS
    · have h := ub_if_f c53 h
      refine lv_iconst (v := 1) hx hb dX3_readNumber_56 (by decide) ?_
      refine lv_goto (tgt := 61) hx hb dX3_readNumber_57 (by decide) ?_
      cases h
      exact hret H locs _ ls dX3_readNumber_61 rfl hP hD hS
set_option maxHeartbeats 4000000 in
set_option maxRecDepth 100000 in
theorem uwX3_readNumber_E {p : Program} {l : Launch} {e : Env} {s : State} {m : MethodId} {args : Array Value} {below : List Frame} {meth : Method} {c : Code} {Q : State → Prop} {D : va_G} {cI cT : ClassId} {A : Nat → Prop} (K : ub_kx p s m args meth c cX3_readNumber 6 RX3 wsX3_readNumber D cI cT A) {h0 h1 h2 h3 : Nat} {z0 : Nat} {ym_number : Int32} {ym_position : Int32} {ym_numbers : (Nat → Int32)} {yo_length : Int32} {yo_codes : (Nat → Int32)} {l2 : Int32} {l3 : Int32} {rr : Int32} {w_ym_position : Int32} {w_ym_numbers : (Nat → Int32)} (hret : ∀ (H : Heap) (locs : List Loc) (pc : Nat) (ls : Array Slot), decode cX3_readNumber pc = .ok (.ireturn, 1) → narrow .boolean (.int rr) = .int rr → va_P D vwCl (udX3_readNumber cI h0 h1 h2 h3 z0 ym_number w_ym_position w_ym_numbers yo_length yo_codes) H → va_D A (udX3_readNumber cI h0 h1 h2 h3 z0 ym_number w_ym_position w_ym_numbers yo_length yo_codes) → va_S A s.heap H locs → W p l e ({ frames := 3, cells := 0, slots := 0, locals := 64 } : Room) s m args below meth c H locs 0 0 Q (F0 m pc ls [.int rr])) (h : ufX3_readNumber ym_position ym_numbers yo_length yo_codes l2 l3 = some (rr, w_ym_position, w_ym_numbers)) {H : Heap} {locs : List Loc} {ls : Array Slot} (hl : lv_has ls 6 [(0, .ref h0), (1, .ref h2), (2, .int l2), (3, .int l3)]) (hP : va_P D vwCl (udX3_readNumber cI h0 h1 h2 h3 z0 ym_number ym_position ym_numbers yo_length yo_codes) H) (hD : va_D A (udX3_readNumber cI h0 h1 h2 h3 z0 ym_number ym_position ym_numbers yo_length yo_codes)) (hS : va_S A s.heap H locs) : W p l e ({ frames := 3, cells := 0, slots := 0, locals := 64 } : Room) s m args below meth c H locs 0 0 Q (F0 m 0 ls []) := by
  have K0 := K
  obtain ⟨hx, hb, hml, hown, hts, hK, hN, hA⟩ := K
  unfold ufX3_readNumber at h
  refine lv_aload_n hx hb dX3_readNumber_0 rfl (lv_at hl 1 rfl) ?_
  refine lv_aload_n hx hb dX3_readNumber_1 rfl (lv_at hl 0 rfl) ?_
  refine va_get (ci := 5) (v := .int ym_position) (C := RX3) (T := TX3) (N := 4) hx hb hts uiX3_readNumber_X3 hown hK hP 0 rfl rfl 3 (by decide) (hts _ uvX3_readNumber_1) (fun _ h9 => h9) rfl dX3_readNumber_2 ?_
  obtain ⟨x_1, hc5, h⟩ := ub_b1_some h
  have hPc : va_P D vwCl (udX6_codeAt cI h2 h3 yo_length yo_codes) H := ub_pickP hP [2, 3] rfl
  have hDc : va_D A (udX6_codeAt cI h2 h3 yo_length yo_codes) := hD.sub [2, 3] (by decide) rfl
  refine ub_calli (ws' := (udX3_readNumber cI h0 h1 h2 h3 z0 ym_number ym_position ym_numbers yo_length yo_codes)) (va_runV (As := [.int ym_position]) (rest := []) ⟨hx, hb, hml, hown, hts⟩ (ucX6_codeAt l D cI cT hc5) (cwV 1 hts gX3_readNumber_X6_codeAt rfl rfl rfl ⟨rfl, uhX6_codeAt⟩ ⟨Nat.le_of_ble_eq_true rfl, Nat.le_of_ble_eq_true rfl⟩) (ub_preV hPc hDc hK hN 0 (ci := 8) rfl rfl rfl) rfl rfl hl.1 rfl (lv_room (Nat.le_of_ble_eq_true rfl)) dX3_readNumber_5 ⟨Nat.le_of_ble_eq_true rfl, Nat.le_of_ble_eq_true rfl⟩) hP hD hS hA [2, 3] rfl (by decide) rfl rfl (fun H locs hP hD hS => ?_)
  refine lv_istore (lv' := [(4, .int x_1), (0, .ref h0), (1, .ref h2), (2, .int l2), (3, .int l3)]) hx hb dX3_readNumber_8 hl (by decide) rfl (fun ls hl => ?_)
  refine lv_iload_n hx hb dX3_readNumber_10 rfl (lv_at hl 3 rfl) ?_
  refine lv_bipush (v := 63) hx hb dX3_readNumber_11 (by decide) ?_
  refine lv_icmp_ne (tgt := 62) hx hb dX3_readNumber_13 (by decide) (fun c13 => ?_) (fun c13 => ?_)
  · have h := ub_if_f c13 h
    refine lv_iload hx hb dX3_readNumber_62 (lv_at hl 0 rfl) ?_
    obtain ⟨x_2, hc64, h⟩ := ub_b1_some h
    have hPc : va_P D vwCl (udX8_isDigit cI) H := ub_pickP hP [] rfl
    have hDc : va_D A (udX8_isDigit cI) := hD.sub [] (by decide) rfl
    refine ub_calli (ws' := (udX3_readNumber cI h0 h1 h2 h3 z0 ym_number ym_position ym_numbers yo_length yo_codes)) (va_runSN (As := [.int x_1]) (rest := []) ⟨hx, hb, hml, hown, hts⟩ (ucX8_isDigit l D cI cT hc64) ⟨va_cnB 1 hts gX3_readNumber_X8_isDigit_n91 rfl rfl rfl (hN.at 26 rfl) (hts _ uvX3_readNumber_11) uhX8_isDigit ⟨Nat.le_of_ble_eq_true rfl, Nat.le_of_ble_eq_true rfl⟩, (hts _ uvX3_readNumber_20), trivial⟩ (ub_preS hPc hDc hK hN) rfl rfl hl.1 rfl (lv_room (Nat.le_of_ble_eq_true rfl)) dX3_readNumber_64 ⟨Nat.le_of_ble_eq_true rfl, Nat.le_of_ble_eq_true rfl⟩) hP hD hS hA [] rfl (by decide) rfl rfl (fun H locs hP hD hS => ?_)
    refine lv_if_ne (tgt := 72) hx hb dX3_readNumber_67 (by decide) (fun c67 => ?_) (fun c67 => ?_)
    · have h := ub_if_f c67 h
      refine lv_aload_n hx hb dX3_readNumber_72 rfl (lv_at hl 1 rfl) ?_
      refine va_get (ci := 5) (v := .ref h1) (C := RX3) (T := TX3) (N := 4) hx hb hts uiX3_readNumber_X3 hown hK hP 0 rfl rfl 2 (by decide) (hts _ uvX3_readNumber_2) (fun _ h9 => h9) rfl dX3_readNumber_73 ?_
      refine lv_iload_n hx hb dX3_readNumber_76 rfl (lv_at hl 4 rfl) ?_
      refine lv_iload hx hb dX3_readNumber_77 (lv_at hl 0 rfl) ?_
      refine lv_bipush (v := 48) hx hb dX3_readNumber_79 (by decide) ?_
      refine lv_isub hx hb dX3_readNumber_81 ?_
      obtain ⟨ym_numbers_3, hc82, h⟩ := ub_b1_some h
      have hPc : va_P D vwCl (udX8_put cI 180 h1 ym_numbers) H := ub_pickP hP [1] rfl
      have hDc : va_D A (udX8_put cI 180 h1 ym_numbers) := hD.sub [1] (by decide) rfl
      refine ub_callv (ws' := (udX3_readNumber cI h0 h1 h2 h3 z0 ym_number ym_position ym_numbers_3 yo_length yo_codes)) (va_runSN (As := [.ref h1, .int l3, .int (x_1 - 48)]) (rest := []) ⟨hx, hb, hml, hown, hts⟩ (ucX8_put l D cI cT hc82) ⟨va_cnB 3 hts gX3_readNumber_X8_put_n56 rfl rfl rfl (hN.at 25 rfl) (hts _ uvX3_readNumber_11) uhX8_put ⟨Nat.le_of_ble_eq_true rfl, Nat.le_of_ble_eq_true rfl⟩, (hts _ uvX3_readNumber_13), trivial⟩ (ub_preS hPc hDc hK hN) rfl rfl hl.1 rfl (lv_room (Nat.le_of_ble_eq_true rfl)) dX3_readNumber_82 ⟨Nat.le_of_ble_eq_true rfl, Nat.le_of_ble_eq_true rfl⟩) hP hD hS hA [1] rfl (by decide) rfl rfl (fun H locs hP hD hS => ?_)
      refine lv_aload_n hx hb dX3_readNumber_85 rfl (lv_at hl 1 rfl) ?_
      refine lv_dup hx hb dX3_readNumber_86 rfl ?_
      refine va_get (ci := 5) (v := .int ym_position) (C := RX3) (T := TX3) (N := 4) hx hb hts uiX3_readNumber_X3 hown hK hP 0 rfl rfl 3 (by decide) (hts _ uvX3_readNumber_1) (fun _ h9 => h9) rfl dX3_readNumber_87 ?_
      refine lv_iconst (v := 1) hx hb dX3_readNumber_90 (by decide) ?_
      refine lv_iadd hx hb dX3_readNumber_91 ?_
      refine ub_put (ws' := (udX3_readNumber cI h0 h1 h2 h3 z0 ym_number (ym_position + 1) ym_numbers_3 yo_length yo_codes)) (ci := 5) (C := RX3) (T := TX3) (N := 4) hx hb hts uiX3_readNumber_X3 tyX3 tyX3_ok nmX3 hown hK hP hD hS 0 3 (v := .int (ym_position + 1)) (ty := tyX3 3) rfl rfl (by decide) (hts _ uvX3_readNumber_1) (fun _ h9 => h9) rfl (tyX3_ok 3 (by decide)) rfl rfl (Nat.le_of_ble_eq_true rfl) rfl dX3_readNumber_92 (fun H locs hP hD hS => ?_)
      refine lv_aload_n hx hb dX3_readNumber_95 rfl (lv_at hl 2 rfl) ?_
      refine lv_aload_n hx hb dX3_readNumber_96 rfl (lv_at hl 1 rfl) ?_
      refine va_get (ci := 5) (v := .int (ym_position + 1)) (C := RX3) (T := TX3) (N := 4) hx hb hts uiX3_readNumber_X3 hown hK hP 0 rfl rfl 3 (by decide) (hts _ uvX3_readNumber_1) (fun _ h9 => h9) rfl dX3_readNumber_97 ?_
      obtain ⟨x_4, hc100, h⟩ := ub_b1_some h
      have hPc : va_P D vwCl (udX6_codeAt cI h2 h3 yo_length yo_codes) H := ub_pickP hP [2, 3] rfl
      have hDc : va_D A (udX6_codeAt cI h2 h3 yo_length yo_codes) := hD.sub [2, 3] (by decide) rfl
      refine ub_calli (ws' := (udX3_readNumber cI h0 h1 h2 h3 z0 ym_number (ym_position + 1) ym_numbers_3 yo_length yo_codes)) (va_runV (As := [.int (ym_position + 1)]) (rest := []) ⟨hx, hb, hml, hown, hts⟩ (ucX6_codeAt l D cI cT hc100) (cwV 1 hts gX3_readNumber_X6_codeAt rfl rfl rfl ⟨rfl, uhX6_codeAt⟩ ⟨Nat.le_of_ble_eq_true rfl, Nat.le_of_ble_eq_true rfl⟩) (ub_preV hPc hDc hK hN 0 (ci := 8) rfl rfl rfl) rfl rfl hl.1 rfl (lv_room (Nat.le_of_ble_eq_true rfl)) dX3_readNumber_100 ⟨Nat.le_of_ble_eq_true rfl, Nat.le_of_ble_eq_true rfl⟩) hP hD hS hA [2, 3] rfl (by decide) rfl rfl (fun H locs hP hD hS => ?_)
      refine lv_istore (lv' := [(5, .int x_4), (4, .int x_1), (0, .ref h0), (1, .ref h2), (2, .int l2), (3, .int l3)]) hx hb dX3_readNumber_103 hl (by decide) rfl (fun ls hl => ?_)
      refine lv_iload_n hx hb dX3_readNumber_105 rfl (lv_at hl 4 rfl) ?_
      refine lv_bipush (v := 68) hx hb dX3_readNumber_106 (by decide) ?_
      refine lv_icmp_ne (tgt := 151) hx hb dX3_readNumber_108 (by decide) (fun c108 => ?_) (fun c108 => ?_)
      · have h := ub_if_f c108 h
        refine lv_iconst (v := 1) hx hb dX3_readNumber_151 (by decide) ?_
        cases h
        exact hret H locs _ ls dX3_readNumber_152 rfl hP hD hS
      · have h := ub_if_t c108 h
        refine lv_iload hx hb dX3_readNumber_111 (lv_at hl 0 rfl) ?_
        obtain ⟨x_5, hc113, h⟩ := ub_b1_some h
        have hPc : va_P D vwCl (udX8_isDigit cI) H := ub_pickP hP [] rfl
        have hDc : va_D A (udX8_isDigit cI) := hD.sub [] (by decide) rfl
        refine ub_calli (ws' := (udX3_readNumber cI h0 h1 h2 h3 z0 ym_number (ym_position + 1) ym_numbers_3 yo_length yo_codes)) (va_runSN (As := [.int x_4]) (rest := []) ⟨hx, hb, hml, hown, hts⟩ (ucX8_isDigit l D cI cT hc113) ⟨va_cnB 1 hts gX3_readNumber_X8_isDigit_n91 rfl rfl rfl (hN.at 26 rfl) (hts _ uvX3_readNumber_11) uhX8_isDigit ⟨Nat.le_of_ble_eq_true rfl, Nat.le_of_ble_eq_true rfl⟩, (hts _ uvX3_readNumber_20), trivial⟩ (ub_preS hPc hDc hK hN) rfl rfl hl.1 rfl (lv_room (Nat.le_of_ble_eq_true rfl)) dX3_readNumber_113 ⟨Nat.le_of_ble_eq_true rfl, Nat.le_of_ble_eq_true rfl⟩) hP hD hS hA [] rfl (by decide) rfl rfl (fun H locs hP hD hS => ?_)
        refine lv_if_eq (tgt := 151) hx hb dX3_readNumber_116 (by decide) (fun c116 => ?_) (fun c116 => ?_)
        · have h := ub_if_t c116 h
          refine lv_iconst (v := 1) hx hb dX3_readNumber_151 (by decide) ?_
          cases h
          exact hret H locs _ ls dX3_readNumber_152 rfl hP hD hS
        · have h := ub_if_f c116 h
          refine lv_aload_n hx hb dX3_readNumber_119 rfl (lv_at hl 2 rfl) ?_
          refine va_get (ci := 5) (v := .ref h1) (C := RX3) (T := TX3) (N := 4) hx hb hts uiX3_readNumber_X3 hown hK hP 0 rfl rfl 2 (by decide) (hts _ uvX3_readNumber_2) (fun _ h9 => h9) rfl dX3_readNumber_120 ?_
          refine lv_iload_n hx hb dX3_readNumber_123 rfl (lv_at hl 5 rfl) ?_
          refine lv_iload hx hb dX3_readNumber_124 (lv_at hl 1 rfl) ?_
          refine lv_bipush (v := 48) hx hb dX3_readNumber_126 (by decide) ?_
          refine lv_isub hx hb dX3_readNumber_128 ?_
          refine lv_bipush (v := 10) hx hb dX3_readNumber_129 (by decide) ?_
          refine lv_imul hx hb dX3_readNumber_131 ?_
          refine lv_iload hx hb dX3_readNumber_132 (lv_at hl 0 rfl) ?_
          refine lv_iadd hx hb dX3_readNumber_134 ?_
          refine lv_bipush (v := 48) hx hb dX3_readNumber_135 (by decide) ?_
          refine lv_isub hx hb dX3_readNumber_137 ?_
          obtain ⟨ym_numbers_6, hc138, h⟩ := ub_b1_some h
          have hPc : va_P D vwCl (udX8_put cI 180 h1 ym_numbers_3) H := ub_pickP hP [1] rfl
          have hDc : va_D A (udX8_put cI 180 h1 ym_numbers_3) := hD.sub [1] (by decide) rfl
          refine ub_callv (ws' := (udX3_readNumber cI h0 h1 h2 h3 z0 ym_number (ym_position + 1) ym_numbers_6 yo_length yo_codes)) (va_runSN (As := [.ref h1, .int l3, .int ((((x_1 - 48) * 10) + x_4) - 48)]) (rest := []) ⟨hx, hb, hml, hown, hts⟩ (ucX8_put l D cI cT hc138) ⟨va_cnB 3 hts gX3_readNumber_X8_put_n56 rfl rfl rfl (hN.at 25 rfl) (hts _ uvX3_readNumber_11) uhX8_put ⟨Nat.le_of_ble_eq_true rfl, Nat.le_of_ble_eq_true rfl⟩, (hts _ uvX3_readNumber_13), trivial⟩ (ub_preS hPc hDc hK hN) rfl rfl hl.1 rfl (lv_room (Nat.le_of_ble_eq_true rfl)) dX3_readNumber_138 ⟨Nat.le_of_ble_eq_true rfl, Nat.le_of_ble_eq_true rfl⟩) hP hD hS hA [1] rfl (by decide) rfl rfl (fun H locs hP hD hS => ?_)
          refine lv_aload_n hx hb dX3_readNumber_141 rfl (lv_at hl 2 rfl) ?_
          refine lv_dup hx hb dX3_readNumber_142 rfl ?_
          refine va_get (ci := 5) (v := .int (ym_position + 1)) (C := RX3) (T := TX3) (N := 4) hx hb hts uiX3_readNumber_X3 hown hK hP 0 rfl rfl 3 (by decide) (hts _ uvX3_readNumber_1) (fun _ h9 => h9) rfl dX3_readNumber_143 ?_
          refine lv_iconst (v := 1) hx hb dX3_readNumber_146 (by decide) ?_
          refine lv_iadd hx hb dX3_readNumber_147 ?_
          refine ub_put (ws' := (udX3_readNumber cI h0 h1 h2 h3 z0 ym_number ((ym_position + 1) + 1) ym_numbers_6 yo_length yo_codes)) (ci := 5) (C := RX3) (T := TX3) (N := 4) hx hb hts uiX3_readNumber_X3 tyX3 tyX3_ok nmX3 hown hK hP hD hS 0 3 (v := .int ((ym_position + 1) + 1)) (ty := tyX3 3) rfl rfl (by decide) (hts _ uvX3_readNumber_1) (fun _ h9 => h9) rfl (tyX3_ok 3 (by decide)) rfl rfl (Nat.le_of_ble_eq_true rfl) rfl dX3_readNumber_148 (fun H locs hP hD hS => ?_)
          refine lv_iconst (v := 1) hx hb dX3_readNumber_151 (by decide) ?_
          cases h
          exact hret H locs _ ls dX3_readNumber_152 rfl hP hD hS
    · have h := ub_if_t c67 h
      refine lv_iconst (v := 0) hx hb dX3_readNumber_70 (by decide) ?_
      cases h
      exact hret H locs _ ls dX3_readNumber_71 rfl hP hD hS
  · have h := ub_if_t c13 h
    refine lv_aload_n hx hb dX3_readNumber_16 rfl (lv_at hl 1 rfl) ?_
    refine va_get (ci := 5) (v := .ref h1) (C := RX3) (T := TX3) (N := 4) hx hb hts uiX3_readNumber_X3 hown hK hP 0 rfl rfl 2 (by decide) (hts _ uvX3_readNumber_2) (fun _ h9 => h9) rfl dX3_readNumber_17 ?_
    refine lv_iload_n hx hb dX3_readNumber_20 rfl (lv_at hl 4 rfl) ?_
    refine lv_iload hx hb dX3_readNumber_21 (lv_at hl 0 rfl) ?_
    refine lv_bipush (v := 43) hx hb dX3_readNumber_23 (by decide) ?_
    refine lv_icmp_ne (tgt := 32) hx hb dX3_readNumber_25 (by decide) (fun c25 => ?_) (fun c25 => ?_)
    · have h := ub_if_f c25 h
      refine lv_iconst (v := 0) hx hb dX3_readNumber_32 (by decide) ?_
      exact uwX3_readNumber_33 K0 hret h (lv_sub hl [1, 2] rfl) hP hD hS
    · have h := ub_if_t c25 h
      refine lv_iconst (v := 1) hx hb dX3_readNumber_28 (by decide) ?_
      refine lv_goto (tgt := 33) hx hb dX3_readNumber_29 (by decide) ?_
      exact uwX3_readNumber_33 K0 hret h (lv_sub hl [1, 2] rfl) hP hD hS
set_option maxHeartbeats 4000000 in
set_option maxRecDepth 100000 in
theorem ucX3_readNumber (l : Launch) (D : va_G) (cI cT : ClassId) {h0 h1 h2 h3 : Nat} {z0 : Nat} {l2 : Int32} {l3 : Int32} {rr : Int32} {w_ym_position : Int32} {w_ym_numbers : (Nat → Int32)} {ym_number : Int32} {ym_position : Int32} {ym_numbers : (Nat → Int32)} {yo_length : Int32} {yo_codes : (Nat → Int32)} {sz : Nat} (h : ufX3_readNumber ym_position ym_numbers yo_length yo_codes l2 l3 = some (rr, w_ym_position, w_ym_numbers)) : Met l yX3_readNumber wsX3_readNumber ({ frames := 3, cells := 0, slots := 0, locals := 64 } : Room) (va_Pc [.ref h0, .ref h2, .int l2, .int l3] (ub_pc D cI cT (udX3_readNumber cI h0 h1 h2 h3 z0 ym_number ym_position ym_numbers yo_length yo_codes) sz)) (va_Qi (fun (r' : Int32) (_ : Unit) => r' = rr) (fun _ t => ub_pq D (udX3_readNumber cI h0 h1 h2 h3 z0 ym_number w_ym_position w_ym_numbers yo_length yo_codes) (va_A (udX3_readNumber cI h0 h1 h2 h3 z0 ym_number ym_position ym_numbers yo_length yo_codes) sz) t) (va_A (udX3_readNumber cI h0 h1 h2 h3 z0 ym_number ym_position ym_numbers yo_length yo_codes) sz)) 0 0 (va_A (udX3_readNumber cI h0 h1 h2 h3 z0 ym_number ym_position ym_numbers yo_length yo_codes) sz) :=
  ub_met_i (by decide +kernel) rfl (Nat.le_of_ble_eq_true rfl) fun _ _ _ _ _ _ _ _ _ _ K hret _ hl hP hD hS => uwX3_readNumber_E K hret h hl hP hD hS
