-- X3_readOrder
def udX3_readOrder (cI : ClassId) (h0 : Nat) (h1 : Nat) (h2 : Nat) (h3 : Nat) (h4 : Nat) (ym_number : Int32) (ym_position : Int32) (ym_kinds : Nat → Int32) (ym_numbers : Nat → Int32) (yo_length : Int32) (yo_codes : Nat → Int32) : va_W := [(h0, .inr (5, [.int ym_number, .ref h1, .ref h2, .int ym_position])), (h1, .inl (cI, 60, .inl ym_kinds)), (h2, .inl (cI, 180, .inl ym_numbers)), (h3, .inr (8, [.int yo_length, .ref h4])), (h4, .inl (cI, 60, .inl yo_codes))]
def ujX3_readOrder_119 (nx51 : Int32 → (Nat → Int32) → Int32 → Int32 → Option (Int32 × Int32 × Int32 × (Nat → Int32) × (Nat → Int32))) (ym_number : Int32) (ym_position : Int32) (ym_kinds : Nat → Int32) (ym_numbers : Nat → Int32) (yo_length : Int32) (yo_codes : Nat → Int32) (l2 : Nat) (l3 : Int32) (l4 : Int32) (l6 : Int32) (t0 : Int32) : Option (Int32 × Int32 × Int32 × (Nat → Int32) × (Nat → Int32)) :=
  if t0 = 0 then
    some (0, ym_number, ym_position, ym_kinds, ym_numbers)
  else
    if l6 = 0 then
      nx51 ym_position ym_numbers l3 (l4 + 1)
    else
      nx51 ym_position ym_numbers (l3 + 1) (l4 + 1)
def ujX3_readOrder_94 (nx51 : Int32 → (Nat → Int32) → Int32 → Int32 → Option (Int32 × Int32 × Int32 × (Nat → Int32) × (Nat → Int32))) (ym_number : Int32) (ym_position : Int32) (ym_kinds : Nat → Int32) (ym_numbers : Nat → Int32) (yo_length : Int32) (yo_codes : Nat → Int32) (l2 : Nat) (l3 : Int32) (l4 : Int32) (l5 : Int32) (t0 : Int32) : Option (Int32 × Int32 × Int32 × (Nat → Int32) × (Nat → Int32)) :=
  if t0 = 0 then
    ub_b2 (ufX3_readSign ym_position yo_length yo_codes l5) fun x_5 ym_position_6 =>
    ujX3_readOrder_119 nx51 ym_number ym_position_6 ym_kinds ym_numbers yo_length yo_codes l2 l3 l4 t0 x_5
  else
    ub_b3 (ufX3_readNumber ym_position ym_numbers yo_length yo_codes l5 l3) fun x_7 ym_position_8 ym_numbers_9 =>
    ujX3_readOrder_119 nx51 ym_number ym_position_8 ym_kinds ym_numbers_9 yo_length yo_codes l2 l3 l4 t0 x_7
def ujX3_readOrder_89 (nx51 : Int32 → (Nat → Int32) → Int32 → Int32 → Option (Int32 × Int32 × Int32 × (Nat → Int32) × (Nat → Int32))) (ym_number : Int32) (ym_position : Int32) (ym_kinds : Nat → Int32) (ym_numbers : Nat → Int32) (yo_length : Int32) (yo_codes : Nat → Int32) (l2 : Nat) (l3 : Int32) (l4 : Int32) (l5 : Int32) : Option (Int32 × Int32 × Int32 × (Nat → Int32) × (Nat → Int32)) :=
  ujX3_readOrder_94 nx51 ym_number ym_position ym_kinds ym_numbers yo_length yo_codes l2 l3 l4 l5 1
def ulX3_readOrder_51 (ym_number : Int32) (ym_kinds : Nat → Int32) (yo_length : Int32) (yo_codes : Nat → Int32) (l2 : Nat) : Nat → Int32 → (Nat → Int32) → Int32 → Int32 → Option (Int32 × Int32 × Int32 × (Nat → Int32) × (Nat → Int32))
  | 0, _, _, _, _ => none
  | k + 1, ym_position, ym_numbers, l3, l4 =>
    ub_lt l2 10 <|
    if (nI (ub_len.getD l2 0)) ≤ l4 then
      some (1, ym_number + 1, ym_position, ym_kinds, ym_numbers)
    else
      ub_lt l2 10 <|
      ub_gd l4 (ub_len.getD l2 0) <|
      if (ub_ch l2 (Int32.toNatClampNeg l4)) = 68 then
        ujX3_readOrder_89 (fun ym_position' ym_numbers' l3' l4' => ulX3_readOrder_51 ym_number ym_kinds yo_length yo_codes l2 k ym_position' ym_numbers' l3' l4') ym_number ym_position ym_kinds ym_numbers yo_length yo_codes l2 l3 l4 (ub_ch l2 (Int32.toNatClampNeg l4))
      else
        if (ub_ch l2 (Int32.toNatClampNeg l4)) = 100 then
          ujX3_readOrder_89 (fun ym_position' ym_numbers' l3' l4' => ulX3_readOrder_51 ym_number ym_kinds yo_length yo_codes l2 k ym_position' ym_numbers' l3' l4') ym_number ym_position ym_kinds ym_numbers yo_length yo_codes l2 l3 l4 (ub_ch l2 (Int32.toNatClampNeg l4))
        else
          if (ub_ch l2 (Int32.toNatClampNeg l4)) = 63 then
            ujX3_readOrder_89 (fun ym_position' ym_numbers' l3' l4' => ulX3_readOrder_51 ym_number ym_kinds yo_length yo_codes l2 k ym_position' ym_numbers' l3' l4') ym_number ym_position ym_kinds ym_numbers yo_length yo_codes l2 l3 l4 (ub_ch l2 (Int32.toNatClampNeg l4))
          else
            ujX3_readOrder_94 (fun ym_position' ym_numbers' l3' l4' => ulX3_readOrder_51 ym_number ym_kinds yo_length yo_codes l2 k ym_position' ym_numbers' l3' l4') ym_number ym_position ym_kinds ym_numbers yo_length yo_codes l2 l3 l4 (ub_ch l2 (Int32.toNatClampNeg l4)) 0
def ufX3_readOrder (ym_number : Int32) (ym_position : Int32) (ym_kinds : Nat → Int32) (ym_numbers : Nat → Int32) (yo_length : Int32) (yo_codes : Nat → Int32) : Option (Int32 × Int32 × Int32 × (Nat → Int32) × (Nat → Int32)) :=
  ub_b1 (ufX6_codeAt yo_length yo_codes ym_position) fun x_1 =>
  ub_nm (ufX3_shapeOf x_1) fun i_2 =>
  ub_lt i_2 10 <|
  if (ub_em i_2) = 0 then
    ub_b1 (ufX6_codeAt yo_length yo_codes ym_position) fun x_3 =>
    ub_b1 (ufX8_put 60 ym_kinds ym_number x_3) fun ym_kinds_4 =>
    ulX3_readOrder_51 ym_number ym_kinds_4 yo_length yo_codes i_2 ub_F ym_position ym_numbers (ym_number * 3) 0
  else
    some (0, ym_number, ym_position, ym_kinds, ym_numbers)
theorem uvX3_readOrder_1 : Cond.fieldLink RX3 26 "UnheardBells$Orders" "position" "I" ∈ wsX3_readOrder := List.mem_cons_of_mem _ us_m267
theorem uvX3_readOrder_2 : Cond.fieldLink RX3 9 "UnheardBells$Orders" "kinds" "[I" ∈ wsX3_readOrder := List.mem_cons_of_mem _ us_m264
theorem uvX3_readOrder_3 : Cond.fieldLink RX3 22 "UnheardBells$Orders" "number" "I" ∈ wsX3_readOrder := List.mem_cons_of_mem _ us_m262
theorem uvX3_readOrder_12 : Cond.initialized RX8 ∈ wsX3_readOrder := List.mem_cons_of_mem _ us_m40
theorem uvX3_readOrder_25 : Cond.static yX8_put ∈ wsX3_readOrder := List.mem_cons_of_mem _ us_m380
theorem uiX3_readOrder_X3 : ∀ w ∈ u_ws RX3 TX3 4, w ∈ wsX3_readOrder := fun w h => List.mem_cons_of_mem _ (us_inX3 w h)
theorem uiX3_readOrder_X6 : ∀ w ∈ u_ws RX6 TX6 2, w ∈ wsX3_readOrder := fun w h => List.mem_cons_of_mem _ (us_inX6 w h)
theorem uiX3_readOrder_J0 : ∀ w ∈ u_ws RJ0 TJ0 4, w ∈ wsX3_readOrder := fun w h => List.mem_cons_of_mem _ (us_inJ0 w h)
theorem uhX3_readOrder : yX3_readOrder.cls ≠ "java/lang/invoke/MethodHandle" ∧ yX3_readOrder.cls ≠ "java/lang/invoke/VarHandle" ∧ (parseMethodDescriptor yX3_readOrder.desc).map (fun d => d.parameters.length) = some 1 := by decide +kernel
set_option maxHeartbeats 4000000 in
set_option maxRecDepth 100000 in
theorem uwX3_readOrder_119 {p : Program} {l : Launch} {e : Env} {s : State} {m : MethodId} {args : Array Value} {below : List Frame} {meth : Method} {c : Code} {Q : State → Prop} {D : va_G} {cI cT : ClassId} {A : Nat → Prop} (K : ub_kx p s m args meth c cX3_readOrder 8 RX3 wsX3_readOrder D cI cT A) {adK adV : Nat → Nat} (Z : ub_Z adK adV A s s.heap) {h0 h1 h2 h3 h4 : Nat} {ym_number : Int32} {ym_position : Int32} {ym_kinds : (Nat → Int32)} {ym_numbers : (Nat → Int32)} {yo_length : Int32} {yo_codes : (Nat → Int32)} {l2 : Nat} {l3 : Int32} {l4 : Int32} {l6 : Int32} {t0 : Int32} {rr : Int32} {w_ym_number : Int32} {w_ym_position : Int32} {w_ym_kinds : (Nat → Int32)} {w_ym_numbers : (Nat → Int32)} {nx51 : Int32 → (Nat → Int32) → Int32 → Int32 → Option (Int32 × Int32 × Int32 × (Nat → Int32) × (Nat → Int32))} (hret : ∀ (H : Heap) (locs : List Loc) (pc : Nat) (ls : Array Slot), decode cX3_readOrder pc = .ok (.ireturn, 1) → narrow .boolean (.int rr) = .int rr → va_P D vwCl (udX3_readOrder cI h0 h1 h2 h3 h4 w_ym_number w_ym_position w_ym_kinds w_ym_numbers yo_length yo_codes) H → va_D A (udX3_readOrder cI h0 h1 h2 h3 h4 w_ym_number w_ym_position w_ym_kinds w_ym_numbers yo_length yo_codes) → va_S A s.heap H locs → W p l e ({ frames := 4, cells := 0, slots := 0, locals := 89 } : Room) s m args below meth c H locs 0 0 Q (F0 m pc ls [.int rr])) (hnx51 : ∀ (ym_position : Int32) (ym_numbers : (Nat → Int32)) (l3 : Int32) (l4 : Int32), nx51 ym_position ym_numbers l3 l4 = some (rr, w_ym_number, w_ym_position, w_ym_kinds, w_ym_numbers) → ∀ (H : Heap) (locs : List Loc) (ls : Array Slot), lv_has ls 8 [(0, .ref h0), (1, .ref h3), (2, .ref (adK l2)), (3, .int l3), (4, .int l4)] → va_P D vwCl (udX3_readOrder cI h0 h1 h2 h3 h4 ym_number ym_position ym_kinds ym_numbers yo_length yo_codes) H → va_D A (udX3_readOrder cI h0 h1 h2 h3 h4 ym_number ym_position ym_kinds ym_numbers yo_length yo_codes) → va_S A s.heap H locs → W p l e ({ frames := 4, cells := 0, slots := 0, locals := 89 } : Room) s m args below meth c H locs 0 0 Q (F0 m 51 ls [])) (h : ujX3_readOrder_119 nx51 ym_number ym_position ym_kinds ym_numbers yo_length yo_codes l2 l3 l4 l6 t0 = some (rr, w_ym_number, w_ym_position, w_ym_kinds, w_ym_numbers)) {H : Heap} {locs : List Loc} {ls : Array Slot} (hl : lv_has ls 8 [(0, .ref h0), (1, .ref h3), (2, .ref (adK l2)), (3, .int l3), (4, .int l4), (6, .int l6)]) (hP : va_P D vwCl (udX3_readOrder cI h0 h1 h2 h3 h4 ym_number ym_position ym_kinds ym_numbers yo_length yo_codes) H) (hD : va_D A (udX3_readOrder cI h0 h1 h2 h3 h4 ym_number ym_position ym_kinds ym_numbers yo_length yo_codes)) (hS : va_S A s.heap H locs) : W p l e ({ frames := 4, cells := 0, slots := 0, locals := 89 } : Room) s m args below meth c H locs 0 0 Q (F0 m 119 ls [.int t0]) := by
  have K0 := K
  obtain ⟨hx, hb, hml, hown, hts, hK, hN, hA⟩ := K
  unfold ujX3_readOrder_119 at h
  refine lv_istore (lv' := [(7, .int t0), (0, .ref h0), (1, .ref h3), (2, .ref (adK l2)), (3, .int l3), (4, .int l4), (6, .int l6)]) hx hb dX3_readOrder_119 hl (by decide) rfl (fun ls hl => ?_)
  refine lv_iload hx hb dX3_readOrder_121 (lv_at hl 0 rfl) ?_
  refine lv_if_ne (tgt := 128) hx hb dX3_readOrder_123 (by decide) (fun c123 => ?_) (fun c123 => ?_)
  · have h := ub_if_f c123 h
    refine lv_iload hx hb dX3_readOrder_128 (lv_at hl 6 rfl) ?_
    refine lv_if_eq (tgt := 136) hx hb dX3_readOrder_130 (by decide) (fun c130 => ?_) (fun c130 => ?_)
    · have h := ub_if_t c130 h
      refine lv_iinc (v := l4 + 1) (lv' := [(4, .int (l4 + 1)), (7, .int t0), (0, .ref h0), (1, .ref h3), (2, .ref (adK l2)), (3, .int l3), (6, .int l6)]) hx hb dX3_readOrder_136 hl (k := 5) rfl rfl (by decide) rfl (fun ls hl => ?_)
      refine lv_goto (tgt := 51) hx hb dX3_readOrder_139 (by decide) ?_
      exact hnx51 ym_position ym_numbers l3 (l4 + 1) h H locs ls (lv_sub hl [2, 3, 4, 5, 0] rfl) hP hD hS
    · have h := ub_if_f c130 h
      refine lv_iinc (v := l3 + 1) (lv' := [(3, .int (l3 + 1)), (7, .int t0), (0, .ref h0), (1, .ref h3), (2, .ref (adK l2)), (4, .int l4), (6, .int l6)]) hx hb dX3_readOrder_133 hl (k := 4) rfl rfl (by decide) rfl (fun ls hl => ?_)
      refine lv_iinc (v := l4 + 1) (lv' := [(4, .int (l4 + 1)), (3, .int (l3 + 1)), (7, .int t0), (0, .ref h0), (1, .ref h3), (2, .ref (adK l2)), (6, .int l6)]) hx hb dX3_readOrder_136 hl (k := 5) rfl rfl (by decide) rfl (fun ls hl => ?_)
      refine lv_goto (tgt := 51) hx hb dX3_readOrder_139 (by decide) ?_
      exact hnx51 ym_position ym_numbers (l3 + 1) (l4 + 1) h H locs ls (lv_sub hl [3, 4, 5, 1, 0] rfl) hP hD hS
  · have h := ub_if_t c123 h
    refine lv_iconst (v := 0) hx hb dX3_readOrder_126 (by decide) ?_
    cases h
    exact hret H locs _ ls dX3_readOrder_127 rfl hP hD hS
set_option maxHeartbeats 4000000 in
set_option maxRecDepth 100000 in
theorem uwX3_readOrder_94 {p : Program} {l : Launch} {e : Env} {s : State} {m : MethodId} {args : Array Value} {below : List Frame} {meth : Method} {c : Code} {Q : State → Prop} {D : va_G} {cI cT : ClassId} {A : Nat → Prop} (K : ub_kx p s m args meth c cX3_readOrder 8 RX3 wsX3_readOrder D cI cT A) {adK adV : Nat → Nat} (Z : ub_Z adK adV A s s.heap) {h0 h1 h2 h3 h4 : Nat} {ym_number : Int32} {ym_position : Int32} {ym_kinds : (Nat → Int32)} {ym_numbers : (Nat → Int32)} {yo_length : Int32} {yo_codes : (Nat → Int32)} {l2 : Nat} {l3 : Int32} {l4 : Int32} {l5 : Int32} {t0 : Int32} {rr : Int32} {w_ym_number : Int32} {w_ym_position : Int32} {w_ym_kinds : (Nat → Int32)} {w_ym_numbers : (Nat → Int32)} {nx51 : Int32 → (Nat → Int32) → Int32 → Int32 → Option (Int32 × Int32 × Int32 × (Nat → Int32) × (Nat → Int32))} (hret : ∀ (H : Heap) (locs : List Loc) (pc : Nat) (ls : Array Slot), decode cX3_readOrder pc = .ok (.ireturn, 1) → narrow .boolean (.int rr) = .int rr → va_P D vwCl (udX3_readOrder cI h0 h1 h2 h3 h4 w_ym_number w_ym_position w_ym_kinds w_ym_numbers yo_length yo_codes) H → va_D A (udX3_readOrder cI h0 h1 h2 h3 h4 w_ym_number w_ym_position w_ym_kinds w_ym_numbers yo_length yo_codes) → va_S A s.heap H locs → W p l e ({ frames := 4, cells := 0, slots := 0, locals := 89 } : Room) s m args below meth c H locs 0 0 Q (F0 m pc ls [.int rr])) (hnx51 : ∀ (ym_position : Int32) (ym_numbers : (Nat → Int32)) (l3 : Int32) (l4 : Int32), nx51 ym_position ym_numbers l3 l4 = some (rr, w_ym_number, w_ym_position, w_ym_kinds, w_ym_numbers) → ∀ (H : Heap) (locs : List Loc) (ls : Array Slot), lv_has ls 8 [(0, .ref h0), (1, .ref h3), (2, .ref (adK l2)), (3, .int l3), (4, .int l4)] → va_P D vwCl (udX3_readOrder cI h0 h1 h2 h3 h4 ym_number ym_position ym_kinds ym_numbers yo_length yo_codes) H → va_D A (udX3_readOrder cI h0 h1 h2 h3 h4 ym_number ym_position ym_kinds ym_numbers yo_length yo_codes) → va_S A s.heap H locs → W p l e ({ frames := 4, cells := 0, slots := 0, locals := 89 } : Room) s m args below meth c H locs 0 0 Q (F0 m 51 ls [])) (h : ujX3_readOrder_94 nx51 ym_number ym_position ym_kinds ym_numbers yo_length yo_codes l2 l3 l4 l5 t0 = some (rr, w_ym_number, w_ym_position, w_ym_kinds, w_ym_numbers)) {H : Heap} {locs : List Loc} {ls : Array Slot} (hl : lv_has ls 8 [(0, .ref h0), (1, .ref h3), (2, .ref (adK l2)), (3, .int l3), (4, .int l4), (5, .int l5)]) (hP : va_P D vwCl (udX3_readOrder cI h0 h1 h2 h3 h4 ym_number ym_position ym_kinds ym_numbers yo_length yo_codes) H) (hD : va_D A (udX3_readOrder cI h0 h1 h2 h3 h4 ym_number ym_position ym_kinds ym_numbers yo_length yo_codes)) (hS : va_S A s.heap H locs) : W p l e ({ frames := 4, cells := 0, slots := 0, locals := 89 } : Room) s m args below meth c H locs 0 0 Q (F0 m 94 ls [.int t0]) := by
  have K0 := K
  obtain ⟨hx, hb, hml, hown, hts, hK, hN, hA⟩ := K
  unfold ujX3_readOrder_94 at h
  refine lv_istore (lv' := [(6, .int t0), (0, .ref h0), (1, .ref h3), (2, .ref (adK l2)), (3, .int l3), (4, .int l4), (5, .int l5)]) hx hb dX3_readOrder_94 hl (by decide) rfl (fun ls hl => ?_)
  refine lv_iload hx hb dX3_readOrder_96 (lv_at hl 0 rfl) ?_
  refine lv_if_eq (tgt := 112) hx hb dX3_readOrder_98 (by decide) (fun c98 => ?_) (fun c98 => ?_)
  · have h := ub_if_t c98 h
    refine lv_aload_n hx hb dX3_readOrder_112 rfl (lv_at hl 1 rfl) ?_
    refine lv_aload_n hx hb dX3_readOrder_113 rfl (lv_at hl 2 rfl) ?_
    refine lv_iload hx hb dX3_readOrder_114 (lv_at hl 6 rfl) ?_
    obtain ⟨x_5, ym_position_6, hc116, h⟩ := ub_b2_some h
    have hPc : va_P D vwCl (udX3_readSign cI h0 h3 h4 h1 h2 ym_number ym_position yo_length yo_codes) H := ub_pickP hP [0, 3, 4] rfl
    have hDc : va_D A (udX3_readSign cI h0 h3 h4 h1 h2 ym_number ym_position yo_length yo_codes) := hD.sub [0, 3, 4] (by decide) rfl
    refine ub_calli (ws' := (udX3_readOrder cI h0 h1 h2 h3 h4 ym_number ym_position_6 ym_kinds ym_numbers yo_length yo_codes)) (va_runV (As := [.ref h3, .int l5]) (rest := []) ⟨hx, hb, hml, hown, hts⟩ (ucX3_readSign l D cI cT hc116) (cwV 2 hts gX3_readOrder_X3_readSign rfl rfl rfl ⟨rfl, uhX3_readSign⟩ ⟨Nat.le_of_ble_eq_true rfl, Nat.le_of_ble_eq_true rfl⟩) (ub_preV hPc hDc hK hN 0 (ci := 5) rfl rfl rfl) rfl rfl hl.1 rfl (lv_room (Nat.le_of_ble_eq_true rfl)) dX3_readOrder_116 ⟨Nat.le_of_ble_eq_true rfl, Nat.le_of_ble_eq_true rfl⟩) hP hD hS hA [0, 3, 4] rfl (by decide) rfl rfl (fun H locs hP hD hS => ?_)
    exact uwX3_readOrder_119 K0 Z hret hnx51 h (lv_sub hl [1, 2, 3, 4, 5, 0] rfl) hP hD hS
  · have h := ub_if_f c98 h
    refine lv_aload_n hx hb dX3_readOrder_101 rfl (lv_at hl 1 rfl) ?_
    refine lv_aload_n hx hb dX3_readOrder_102 rfl (lv_at hl 2 rfl) ?_
    refine lv_iload hx hb dX3_readOrder_103 (lv_at hl 6 rfl) ?_
    refine lv_iload_n hx hb dX3_readOrder_105 rfl (lv_at hl 4 rfl) ?_
    obtain ⟨x_7, ym_position_8, ym_numbers_9, hc106, h⟩ := ub_b3_some h
    have hPc : va_P D vwCl (udX3_readNumber cI h0 h2 h3 h4 h1 ym_number ym_position ym_numbers yo_length yo_codes) H := ub_pickP hP [0, 2, 3, 4] rfl
    have hDc : va_D A (udX3_readNumber cI h0 h2 h3 h4 h1 ym_number ym_position ym_numbers yo_length yo_codes) := hD.sub [0, 2, 3, 4] (by decide) rfl
    refine ub_calli (ws' := (udX3_readOrder cI h0 h1 h2 h3 h4 ym_number ym_position_8 ym_kinds ym_numbers_9 yo_length yo_codes)) (va_runV (As := [.ref h3, .int l5, .int l3]) (rest := []) ⟨hx, hb, hml, hown, hts⟩ (ucX3_readNumber l D cI cT hc106) (cwV 3 hts gX3_readOrder_X3_readNumber rfl rfl rfl ⟨rfl, uhX3_readNumber⟩ ⟨Nat.le_of_ble_eq_true rfl, Nat.le_of_ble_eq_true rfl⟩) (ub_preV hPc hDc hK hN 0 (ci := 5) rfl rfl rfl) rfl rfl hl.1 rfl (lv_room (Nat.le_of_ble_eq_true rfl)) dX3_readOrder_106 ⟨Nat.le_of_ble_eq_true rfl, Nat.le_of_ble_eq_true rfl⟩) hP hD hS hA [0, 2, 3, 4] rfl (by decide) rfl rfl (fun H locs hP hD hS => ?_)
    refine lv_goto (tgt := 119) hx hb dX3_readOrder_109 (by decide) ?_
    exact uwX3_readOrder_119 K0 Z hret hnx51 h (lv_sub hl [1, 2, 3, 4, 5, 0] rfl) hP hD hS
set_option maxHeartbeats 4000000 in
set_option maxRecDepth 100000 in
theorem uwX3_readOrder_89 {p : Program} {l : Launch} {e : Env} {s : State} {m : MethodId} {args : Array Value} {below : List Frame} {meth : Method} {c : Code} {Q : State → Prop} {D : va_G} {cI cT : ClassId} {A : Nat → Prop} (K : ub_kx p s m args meth c cX3_readOrder 8 RX3 wsX3_readOrder D cI cT A) {adK adV : Nat → Nat} (Z : ub_Z adK adV A s s.heap) {h0 h1 h2 h3 h4 : Nat} {ym_number : Int32} {ym_position : Int32} {ym_kinds : (Nat → Int32)} {ym_numbers : (Nat → Int32)} {yo_length : Int32} {yo_codes : (Nat → Int32)} {l2 : Nat} {l3 : Int32} {l4 : Int32} {l5 : Int32} {rr : Int32} {w_ym_number : Int32} {w_ym_position : Int32} {w_ym_kinds : (Nat → Int32)} {w_ym_numbers : (Nat → Int32)} {nx51 : Int32 → (Nat → Int32) → Int32 → Int32 → Option (Int32 × Int32 × Int32 × (Nat → Int32) × (Nat → Int32))} (hret : ∀ (H : Heap) (locs : List Loc) (pc : Nat) (ls : Array Slot), decode cX3_readOrder pc = .ok (.ireturn, 1) → narrow .boolean (.int rr) = .int rr → va_P D vwCl (udX3_readOrder cI h0 h1 h2 h3 h4 w_ym_number w_ym_position w_ym_kinds w_ym_numbers yo_length yo_codes) H → va_D A (udX3_readOrder cI h0 h1 h2 h3 h4 w_ym_number w_ym_position w_ym_kinds w_ym_numbers yo_length yo_codes) → va_S A s.heap H locs → W p l e ({ frames := 4, cells := 0, slots := 0, locals := 89 } : Room) s m args below meth c H locs 0 0 Q (F0 m pc ls [.int rr])) (hnx51 : ∀ (ym_position : Int32) (ym_numbers : (Nat → Int32)) (l3 : Int32) (l4 : Int32), nx51 ym_position ym_numbers l3 l4 = some (rr, w_ym_number, w_ym_position, w_ym_kinds, w_ym_numbers) → ∀ (H : Heap) (locs : List Loc) (ls : Array Slot), lv_has ls 8 [(0, .ref h0), (1, .ref h3), (2, .ref (adK l2)), (3, .int l3), (4, .int l4)] → va_P D vwCl (udX3_readOrder cI h0 h1 h2 h3 h4 ym_number ym_position ym_kinds ym_numbers yo_length yo_codes) H → va_D A (udX3_readOrder cI h0 h1 h2 h3 h4 ym_number ym_position ym_kinds ym_numbers yo_length yo_codes) → va_S A s.heap H locs → W p l e ({ frames := 4, cells := 0, slots := 0, locals := 89 } : Room) s m args below meth c H locs 0 0 Q (F0 m 51 ls [])) (h : ujX3_readOrder_89 nx51 ym_number ym_position ym_kinds ym_numbers yo_length yo_codes l2 l3 l4 l5 = some (rr, w_ym_number, w_ym_position, w_ym_kinds, w_ym_numbers)) {H : Heap} {locs : List Loc} {ls : Array Slot} (hl : lv_has ls 8 [(0, .ref h0), (1, .ref h3), (2, .ref (adK l2)), (3, .int l3), (4, .int l4), (5, .int l5)]) (hP : va_P D vwCl (udX3_readOrder cI h0 h1 h2 h3 h4 ym_number ym_position ym_kinds ym_numbers yo_length yo_codes) H) (hD : va_D A (udX3_readOrder cI h0 h1 h2 h3 h4 ym_number ym_position ym_kinds ym_numbers yo_length yo_codes)) (hS : va_S A s.heap H locs) : W p l e ({ frames := 4, cells := 0, slots := 0, locals := 89 } : Room) s m args below meth c H locs 0 0 Q (F0 m 89 ls []) := by
  have K0 := K
  obtain ⟨hx, hb, hml, hown, hts, hK, hN, hA⟩ := K
  unfold ujX3_readOrder_89 at h
  refine lv_iconst (v := 1) hx hb dX3_readOrder_89 (by decide) ?_
  refine lv_goto (tgt := 94) hx hb dX3_readOrder_90 (by decide) ?_
  exact uwX3_readOrder_94 K0 Z hret hnx51 h (lv_sub hl [0, 1, 2, 3, 4, 5] rfl) hP hD hS
set_option maxHeartbeats 4000000 in
set_option maxRecDepth 100000 in
theorem uwX3_readOrder_51 {p : Program} {l : Launch} {e : Env} {s : State} {m : MethodId} {args : Array Value} {below : List Frame} {meth : Method} {c : Code} {Q : State → Prop} {D : va_G} {cI cT : ClassId} {A : Nat → Prop} (K : ub_kx p s m args meth c cX3_readOrder 8 RX3 wsX3_readOrder D cI cT A) {adK adV : Nat → Nat} (Z : ub_Z adK adV A s s.heap) {h0 h1 h2 h3 h4 : Nat} {ym_number : Int32} {ym_kinds : (Nat → Int32)} {yo_length : Int32} {yo_codes : (Nat → Int32)} {l2 : Nat} {rr : Int32} {w_ym_number : Int32} {w_ym_position : Int32} {w_ym_kinds : (Nat → Int32)} {w_ym_numbers : (Nat → Int32)} (hret : ∀ (H : Heap) (locs : List Loc) (pc : Nat) (ls : Array Slot), decode cX3_readOrder pc = .ok (.ireturn, 1) → narrow .boolean (.int rr) = .int rr → va_P D vwCl (udX3_readOrder cI h0 h1 h2 h3 h4 w_ym_number w_ym_position w_ym_kinds w_ym_numbers yo_length yo_codes) H → va_D A (udX3_readOrder cI h0 h1 h2 h3 h4 w_ym_number w_ym_position w_ym_kinds w_ym_numbers yo_length yo_codes) → va_S A s.heap H locs → W p l e ({ frames := 4, cells := 0, slots := 0, locals := 89 } : Room) s m args below meth c H locs 0 0 Q (F0 m pc ls [.int rr])) : ∀ (k : Nat) (ym_position : Int32) (ym_numbers : (Nat → Int32)) (l3 : Int32) (l4 : Int32), ulX3_readOrder_51 ym_number ym_kinds yo_length yo_codes l2 k ym_position ym_numbers l3 l4 = some (rr, w_ym_number, w_ym_position, w_ym_kinds, w_ym_numbers) → ∀ (H : Heap) (locs : List Loc) (ls : Array Slot), lv_has ls 8 [(0, .ref h0), (1, .ref h3), (2, .ref (adK l2)), (3, .int l3), (4, .int l4)] → va_P D vwCl (udX3_readOrder cI h0 h1 h2 h3 h4 ym_number ym_position ym_kinds ym_numbers yo_length yo_codes) H → va_D A (udX3_readOrder cI h0 h1 h2 h3 h4 ym_number ym_position ym_kinds ym_numbers yo_length yo_codes) → va_S A s.heap H locs → W p l e ({ frames := 4, cells := 0, slots := 0, locals := 89 } : Room) s m args below meth c H locs 0 0 Q (F0 m 51 ls []) := by
  have K0 := K
  obtain ⟨hx, hb, hml, hown, hts, hK, hN, hA⟩ := K
  intro k
  induction k with
  | zero =>
    intro ym_position ym_numbers l3 l4 h
    rw [ulX3_readOrder_51] at h
    cases h
  | succ k ih =>
    intro ym_position ym_numbers l3 l4 h H locs ls hl hP hD hS
    rw [ulX3_readOrder_51] at h
    refine lv_iload hx hb dX3_readOrder_51 (lv_at hl 4 rfl) ?_
    refine lv_aload_n hx hb dX3_readOrder_53 rfl (lv_at hl 2 rfl) ?_
    have hPc : va_P D vwCl ([] : va_W) H := ub_pickP hP [] rfl
    have hDc : va_D A ([] : va_W) := hD.sub [] (by decide) rfl
    have hFc := va_free (wc := ([] : va_W)) hD hS hA [] rfl
    obtain ⟨hi54, h⟩ := ub_lt_some h
    refine ub_calli (ws' := (udX3_readOrder cI h0 h1 h2 h3 h4 ym_number ym_position ym_kinds ym_numbers yo_length yo_codes)) (va_runV (As := []) (rest := [.int l4]) ⟨hx, hb, hml, hown, hts⟩ (ucJ0_length_8abf5 l D cI cT hi54) (cwV 0 hts gX3_readOrder_J0_length_8abf5 rfl rfl rfl ⟨rfl, uhJ0_length_8abf5⟩ ⟨Nat.le_of_ble_eq_true rfl, Nat.le_of_ble_eq_true rfl⟩) (ub_preVk hi54 Z hS hFc hPc hDc hK hN) rfl rfl hl.1 rfl (lv_room (Nat.le_of_ble_eq_true rfl)) dX3_readOrder_54 ⟨Nat.le_of_ble_eq_true rfl, Nat.le_of_ble_eq_true rfl⟩) hP hD hS hA [] rfl (by decide) rfl rfl (fun H locs hP hD hS => ?_)
    refine lv_icmp_ge (tgt := 142) hx hb dX3_readOrder_57 (by decide) (fun c57 => ?_) (fun c57 => ?_)
    · have h := ub_if_t c57 h
      refine lv_aload_n hx hb dX3_readOrder_142 rfl (lv_at hl 0 rfl) ?_
      refine lv_dup hx hb dX3_readOrder_143 rfl ?_
      refine va_get (ci := 5) (v := .int ym_number) (C := RX3) (T := TX3) (N := 4) hx hb hts uiX3_readOrder_X3 hown hK hP 0 rfl rfl 0 (by decide) (hts _ uvX3_readOrder_3) (fun _ h9 => h9) rfl dX3_readOrder_144 ?_
      refine lv_iconst (v := 1) hx hb dX3_readOrder_147 (by decide) ?_
      refine lv_iadd hx hb dX3_readOrder_148 ?_
      refine ub_put (ws' := (udX3_readOrder cI h0 h1 h2 h3 h4 (ym_number + 1) ym_position ym_kinds ym_numbers yo_length yo_codes)) (ci := 5) (C := RX3) (T := TX3) (N := 4) hx hb hts uiX3_readOrder_X3 tyX3 tyX3_ok nmX3 hown hK hP hD hS 0 0 (v := .int (ym_number + 1)) (ty := tyX3 0) rfl rfl (by decide) (hts _ uvX3_readOrder_3) (fun _ h9 => h9) rfl (tyX3_ok 0 (by decide)) rfl rfl (Nat.le_of_ble_eq_true rfl) rfl dX3_readOrder_149 (fun H locs hP hD hS => ?_)
      refine lv_iconst (v := 1) hx hb dX3_readOrder_152 (by decide) ?_
      cases h
      exact hret H locs _ ls dX3_readOrder_153 rfl hP hD hS
    · have h := ub_if_f c57 h
      refine lv_aload_n hx hb dX3_readOrder_60 rfl (lv_at hl 2 rfl) ?_
      refine lv_iload hx hb dX3_readOrder_61 (lv_at hl 4 rfl) ?_
      have hPc : va_P D vwCl ([] : va_W) H := ub_pickP hP [] rfl
      have hDc : va_D A ([] : va_W) := hD.sub [] (by decide) rfl
      have hFc := va_free (wc := ([] : va_W)) hD hS hA [] rfl
      obtain ⟨hi63, h⟩ := ub_lt_some h
      obtain ⟨hg63, h⟩ := ub_gd_some h
      refine ub_calli (ws' := (udX3_readOrder cI h0 h1 h2 h3 h4 ym_number ym_position ym_kinds ym_numbers yo_length yo_codes)) (va_runV (As := [.int l4]) (rest := []) ⟨hx, hb, hml, hown, hts⟩ (ucJ0_charAtV l D cI cT hi63 hg63) (cwV 1 hts gX3_readOrder_J0_charAt_5068e rfl rfl rfl ⟨rfl, uhJ0_charAt_5068e⟩ ⟨Nat.le_of_ble_eq_true rfl, Nat.le_of_ble_eq_true rfl⟩) (ub_preVk hi63 Z hS hFc hPc hDc hK hN) rfl rfl hl.1 rfl (lv_room (Nat.le_of_ble_eq_true rfl)) dX3_readOrder_63 ⟨Nat.le_of_ble_eq_true rfl, Nat.le_of_ble_eq_true rfl⟩) hP hD hS hA [] rfl (by decide) rfl rfl (fun H locs hP hD hS => ?_)
      refine lv_istore (lv' := [(5, .int (ub_ch l2 (Int32.toNatClampNeg l4))), (0, .ref h0), (1, .ref h3), (2, .ref (adK l2)), (3, .int l3), (4, .int l4)]) hx hb dX3_readOrder_66 hl (by decide) rfl (fun ls hl => ?_)
      refine lv_iload hx hb dX3_readOrder_68 (lv_at hl 0 rfl) ?_
      refine lv_bipush (v := 68) hx hb dX3_readOrder_70 (by decide) ?_
      refine lv_icmp_eq (tgt := 89) hx hb dX3_readOrder_72 (by decide) (fun c72 => ?_) (fun c72 => ?_)
      · have h := ub_if_t c72 h
        exact uwX3_readOrder_89 K0 Z hret ih h (lv_sub hl [1, 2, 3, 4, 5, 0] rfl) hP hD hS
      · have h := ub_if_f c72 h
        refine lv_iload hx hb dX3_readOrder_75 (lv_at hl 0 rfl) ?_
        refine lv_bipush (v := 100) hx hb dX3_readOrder_77 (by decide) ?_
        refine lv_icmp_eq (tgt := 89) hx hb dX3_readOrder_79 (by decide) (fun c79 => ?_) (fun c79 => ?_)
        · have h := ub_if_t c79 h
          exact uwX3_readOrder_89 K0 Z hret ih h (lv_sub hl [1, 2, 3, 4, 5, 0] rfl) hP hD hS
        · have h := ub_if_f c79 h
          refine lv_iload hx hb dX3_readOrder_82 (lv_at hl 0 rfl) ?_
          refine lv_bipush (v := 63) hx hb dX3_readOrder_84 (by decide) ?_
          refine lv_icmp_ne (tgt := 93) hx hb dX3_readOrder_86 (by decide) (fun c86 => ?_) (fun c86 => ?_)
          · have h := ub_if_f c86 h
            refine lv_iconst (v := 0) hx hb dX3_readOrder_93 (by decide) ?_
            exact uwX3_readOrder_94 K0 Z hret ih h (lv_sub hl [1, 2, 3, 4, 5, 0] rfl) hP hD hS
          · have h := ub_if_t c86 h
            exact uwX3_readOrder_89 K0 Z hret ih h (lv_sub hl [1, 2, 3, 4, 5, 0] rfl) hP hD hS
set_option maxHeartbeats 4000000 in
set_option maxRecDepth 100000 in
theorem uwX3_readOrder_E {p : Program} {l : Launch} {e : Env} {s : State} {m : MethodId} {args : Array Value} {below : List Frame} {meth : Method} {c : Code} {Q : State → Prop} {D : va_G} {cI cT : ClassId} {A : Nat → Prop} (K : ub_kx p s m args meth c cX3_readOrder 8 RX3 wsX3_readOrder D cI cT A) {adK adV : Nat → Nat} (Z : ub_Z adK adV A s s.heap) {h0 h1 h2 h3 h4 : Nat} {ym_number : Int32} {ym_position : Int32} {ym_kinds : (Nat → Int32)} {ym_numbers : (Nat → Int32)} {yo_length : Int32} {yo_codes : (Nat → Int32)} {rr : Int32} {w_ym_number : Int32} {w_ym_position : Int32} {w_ym_kinds : (Nat → Int32)} {w_ym_numbers : (Nat → Int32)} (hret : ∀ (H : Heap) (locs : List Loc) (pc : Nat) (ls : Array Slot), decode cX3_readOrder pc = .ok (.ireturn, 1) → narrow .boolean (.int rr) = .int rr → va_P D vwCl (udX3_readOrder cI h0 h1 h2 h3 h4 w_ym_number w_ym_position w_ym_kinds w_ym_numbers yo_length yo_codes) H → va_D A (udX3_readOrder cI h0 h1 h2 h3 h4 w_ym_number w_ym_position w_ym_kinds w_ym_numbers yo_length yo_codes) → va_S A s.heap H locs → W p l e ({ frames := 4, cells := 0, slots := 0, locals := 89 } : Room) s m args below meth c H locs 0 0 Q (F0 m pc ls [.int rr])) (h : ufX3_readOrder ym_number ym_position ym_kinds ym_numbers yo_length yo_codes = some (rr, w_ym_number, w_ym_position, w_ym_kinds, w_ym_numbers)) {H : Heap} {locs : List Loc} {ls : Array Slot} (hl : lv_has ls 8 [(0, .ref h0), (1, .ref h3)]) (hP : va_P D vwCl (udX3_readOrder cI h0 h1 h2 h3 h4 ym_number ym_position ym_kinds ym_numbers yo_length yo_codes) H) (hD : va_D A (udX3_readOrder cI h0 h1 h2 h3 h4 ym_number ym_position ym_kinds ym_numbers yo_length yo_codes)) (hS : va_S A s.heap H locs) : W p l e ({ frames := 4, cells := 0, slots := 0, locals := 89 } : Room) s m args below meth c H locs 0 0 Q (F0 m 0 ls []) := by
  have K0 := K
  obtain ⟨hx, hb, hml, hown, hts, hK, hN, hA⟩ := K
  unfold ufX3_readOrder at h
  refine lv_aload_n hx hb dX3_readOrder_0 rfl (lv_at hl 0 rfl) ?_
  refine lv_aload_n hx hb dX3_readOrder_1 rfl (lv_at hl 1 rfl) ?_
  refine lv_aload_n hx hb dX3_readOrder_2 rfl (lv_at hl 0 rfl) ?_
  refine va_get (ci := 5) (v := .int ym_position) (C := RX3) (T := TX3) (N := 4) hx hb hts uiX3_readOrder_X3 hown hK hP 0 rfl rfl 3 (by decide) (hts _ uvX3_readOrder_1) (fun _ h9 => h9) rfl dX3_readOrder_3 ?_
  obtain ⟨x_1, hc6, h⟩ := ub_b1_some h
  have hPc : va_P D vwCl (udX6_codeAt cI h3 h4 yo_length yo_codes) H := ub_pickP hP [3, 4] rfl
  have hDc : va_D A (udX6_codeAt cI h3 h4 yo_length yo_codes) := hD.sub [3, 4] (by decide) rfl
  refine ub_calli (ws' := (udX3_readOrder cI h0 h1 h2 h3 h4 ym_number ym_position ym_kinds ym_numbers yo_length yo_codes)) (va_runV (As := [.int ym_position]) (rest := [.ref h0]) ⟨hx, hb, hml, hown, hts⟩ (ucX6_codeAt l D cI cT hc6) (cwV 1 hts gX3_readOrder_X6_codeAt rfl rfl rfl ⟨rfl, uhX6_codeAt⟩ ⟨Nat.le_of_ble_eq_true rfl, Nat.le_of_ble_eq_true rfl⟩) (ub_preV hPc hDc hK hN 0 (ci := 8) rfl rfl rfl) rfl rfl hl.1 rfl (lv_room (Nat.le_of_ble_eq_true rfl)) dX3_readOrder_6 ⟨Nat.le_of_ble_eq_true rfl, Nat.le_of_ble_eq_true rfl⟩) hP hD hS hA [3, 4] rfl (by decide) rfl rfl (fun H locs hP hD hS => ?_)
  obtain ⟨i_2, ei_2, h⟩ := ub_nm_some h
  have hPc : va_P D vwCl ([(h0, .inr (5, [.int ym_number, .ref h1, .ref h2, .int ym_position]))] : va_W) H := ub_pickP hP [0] rfl
  have hDc : va_D A ([(h0, .inr (5, [.int ym_number, .ref h1, .ref h2, .int ym_position]))] : va_W) := hD.sub [0] (by decide) rfl
  have hFc := va_free (wc := ([(h0, .inr (5, [.int ym_number, .ref h1, .ref h2, .int ym_position]))] : va_W)) hD hS hA [0] rfl
  refine ub_callr (r := adK i_2) (ws' := (udX3_readOrder cI h0 h1 h2 h3 h4 ym_number ym_position ym_kinds ym_numbers yo_length yo_codes)) (va_runV (As := [.int x_1]) (rest := []) ⟨hx, hb, hml, hown, hts⟩ (ucX3_shapeOf l D cI cT ei_2) (cwV 1 hts gX3_readOrder_X3_shapeOf rfl rfl rfl ⟨rfl, uhX3_shapeOf⟩ ⟨Nat.le_of_ble_eq_true rfl, Nat.le_of_ble_eq_true rfl⟩) (ub_preVz Z hS hFc hPc hDc hK hN 0 (ci := 5) rfl rfl rfl) rfl rfl hl.1 rfl (lv_room (Nat.le_of_ble_eq_true rfl)) dX3_readOrder_9 ⟨Nat.le_of_ble_eq_true rfl, Nat.le_of_ble_eq_true rfl⟩) hP hD hS hA [0] rfl (by decide) rfl rfl (fun H locs hP hD hS => ?_)
  refine lv_astore_n (lv' := [(2, .ref (adK i_2)), (0, .ref h0), (1, .ref h3)]) hx hb dX3_readOrder_12 rfl hl (by decide) rfl (fun ls hl => ?_)
  refine lv_aload_n hx hb dX3_readOrder_13 rfl (lv_at hl 0 rfl) ?_
  have hPc : va_P D vwCl ([] : va_W) H := ub_pickP hP [] rfl
  have hDc : va_D A ([] : va_W) := hD.sub [] (by decide) rfl
  have hFc := va_free (wc := ([] : va_W)) hD hS hA [] rfl
  obtain ⟨hi14, h⟩ := ub_lt_some h
  refine ub_calli (ws' := (udX3_readOrder cI h0 h1 h2 h3 h4 ym_number ym_position ym_kinds ym_numbers yo_length yo_codes)) (va_runV (As := []) (rest := []) ⟨hx, hb, hml, hown, hts⟩ (ucJ0_isEmpty_aae02 l D cI cT hi14) (cwV 0 hts gX3_readOrder_J0_isEmpty_aae02 rfl rfl rfl ⟨rfl, uhJ0_isEmpty_aae02⟩ ⟨Nat.le_of_ble_eq_true rfl, Nat.le_of_ble_eq_true rfl⟩) (ub_preVk hi14 Z hS hFc hPc hDc hK hN) rfl rfl hl.1 rfl (lv_room (Nat.le_of_ble_eq_true rfl)) dX3_readOrder_14 ⟨Nat.le_of_ble_eq_true rfl, Nat.le_of_ble_eq_true rfl⟩) hP hD hS hA [] rfl (by decide) rfl rfl (fun H locs hP hD hS => ?_)
  refine lv_if_eq (tgt := 22) hx hb dX3_readOrder_17 (by decide) (fun c17 => ?_) (fun c17 => ?_)
  · have h := ub_if_t c17 h
    refine lv_aload_n hx hb dX3_readOrder_22 rfl (lv_at hl 1 rfl) ?_
    refine va_get (ci := 5) (v := .ref h1) (C := RX3) (T := TX3) (N := 4) hx hb hts uiX3_readOrder_X3 hown hK hP 0 rfl rfl 1 (by decide) (hts _ uvX3_readOrder_2) (fun _ h9 => h9) rfl dX3_readOrder_23 ?_
    refine lv_aload_n hx hb dX3_readOrder_26 rfl (lv_at hl 1 rfl) ?_
    refine va_get (ci := 5) (v := .int ym_number) (C := RX3) (T := TX3) (N := 4) hx hb hts uiX3_readOrder_X3 hown hK hP 0 rfl rfl 0 (by decide) (hts _ uvX3_readOrder_3) (fun _ h9 => h9) rfl dX3_readOrder_27 ?_
    refine lv_aload_n hx hb dX3_readOrder_30 rfl (lv_at hl 2 rfl) ?_
    refine lv_aload_n hx hb dX3_readOrder_31 rfl (lv_at hl 1 rfl) ?_
    refine va_get (ci := 5) (v := .int ym_position) (C := RX3) (T := TX3) (N := 4) hx hb hts uiX3_readOrder_X3 hown hK hP 0 rfl rfl 3 (by decide) (hts _ uvX3_readOrder_1) (fun _ h9 => h9) rfl dX3_readOrder_32 ?_
    obtain ⟨x_3, hc35, h⟩ := ub_b1_some h
    have hPc : va_P D vwCl (udX6_codeAt cI h3 h4 yo_length yo_codes) H := ub_pickP hP [3, 4] rfl
    have hDc : va_D A (udX6_codeAt cI h3 h4 yo_length yo_codes) := hD.sub [3, 4] (by decide) rfl
    refine ub_calli (ws' := (udX3_readOrder cI h0 h1 h2 h3 h4 ym_number ym_position ym_kinds ym_numbers yo_length yo_codes)) (va_runV (As := [.int ym_position]) (rest := [.int ym_number, .ref h1]) ⟨hx, hb, hml, hown, hts⟩ (ucX6_codeAt l D cI cT hc35) (cwV 1 hts gX3_readOrder_X6_codeAt rfl rfl rfl ⟨rfl, uhX6_codeAt⟩ ⟨Nat.le_of_ble_eq_true rfl, Nat.le_of_ble_eq_true rfl⟩) (ub_preV hPc hDc hK hN 0 (ci := 8) rfl rfl rfl) rfl rfl hl.1 rfl (lv_room (Nat.le_of_ble_eq_true rfl)) dX3_readOrder_35 ⟨Nat.le_of_ble_eq_true rfl, Nat.le_of_ble_eq_true rfl⟩) hP hD hS hA [3, 4] rfl (by decide) rfl rfl (fun H locs hP hD hS => ?_)
    obtain ⟨ym_kinds_4, hc38, h⟩ := ub_b1_some h
    have hPc : va_P D vwCl (udX8_put cI 60 h1 ym_kinds) H := ub_pickP hP [1] rfl
    have hDc : va_D A (udX8_put cI 60 h1 ym_kinds) := hD.sub [1] (by decide) rfl
    refine ub_callv (ws' := (udX3_readOrder cI h0 h1 h2 h3 h4 ym_number ym_position ym_kinds_4 ym_numbers yo_length yo_codes)) (va_runSN (As := [.ref h1, .int ym_number, .int x_3]) (rest := []) ⟨hx, hb, hml, hown, hts⟩ (ucX8_put l D cI cT hc38) ⟨va_cnB 3 hts gX3_readOrder_X8_put_n56 rfl rfl rfl (hN.at 25 rfl) (hts _ uvX3_readOrder_12) uhX8_put ⟨Nat.le_of_ble_eq_true rfl, Nat.le_of_ble_eq_true rfl⟩, (hts _ uvX3_readOrder_25), trivial⟩ (ub_preS hPc hDc hK hN) rfl rfl hl.1 rfl (lv_room (Nat.le_of_ble_eq_true rfl)) dX3_readOrder_38 ⟨Nat.le_of_ble_eq_true rfl, Nat.le_of_ble_eq_true rfl⟩) hP hD hS hA [1] rfl (by decide) rfl rfl (fun H locs hP hD hS => ?_)
    refine lv_aload_n hx hb dX3_readOrder_41 rfl (lv_at hl 1 rfl) ?_
    refine va_get (ci := 5) (v := .int ym_number) (C := RX3) (T := TX3) (N := 4) hx hb hts uiX3_readOrder_X3 hown hK hP 0 rfl rfl 0 (by decide) (hts _ uvX3_readOrder_3) (fun _ h9 => h9) rfl dX3_readOrder_42 ?_
    refine lv_iconst (v := 3) hx hb dX3_readOrder_45 (by decide) ?_
    refine lv_imul hx hb dX3_readOrder_46 ?_
    refine lv_istore_n (lv' := [(3, .int (ym_number * 3)), (2, .ref (adK i_2)), (0, .ref h0), (1, .ref h3)]) hx hb dX3_readOrder_47 rfl hl (by decide) rfl (fun ls hl => ?_)
    refine lv_iconst (v := 0) hx hb dX3_readOrder_48 (by decide) ?_
    refine lv_istore (lv' := [(4, .int 0), (3, .int (ym_number * 3)), (2, .ref (adK i_2)), (0, .ref h0), (1, .ref h3)]) hx hb dX3_readOrder_49 hl (by decide) rfl (fun ls hl => ?_)
    exact uwX3_readOrder_51 K0 Z hret ub_F ym_position ym_numbers (ym_number * 3) 0 h H locs ls (lv_sub hl [3, 4, 2, 1, 0] rfl) hP hD hS
  · have h := ub_if_f c17 h
    refine lv_iconst (v := 0) hx hb dX3_readOrder_20 (by decide) ?_
    cases h
    exact hret H locs _ ls dX3_readOrder_21 rfl hP hD hS
set_option maxHeartbeats 4000000 in
set_option maxRecDepth 100000 in
theorem ucX3_readOrder (l : Launch) (D : va_G) (cI cT : ClassId) {adK adV : Nat → Nat} {h0 h1 h2 h3 h4 : Nat} {rr : Int32} {w_ym_number : Int32} {w_ym_position : Int32} {w_ym_kinds : (Nat → Int32)} {w_ym_numbers : (Nat → Int32)} {ym_number : Int32} {ym_position : Int32} {ym_kinds : (Nat → Int32)} {ym_numbers : (Nat → Int32)} {yo_length : Int32} {yo_codes : (Nat → Int32)} {sz : Nat} (h : ufX3_readOrder ym_number ym_position ym_kinds ym_numbers yo_length yo_codes = some (rr, w_ym_number, w_ym_position, w_ym_kinds, w_ym_numbers)) : Met l yX3_readOrder wsX3_readOrder ({ frames := 4, cells := 0, slots := 0, locals := 89 } : Room) (va_Pc [.ref h0, .ref h3] (ub_pz D cI cT adK adV (udX3_readOrder cI h0 h1 h2 h3 h4 ym_number ym_position ym_kinds ym_numbers yo_length yo_codes) sz)) (va_Qi (fun (r' : Int32) (_ : Unit) => r' = rr) (fun _ t => ub_pq D (udX3_readOrder cI h0 h1 h2 h3 h4 w_ym_number w_ym_position w_ym_kinds w_ym_numbers yo_length yo_codes) (va_A (udX3_readOrder cI h0 h1 h2 h3 h4 ym_number ym_position ym_kinds ym_numbers yo_length yo_codes) sz) t) (va_A (udX3_readOrder cI h0 h1 h2 h3 h4 ym_number ym_position ym_kinds ym_numbers yo_length yo_codes) sz)) 0 0 (va_A (udX3_readOrder cI h0 h1 h2 h3 h4 ym_number ym_position ym_kinds ym_numbers yo_length yo_codes) sz) :=
  ub_met_iz (by decide +kernel) rfl (Nat.le_of_ble_eq_true rfl) fun _ _ _ _ _ _ _ _ _ _ K Z hret _ hl hP hD hS => uwX3_readOrder_E K Z hret h hl hP hD hS
-- X3_read
def udX3_read (cI : ClassId) (h0 : Nat) (h1 : Nat) (h2 : Nat) (h3 : Nat) (h4 : Nat) (ym_number : Int32) (ym_position : Int32) (ym_kinds : Nat → Int32) (ym_numbers : Nat → Int32) (yo_length : Int32) (yo_codes : Nat → Int32) : va_W := [(h0, .inr (5, [.int ym_number, .ref h1, .ref h2, .int ym_position])), (h1, .inl (cI, 60, .inl ym_kinds)), (h2, .inl (cI, 180, .inl ym_numbers)), (h3, .inr (8, [.int yo_length, .ref h4])), (h4, .inl (cI, 60, .inl yo_codes))]
def ulX3_read_12 (yo_length : Int32) (yo_codes : Nat → Int32) : Nat → Int32 → Int32 → (Nat → Int32) → (Nat → Int32) → Int32 → Option (Int32 × Int32 × Int32 × (Nat → Int32) × (Nat → Int32))
  | 0, _, _, _, _, _ => none
  | k + 1, ym_number, ym_position, ym_kinds, ym_numbers, l2 =>
    if 60 ≤ l2 then
      some (ym_position, ym_number, ym_position, ym_kinds, ym_numbers)
    else
      ub_b5 (ufX3_readOrder ym_number ym_position ym_kinds ym_numbers yo_length yo_codes) fun x_1 ym_number_2 ym_position_3 ym_kinds_4 ym_numbers_5 =>
      if x_1 = 0 then
        some (ym_position_3, ym_number_2, ym_position_3, ym_kinds_4, ym_numbers_5)
      else
        if ym_position_3 < yo_length then
          ub_b2 (ufX3_readSign ym_position_3 yo_length yo_codes 59) fun x_6 ym_position_7 =>
          if x_6 = 0 then
            some (ym_position_7, ym_number_2, ym_position_7, ym_kinds_4, ym_numbers_5)
          else
            ulX3_read_12 yo_length yo_codes k ym_number_2 ym_position_7 ym_kinds_4 ym_numbers_5 (l2 + 1)
        else
          some ((-1), ym_number_2, ym_position_3, ym_kinds_4, ym_numbers_5)
def ufX3_read (ym_number : Int32) (ym_position : Int32) (ym_kinds : Nat → Int32) (ym_numbers : Nat → Int32) (yo_length : Int32) (yo_codes : Nat → Int32) : Option (Int32 × Int32 × Int32 × (Nat → Int32) × (Nat → Int32)) :=
  ulX3_read_12 yo_length yo_codes ub_F 0 0 ym_kinds ym_numbers 0
theorem uvX3_read_1 : Cond.fieldLink RX3 22 "UnheardBells$Orders" "number" "I" ∈ wsX3_read := List.mem_cons_of_mem _ us_m262
theorem uvX3_read_2 : Cond.fieldLink RX3 26 "UnheardBells$Orders" "position" "I" ∈ wsX3_read := List.mem_cons_of_mem _ us_m267
theorem uvX3_read_3 : Cond.fieldLink RX3 33 "UnheardBells$Text" "length" "I" ∈ wsX3_read := List.mem_cons_of_mem _ us_m248
theorem uiX3_read_X3 : ∀ w ∈ u_ws RX3 TX3 4, w ∈ wsX3_read := fun w h => List.mem_cons_of_mem _ (us_inX3 w h)
theorem uiX3_read_X6 : ∀ w ∈ u_ws RX6 TX6 2, w ∈ wsX3_read := fun w h => List.mem_cons_of_mem _ (us_inX6 w h)
theorem uiX3_read_J0 : ∀ w ∈ u_ws RJ0 TJ0 4, w ∈ wsX3_read := fun w h => List.mem_cons_of_mem _ (us_inJ0 w h)
theorem uhX3_read : yX3_read.cls ≠ "java/lang/invoke/MethodHandle" ∧ yX3_read.cls ≠ "java/lang/invoke/VarHandle" ∧ (parseMethodDescriptor yX3_read.desc).map (fun d => d.parameters.length) = some 1 := by decide +kernel
set_option maxHeartbeats 4000000 in
set_option maxRecDepth 100000 in
theorem uwX3_read_12 {p : Program} {l : Launch} {e : Env} {s : State} {m : MethodId} {args : Array Value} {below : List Frame} {meth : Method} {c : Code} {Q : State → Prop} {D : va_G} {cI cT : ClassId} {A : Nat → Prop} (K : ub_kx p s m args meth c cX3_read 3 RX3 wsX3_read D cI cT A) {adK adV : Nat → Nat} (Z : ub_Z adK adV A s s.heap) {h0 h1 h2 h3 h4 : Nat} {yo_length : Int32} {yo_codes : (Nat → Int32)} {rr : Int32} {w_ym_number : Int32} {w_ym_position : Int32} {w_ym_kinds : (Nat → Int32)} {w_ym_numbers : (Nat → Int32)} (hret : ∀ (H : Heap) (locs : List Loc) (pc : Nat) (ls : Array Slot), decode cX3_read pc = .ok (.ireturn, 1) → narrow .int (.int rr) = .int rr → va_P D vwCl (udX3_read cI h0 h1 h2 h3 h4 w_ym_number w_ym_position w_ym_kinds w_ym_numbers yo_length yo_codes) H → va_D A (udX3_read cI h0 h1 h2 h3 h4 w_ym_number w_ym_position w_ym_kinds w_ym_numbers yo_length yo_codes) → va_S A s.heap H locs → W p l e ({ frames := 5, cells := 0, slots := 0, locals := 116 } : Room) s m args below meth c H locs 0 0 Q (F0 m pc ls [.int rr])) : ∀ (k : Nat) (ym_number : Int32) (ym_position : Int32) (ym_kinds : (Nat → Int32)) (ym_numbers : (Nat → Int32)) (l2 : Int32), ulX3_read_12 yo_length yo_codes k ym_number ym_position ym_kinds ym_numbers l2 = some (rr, w_ym_number, w_ym_position, w_ym_kinds, w_ym_numbers) → ∀ (H : Heap) (locs : List Loc) (ls : Array Slot), lv_has ls 3 [(0, .ref h0), (1, .ref h3), (2, .int l2)] → va_P D vwCl (udX3_read cI h0 h1 h2 h3 h4 ym_number ym_position ym_kinds ym_numbers yo_length yo_codes) H → va_D A (udX3_read cI h0 h1 h2 h3 h4 ym_number ym_position ym_kinds ym_numbers yo_length yo_codes) → va_S A s.heap H locs → W p l e ({ frames := 5, cells := 0, slots := 0, locals := 116 } : Room) s m args below meth c H locs 0 0 Q (F0 m 12 ls []) := by
  have K0 := K
  obtain ⟨hx, hb, hml, hown, hts, hK, hN, hA⟩ := K
  intro k
  induction k with
  | zero =>
    intro ym_number ym_position ym_kinds ym_numbers l2 h
    rw [ulX3_read_12] at h
    cases h
  | succ k ih =>
    intro ym_number ym_position ym_kinds ym_numbers l2 h H locs ls hl hP hD hS
    rw [ulX3_read_12] at h
    refine lv_iload_n hx hb dX3_read_12 rfl (lv_at hl 2 rfl) ?_
    refine lv_bipush (v := 60) hx hb dX3_read_13 (by decide) ?_
    refine lv_icmp_ge (tgt := 65) hx hb dX3_read_15 (by decide) (fun c15 => ?_) (fun c15 => ?_)
    · have h := ub_if_t c15 h
      refine lv_aload_n hx hb dX3_read_65 rfl (lv_at hl 0 rfl) ?_
      refine va_get (ci := 5) (v := .int ym_position) (C := RX3) (T := TX3) (N := 4) hx hb hts uiX3_read_X3 hown hK hP 0 rfl rfl 3 (by decide) (hts _ uvX3_read_2) (fun _ h9 => h9) rfl dX3_read_66 ?_
      cases h
      exact hret H locs _ ls dX3_read_69 rfl hP hD hS
    · have h := ub_if_f c15 h
      refine lv_aload_n hx hb dX3_read_18 rfl (lv_at hl 0 rfl) ?_
      refine lv_aload_n hx hb dX3_read_19 rfl (lv_at hl 1 rfl) ?_
      obtain ⟨x_1, ym_number_2, ym_position_3, ym_kinds_4, ym_numbers_5, hc20, h⟩ := ub_b5_some h
      have hPc : va_P D vwCl (udX3_readOrder cI h0 h1 h2 h3 h4 ym_number ym_position ym_kinds ym_numbers yo_length yo_codes) H := ub_pickP hP [0, 1, 2, 3, 4] rfl
      have hDc : va_D A (udX3_readOrder cI h0 h1 h2 h3 h4 ym_number ym_position ym_kinds ym_numbers yo_length yo_codes) := hD.sub [0, 1, 2, 3, 4] (by decide) rfl
      have hFc := va_free (wc := (udX3_readOrder cI h0 h1 h2 h3 h4 ym_number ym_position ym_kinds ym_numbers yo_length yo_codes)) hD hS hA [0, 1, 2, 3, 4] rfl
      refine ub_calli (ws' := (udX3_read cI h0 h1 h2 h3 h4 ym_number_2 ym_position_3 ym_kinds_4 ym_numbers_5 yo_length yo_codes)) (va_runV (As := [.ref h3]) (rest := []) ⟨hx, hb, hml, hown, hts⟩ (ucX3_readOrder l D cI cT hc20) (cwV 1 hts gX3_read_X3_readOrder rfl rfl rfl ⟨rfl, uhX3_readOrder⟩ ⟨Nat.le_of_ble_eq_true rfl, Nat.le_of_ble_eq_true rfl⟩) (ub_preVz Z hS hFc hPc hDc hK hN 0 (ci := 5) rfl rfl rfl) rfl rfl hl.1 rfl (lv_room (Nat.le_of_ble_eq_true rfl)) dX3_read_20 ⟨Nat.le_of_ble_eq_true rfl, Nat.le_of_ble_eq_true rfl⟩) hP hD hS hA [0, 1, 2, 3, 4] rfl (by decide) rfl rfl (fun H locs hP hD hS => ?_)
      refine lv_if_ne (tgt := 31) hx hb dX3_read_23 (by decide) (fun c23 => ?_) (fun c23 => ?_)
      · have h := ub_if_f c23 h
        refine lv_aload_n hx hb dX3_read_31 rfl (lv_at hl 0 rfl) ?_
        refine va_get (ci := 5) (v := .int ym_position_3) (C := RX3) (T := TX3) (N := 4) hx hb hts uiX3_read_X3 hown hK hP 0 rfl rfl 3 (by decide) (hts _ uvX3_read_2) (fun _ h9 => h9) rfl dX3_read_32 ?_
        refine lv_aload_n hx hb dX3_read_35 rfl (lv_at hl 1 rfl) ?_
        refine va_get (ci := 8) (v := .int yo_length) (C := RX6) (T := TX6) (N := 2) hx hb hts uiX3_read_X6 hown hK hP 3 rfl rfl 0 (by decide) (hts _ uvX3_read_3) (fun _ h9 => h9) rfl dX3_read_36 ?_
        refine lv_icmp_lt (tgt := 44) hx hb dX3_read_39 (by decide) (fun c39 => ?_) (fun c39 => ?_)
        · have h := ub_if_t c39 h
          refine lv_aload_n hx hb dX3_read_44 rfl (lv_at hl 0 rfl) ?_
          refine lv_aload_n hx hb dX3_read_45 rfl (lv_at hl 1 rfl) ?_
          refine lv_bipush (v := 59) hx hb dX3_read_46 (by decide) ?_
          obtain ⟨x_6, ym_position_7, hc48, h⟩ := ub_b2_some h
          have hPc : va_P D vwCl (udX3_readSign cI h0 h3 h4 h1 h2 ym_number_2 ym_position_3 yo_length yo_codes) H := ub_pickP hP [0, 3, 4] rfl
          have hDc : va_D A (udX3_readSign cI h0 h3 h4 h1 h2 ym_number_2 ym_position_3 yo_length yo_codes) := hD.sub [0, 3, 4] (by decide) rfl
          refine ub_calli (ws' := (udX3_read cI h0 h1 h2 h3 h4 ym_number_2 ym_position_7 ym_kinds_4 ym_numbers_5 yo_length yo_codes)) (va_runV (As := [.ref h3, .int 59]) (rest := []) ⟨hx, hb, hml, hown, hts⟩ (ucX3_readSign l D cI cT hc48) (cwV 2 hts gX3_read_X3_readSign rfl rfl rfl ⟨rfl, uhX3_readSign⟩ ⟨Nat.le_of_ble_eq_true rfl, Nat.le_of_ble_eq_true rfl⟩) (ub_preV hPc hDc hK hN 0 (ci := 5) rfl rfl rfl) rfl rfl hl.1 rfl (lv_room (Nat.le_of_ble_eq_true rfl)) dX3_read_48 ⟨Nat.le_of_ble_eq_true rfl, Nat.le_of_ble_eq_true rfl⟩) hP hD hS hA [0, 3, 4] rfl (by decide) rfl rfl (fun H locs hP hD hS => ?_)
          refine lv_if_ne (tgt := 59) hx hb dX3_read_51 (by decide) (fun c51 => ?_) (fun c51 => ?_)
          · have h := ub_if_f c51 h
            refine lv_iinc (v := l2 + 1) (lv' := [(2, .int (l2 + 1)), (0, .ref h0), (1, .ref h3)]) hx hb dX3_read_59 hl (k := 2) rfl rfl (by decide) rfl (fun ls hl => ?_)
            refine lv_goto (tgt := 12) hx hb dX3_read_62 (by decide) ?_
            exact ih ym_number_2 ym_position_7 ym_kinds_4 ym_numbers_5 (l2 + 1) h H locs ls (lv_sub hl [1, 2, 0] rfl) hP hD hS
          · have h := ub_if_t c51 h
            refine lv_aload_n hx hb dX3_read_54 rfl (lv_at hl 0 rfl) ?_
            refine va_get (ci := 5) (v := .int ym_position_7) (C := RX3) (T := TX3) (N := 4) hx hb hts uiX3_read_X3 hown hK hP 0 rfl rfl 3 (by decide) (hts _ uvX3_read_2) (fun _ h9 => h9) rfl dX3_read_55 ?_
            cases h
            exact hret H locs _ ls dX3_read_58 rfl hP hD hS
        · have h := ub_if_f c39 h
          refine lv_iconst (v := (-1)) hx hb dX3_read_42 (by decide) ?_
          cases h
          exact hret H locs _ ls dX3_read_43 rfl hP hD hS
      · have h := ub_if_t c23 h
        refine lv_aload_n hx hb dX3_read_26 rfl (lv_at hl 0 rfl) ?_
        refine va_get (ci := 5) (v := .int ym_position_3) (C := RX3) (T := TX3) (N := 4) hx hb hts uiX3_read_X3 hown hK hP 0 rfl rfl 3 (by decide) (hts _ uvX3_read_2) (fun _ h9 => h9) rfl dX3_read_27 ?_
        cases h
        exact hret H locs _ ls dX3_read_30 rfl hP hD hS
set_option maxHeartbeats 4000000 in
set_option maxRecDepth 100000 in
theorem uwX3_read_E {p : Program} {l : Launch} {e : Env} {s : State} {m : MethodId} {args : Array Value} {below : List Frame} {meth : Method} {c : Code} {Q : State → Prop} {D : va_G} {cI cT : ClassId} {A : Nat → Prop} (K : ub_kx p s m args meth c cX3_read 3 RX3 wsX3_read D cI cT A) {adK adV : Nat → Nat} (Z : ub_Z adK adV A s s.heap) {h0 h1 h2 h3 h4 : Nat} {ym_number : Int32} {ym_position : Int32} {ym_kinds : (Nat → Int32)} {ym_numbers : (Nat → Int32)} {yo_length : Int32} {yo_codes : (Nat → Int32)} {rr : Int32} {w_ym_number : Int32} {w_ym_position : Int32} {w_ym_kinds : (Nat → Int32)} {w_ym_numbers : (Nat → Int32)} (hret : ∀ (H : Heap) (locs : List Loc) (pc : Nat) (ls : Array Slot), decode cX3_read pc = .ok (.ireturn, 1) → narrow .int (.int rr) = .int rr → va_P D vwCl (udX3_read cI h0 h1 h2 h3 h4 w_ym_number w_ym_position w_ym_kinds w_ym_numbers yo_length yo_codes) H → va_D A (udX3_read cI h0 h1 h2 h3 h4 w_ym_number w_ym_position w_ym_kinds w_ym_numbers yo_length yo_codes) → va_S A s.heap H locs → W p l e ({ frames := 5, cells := 0, slots := 0, locals := 116 } : Room) s m args below meth c H locs 0 0 Q (F0 m pc ls [.int rr])) (h : ufX3_read ym_number ym_position ym_kinds ym_numbers yo_length yo_codes = some (rr, w_ym_number, w_ym_position, w_ym_kinds, w_ym_numbers)) {H : Heap} {locs : List Loc} {ls : Array Slot} (hl : lv_has ls 3 [(0, .ref h0), (1, .ref h3)]) (hP : va_P D vwCl (udX3_read cI h0 h1 h2 h3 h4 ym_number ym_position ym_kinds ym_numbers yo_length yo_codes) H) (hD : va_D A (udX3_read cI h0 h1 h2 h3 h4 ym_number ym_position ym_kinds ym_numbers yo_length yo_codes)) (hS : va_S A s.heap H locs) : W p l e ({ frames := 5, cells := 0, slots := 0, locals := 116 } : Room) s m args below meth c H locs 0 0 Q (F0 m 0 ls []) := by
  have K0 := K
  obtain ⟨hx, hb, hml, hown, hts, hK, hN, hA⟩ := K
  unfold ufX3_read at h
  refine lv_aload_n hx hb dX3_read_0 rfl (lv_at hl 0 rfl) ?_
  refine lv_iconst (v := 0) hx hb dX3_read_1 (by decide) ?_
  refine ub_put (ws' := (udX3_read cI h0 h1 h2 h3 h4 0 ym_position ym_kinds ym_numbers yo_length yo_codes)) (ci := 5) (C := RX3) (T := TX3) (N := 4) hx hb hts uiX3_read_X3 tyX3 tyX3_ok nmX3 hown hK hP hD hS 0 0 (v := .int 0) (ty := tyX3 0) rfl rfl (by decide) (hts _ uvX3_read_1) (fun _ h9 => h9) rfl (tyX3_ok 0 (by decide)) rfl rfl (Nat.le_of_ble_eq_true rfl) rfl dX3_read_2 (fun H locs hP hD hS => ?_)
  refine lv_aload_n hx hb dX3_read_5 rfl (lv_at hl 0 rfl) ?_
  refine lv_iconst (v := 0) hx hb dX3_read_6 (by decide) ?_
  refine ub_put (ws' := (udX3_read cI h0 h1 h2 h3 h4 0 0 ym_kinds ym_numbers yo_length yo_codes)) (ci := 5) (C := RX3) (T := TX3) (N := 4) hx hb hts uiX3_read_X3 tyX3 tyX3_ok nmX3 hown hK hP hD hS 0 3 (v := .int 0) (ty := tyX3 3) rfl rfl (by decide) (hts _ uvX3_read_2) (fun _ h9 => h9) rfl (tyX3_ok 3 (by decide)) rfl rfl (Nat.le_of_ble_eq_true rfl) rfl dX3_read_7 (fun H locs hP hD hS => ?_)
  refine lv_iconst (v := 0) hx hb dX3_read_10 (by decide) ?_
  refine lv_istore_n (lv' := [(2, .int 0), (0, .ref h0), (1, .ref h3)]) hx hb dX3_read_11 rfl hl (by decide) rfl (fun ls hl => ?_)
  exact uwX3_read_12 K0 Z hret ub_F 0 0 ym_kinds ym_numbers 0 h H locs ls (lv_sub hl [1, 2, 0] rfl) hP hD hS
set_option maxHeartbeats 4000000 in
set_option maxRecDepth 100000 in
theorem ucX3_read (l : Launch) (D : va_G) (cI cT : ClassId) {adK adV : Nat → Nat} {h0 h1 h2 h3 h4 : Nat} {rr : Int32} {w_ym_number : Int32} {w_ym_position : Int32} {w_ym_kinds : (Nat → Int32)} {w_ym_numbers : (Nat → Int32)} {ym_number : Int32} {ym_position : Int32} {ym_kinds : (Nat → Int32)} {ym_numbers : (Nat → Int32)} {yo_length : Int32} {yo_codes : (Nat → Int32)} {sz : Nat} (h : ufX3_read ym_number ym_position ym_kinds ym_numbers yo_length yo_codes = some (rr, w_ym_number, w_ym_position, w_ym_kinds, w_ym_numbers)) : Met l yX3_read wsX3_read ({ frames := 5, cells := 0, slots := 0, locals := 116 } : Room) (va_Pc [.ref h0, .ref h3] (ub_pz D cI cT adK adV (udX3_read cI h0 h1 h2 h3 h4 ym_number ym_position ym_kinds ym_numbers yo_length yo_codes) sz)) (va_Qi (fun (r' : Int32) (_ : Unit) => r' = rr) (fun _ t => ub_pq D (udX3_read cI h0 h1 h2 h3 h4 w_ym_number w_ym_position w_ym_kinds w_ym_numbers yo_length yo_codes) (va_A (udX3_read cI h0 h1 h2 h3 h4 ym_number ym_position ym_kinds ym_numbers yo_length yo_codes) sz) t) (va_A (udX3_read cI h0 h1 h2 h3 h4 ym_number ym_position ym_kinds ym_numbers yo_length yo_codes) sz)) 0 0 (va_A (udX3_read cI h0 h1 h2 h3 h4 ym_number ym_position ym_kinds ym_numbers yo_length yo_codes) sz) :=
  ub_met_iz (by decide +kernel) rfl (Nat.le_of_ble_eq_true rfl) fun _ _ _ _ _ _ _ _ _ _ K Z hret _ hl hP hD hS => uwX3_read_E K Z hret h hl hP hD hS
