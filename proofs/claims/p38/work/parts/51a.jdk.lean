/-! ===== the JDK's StringBuilder and String, Latin-1 alone ===== -/
section US51
variable {p : Program} {l : Launch} {e : Env} {R : Room} {s : State} {m : MethodId} {args : Array Value} {below : List Frame} {meth : Method} {c : Code} {H : Heap} {locs : List Loc} {cells slots : Nat} {Q : State → Prop}
variable {pc : Nat} {ls : Array Slot} {rest : List Value} {A : Nat → Prop} {ws : va_W}
/-- a new array of bytes -/
theorem us_newb {cc : ByteArray} {g : us_G} (hexec : p.tables.exec = Jvm.exec) (hb : c.code = cc) (harr : (Cond.arrayClass .byte).before args s = true) (hK : va_K g.1 vwCl (us_ty g) s) (hP : va_P g.1 vwCl ws H) (hD : va_D A ws) (hS : va_S A s.heap H locs) (hA : ∀ q : Nat, s.heap.size ≤ q → A q)
    {n : Int32} {N : Nat} (hn : ¬ n < 0) (hN : n.toNatClampNeg = N) (hbytes : N ≤ 100000) (hcells : cells + 1 ≤ R.cells) (hslots : slots + N ≤ R.slots) (hdg : decode cc pc = .ok (.newarray .byte, 2))
    (kk : ∀ (q : Nat) (H1 : Heap), va_P g.1 vwCl (ws ++ [(q, .inl (g.2.2.2.1, N, .inl (fun _ => 0)))]) H1 → va_D A (ws ++ [(q, .inl (g.2.2.2.1, N, .inl (fun _ => 0)))]) → va_S A s.heap H1 locs →
      W p l e R s m args below meth c H1 locs (cells + 1) (slots + N) Q (F0 m (pc + 2) ls (.ref q :: rest))) : W p l e R s m args below meth c H locs cells slots Q (F0 m pc ls (.int n :: rest)) := by
  refine va_newa (atype := .byte) (ty := .byte) (a0 := (N, .inl (fun _ => 0))) hexec hb harr rfl hK hP hD hS hA (fun _ => rfl) hn hN (by show N * 1 ≤ 536870912; omega) hcells hslots hdg (fun q cA H1 hK1 hP1 hD1 hS1 => ?_)
  have h1 := (hK.2 2 _ rfl).2
  have h2 := (hK1.2 3 _ rfl).2
  have e : cA = g.2.2.2.1 := Option.some.inj ((show s.vm.findClass ("[" ++ FieldType.byte.toString) = some cA from h2).symm.trans h1)
  subst e
  exact kk q H1 hP1 hD1 hS1
theorem us_newi {cc : ByteArray} {g : us_G} (hexec : p.tables.exec = Jvm.exec) (hb : c.code = cc) (harr : (Cond.arrayClass .int).before args s = true) (hK : va_K g.1 vwCl (us_ty g) s) (hP : va_P g.1 vwCl ws H) (hD : va_D A ws) (hS : va_S A s.heap H locs) (hA : ∀ q : Nat, s.heap.size ≤ q → A q)
    {n : Int32} {N : Nat} (hn : ¬ n < 0) (hN : n.toNatClampNeg = N) (hbytes : N ≤ 100000) (hcells : cells + 1 ≤ R.cells) (hslots : slots + N ≤ R.slots) (hdg : decode cc pc = .ok (.newarray .int, 2))
    (kk : ∀ (q : Nat) (H1 : Heap), va_P g.1 vwCl (ws ++ [(q, .inl (g.2.1, N, .inl (fun _ => 0)))]) H1 → va_D A (ws ++ [(q, .inl (g.2.1, N, .inl (fun _ => 0)))]) → va_S A s.heap H1 locs →
      W p l e R s m args below meth c H1 locs (cells + 1) (slots + N) Q (F0 m (pc + 2) ls (.ref q :: rest))) : W p l e R s m args below meth c H locs cells slots Q (F0 m pc ls (.int n :: rest)) := by
  refine va_newa (atype := .int) (ty := .int) (a0 := (N, .inl (fun _ => 0))) hexec hb harr rfl hK hP hD hS hA (fun _ => rfl) hn hN (by show N * 4 ≤ 536870912; omega) hcells hslots hdg (fun q cA H1 hK1 hP1 hD1 hS1 => ?_)
  have h1 := (hK.2 0 _ rfl).2
  have h2 := (hK1.2 3 _ rfl).2
  have e : cA = g.2.1 := Option.some.inj ((show s.vm.findClass ("[" ++ FieldType.int.toString) = some cA from h2).symm.trans h1)
  subst e
  exact kk q H1 hP1 hD1 hS1
theorem us_topi {pc : Nat} {x y : Int32} {g : List Value} {Q : State → Prop} (h : y = x) (k : W p l e R s m args below meth c H locs cells slots Q (F0 m pc ls (.int x :: g))) : W p l e R s m args below meth c H locs cells slots Q (F0 m pc ls (.int y :: g)) := h ▸ k
end US51
def us_mc (q m : Nat) : Nat := if q ≤ m then 0 else 1
def us_ms (q m : Nat) : Nat := if q ≤ m then 0 else sb_cap q m
theorem us_cap_lo {q m : Nat} (h : q ≤ m) : sb_cap q m = m ∧ us_mc q m = 0 ∧ us_ms q m = 0 := ⟨if_pos h, if_pos h, if_pos h⟩
theorem us_cap_hi {q m : Nat} (h : ¬ q ≤ m) : sb_cap q m = (if q ≤ 2 * m + 2 then 2 * m + 2 else q) ∧ us_mc q m = 1 ∧ us_ms q m = sb_cap q m := by
  refine ⟨?_, if_neg h, if_neg h⟩
  unfold sb_cap
  rw [if_neg h]
  split <;> split <;> omega

theorem us_hJ5_isLatin1_aae02 : yJ5_isLatin1_aae02.cls ≠ "java/lang/invoke/MethodHandle" ∧ yJ5_isLatin1_aae02.cls ≠ "java/lang/invoke/VarHandle" ∧ (parseMethodDescriptor yJ5_isLatin1_aae02.desc).map (fun d => d.parameters.length) = some 0 := by decide +kernel
set_option maxHeartbeats 4000000 in
set_option maxRecDepth 100000 in
theorem uj_isLatin1 (l : Launch) (g : us_G) {sz : Nat} {b v : Nat} {ml cn : Int32} : Met l yJ5_isLatin1_aae02 wsJ5_isLatin1_aae02 ({ frames := 0, cells := 0, slots := 0, locals := 0 } : Room) (va_Pc [.ref b] (us_pc g [(b, .inr (1, [.ref v, .int 0, .int ml, .int cn]))] sz)) (va_Qi (fun (r : Int32) (u : va_W) => r = 1 ∧ u = [(b, .inr (1, [.ref v, .int 0, .int ml, .int cn]))]) (fun u t => ub_pq g.1 u (va_A [(b, .inr (1, [.ref v, .int 0, .int ml, .int cn]))] sz) t) (va_A [(b, .inr (1, [.ref v, .int 0, .int ml, .int cn]))] sz)) 0 0 (va_A [(b, .inr (1, [.ref v, .int 0, .int ml, .int cn]))] sz) := by
  refine us_met_i (post := (fun (r : Int32) (u : va_W) => r = 1 ∧ u = [(b, .inr (1, [.ref v, .int 0, .int ml, .int cn]))])) (by decide +kernel) (Nat.le_of_ble_eq_true rfl) fun p e s m args below meth c Q A K hret ls hl hP hD hS => ?_
  obtain ⟨hx, hb, hml, hown, hts, hK, hN, hA, hZ⟩ := K
  have hl : lv_has ls 1 [(0, .ref b)] := hl
  refine va_gets hx hb hZ.2.1 hS hown (hts _ us_m827) (fun _ h9 => h9) dJ5_isLatin1_aae02_0 ?_
  refine lv_if_eq (tgt := 17) hx hb dJ5_isLatin1_aae02_3 (by decide) (fun cc => absurd cc (by decide)) (fun _ => ?_)
  refine lv_aload_n hx hb dJ5_isLatin1_aae02_6 rfl (lv_at hl 0 rfl) ?_
  refine va_get (ci := 1) (v := .int 0) (C := RJ4) (T := TJ4) (N := 4) hx hb hts us_inJ4 hown hK hP 0 rfl rfl 1 (by decide) (hts _ us_m836) (fun _ h9 => h9) rfl dJ5_isLatin1_aae02_7 ?_
  refine lv_if_ne (tgt := 17) hx hb dJ5_isLatin1_aae02_10 (by decide) (fun cc => absurd (by decide) cc) (fun _ => ?_)
  refine lv_iconst (v := 1) hx hb dJ5_isLatin1_aae02_13 (by decide) ?_
  refine lv_goto (tgt := 18) hx hb dJ5_isLatin1_aae02_14 (by decide) ?_
  exact hret _ _ _ _ _ ls ⟨rfl, rfl⟩ dJ5_isLatin1_aae02_18 rfl hP hD hS

theorem us_hJ1_canEncode_fc78d : yJ1_canEncode_fc78d.cls ≠ "java/lang/invoke/MethodHandle" ∧ yJ1_canEncode_fc78d.cls ≠ "java/lang/invoke/VarHandle" ∧ (parseMethodDescriptor yJ1_canEncode_fc78d.desc).map (fun d => d.parameters.length) = some 1 := by decide +kernel
set_option maxHeartbeats 4000000 in
set_option maxRecDepth 100000 in
theorem uj_canEncode (l : Launch) (g : us_G) {sz : Nat} {x : Int32} (hx9 : ¬ (255 : Int32) < x) : Met l yJ1_canEncode_fc78d wsJ1_canEncode_fc78d ({ frames := 0, cells := 0, slots := 0, locals := 0 } : Room) (va_Pc [.int x] (us_pc g [] sz)) (va_Qi (fun (r : Int32) (u : va_W) => r = 1 ∧ u = ([] : va_W)) (fun u t => ub_pq g.1 u (va_A [] sz) t) (va_A [] sz)) 0 0 (va_A [] sz) := by
  refine us_met_i (post := (fun (r : Int32) (u : va_W) => r = 1 ∧ u = ([] : va_W))) (by decide +kernel) (Nat.le_of_ble_eq_true rfl) fun p e s m args below meth c Q A K hret ls hl hP hD hS => ?_
  obtain ⟨hx, hb, hml, hown, hts, hK, hN, hA, hZ⟩ := K
  have hl : lv_has ls 1 [(0, .int x)] := hl
  refine lv_iload_n hx hb dJ1_canEncode_fc78d_0 rfl (lv_at hl 0 rfl) ?_
  refine lv_sipush (v := 255) hx hb dJ1_canEncode_fc78d_1 (by decide) ?_
  refine lv_icmp_gt (tgt := 11) hx hb dJ1_canEncode_fc78d_4 (by decide) (fun cc => absurd cc hx9) (fun _ => ?_)
  refine lv_iconst (v := 1) hx hb dJ1_canEncode_fc78d_7 (by decide) ?_
  refine lv_goto (tgt := 12) hx hb dJ1_canEncode_fc78d_8 (by decide) ?_
  exact hret _ _ _ _ _ ls ⟨rfl, rfl⟩ dJ1_canEncode_fc78d_12 rfl hP hD hS

theorem us_hJ8_newLength_cabcc : yJ8_newLength_cabcc.cls ≠ "java/lang/invoke/MethodHandle" ∧ yJ8_newLength_cabcc.cls ≠ "java/lang/invoke/VarHandle" ∧ (parseMethodDescriptor yJ8_newLength_cabcc.desc).map (fun d => d.parameters.length) = some 3 := by decide +kernel
set_option maxHeartbeats 4000000 in
set_option maxRecDepth 100000 in
theorem uj_newLength (l : Launch) (g : us_G) {sz : Nat} {o mg pr : Nat} (ho : o + mg + pr ≤ 300000) (h1 : 1 ≤ mg) : Met l yJ8_newLength_cabcc wsJ8_newLength_cabcc ({ frames := 1, cells := 0, slots := 0, locals := 21 } : Room) (va_Pc [.int (nI o), .int (nI mg), .int (nI pr)] (us_pc g [] sz)) (va_Qi (fun (r : Int32) (u : va_W) => r = nI (o + (if mg < pr then pr else mg)) ∧ u = ([] : va_W)) (fun u t => ub_pq g.1 u (va_A [] sz) t) (va_A [] sz)) 0 0 (va_A [] sz) := by
  refine us_met_i (post := (fun (r : Int32) (u : va_W) => r = nI (o + (if mg < pr then pr else mg)) ∧ u = ([] : va_W))) (by decide +kernel) (Nat.le_of_ble_eq_true rfl) fun p e s m args below meth c Q A K hret ls hl hP hD hS => ?_
  obtain ⟨hx, hb, hml, hown, hts, hK, hN, hA, hZ⟩ := K
  have hl : lv_has ls 4 [(0, .int (nI o)), (1, .int (nI mg)), (2, .int (nI pr))] := hl
  refine lv_iload_n hx hb dJ8_newLength_cabcc_0 rfl (lv_at hl 0 rfl) ?_
  refine lv_iload_n hx hb dJ8_newLength_cabcc_1 rfl (lv_at hl 1 rfl) ?_
  refine lv_iload_n hx hb dJ8_newLength_cabcc_2 rfl (lv_at hl 2 rfl) ?_
  have eM : (if nI mg < nI pr then nI pr else nI mg) = nI (if mg < pr then pr else mg) := by
      by_cases h : mg < pr
      · rw [if_pos h, if_pos (nI_lt h (by omega))]
      · rw [if_neg h, if_neg (nI_nlt (by omega) (by omega))]
  have hM : (if mg < pr then pr else mg) ≤ 300000 ∧ 1 ≤ (if mg < pr then pr else mg) ∧ o + (if mg < pr then pr else mg) ≤ 300000 := by split <;> omega
  refine va_mmax hx hb (hml.trans hl.1.symm) hown (hts _ us_m869) (hts _ us_m464) (hts _ us_m49) (hts _ us_m465) (Nat.le_of_ble_eq_true rfl) (Nat.le_of_ble_eq_true rfl) (Nat.le_of_ble_eq_true rfl) (Nat.le_of_ble_eq_true rfl) dJ8_newLength_cabcc_3 ?_
  refine us_topi (x := nI (if mg < pr then pr else mg)) eM ?_
  refine lv_iadd hx hb dJ8_newLength_cabcc_6 ?_
  refine us_topi (x := nI (o + (if mg < pr then pr else mg))) (nI_add o _) ?_
  refine lv_istore_n (lv' := [(3, .int (nI (o + (if mg < pr then pr else mg)))), (0, .int (nI o)), (1, .int (nI mg)), (2, .int (nI pr))]) hx hb dJ8_newLength_cabcc_7 rfl hl (by decide) rfl (fun ls hl => ?_)
  refine lv_iconst (v := 0) hx hb dJ8_newLength_cabcc_8 (by decide) ?_
  refine lv_iload_n hx hb dJ8_newLength_cabcc_9 rfl (lv_at hl 0 rfl) ?_
  refine lv_icmp_ge (tgt := 21) hx hb dJ8_newLength_cabcc_10 (by decide) (fun cc => absurd cc (nI_nle (by omega) (by omega))) (fun _ => ?_)
  refine lv_iload_n hx hb dJ8_newLength_cabcc_13 rfl (lv_at hl 0 rfl) ?_
  refine lv_ldc (v := 2147483639) hx hb hown (hts _ us_m870) dJ8_newLength_cabcc_14 ?_
  refine lv_icmp_gt (tgt := 21) hx hb dJ8_newLength_cabcc_16 (by decide) (fun cc => absurd cc (nI_nlt (a := 2147483639) (b := o + (if mg < pr then pr else mg)) (by omega) (by decide))) (fun _ => ?_)
  refine lv_iload_n hx hb dJ8_newLength_cabcc_19 rfl (lv_at hl 0 rfl) ?_
  exact hret _ _ _ _ _ ls ⟨rfl, rfl⟩ dJ8_newLength_cabcc_20 rfl hP hD hS

theorem us_hJ5_newCapacity_0f7a4 : yJ5_newCapacity_0f7a4.cls ≠ "java/lang/invoke/MethodHandle" ∧ yJ5_newCapacity_0f7a4.cls ≠ "java/lang/invoke/VarHandle" ∧ (parseMethodDescriptor yJ5_newCapacity_0f7a4.desc).map (fun d => d.parameters.length) = some 1 := by decide +kernel
set_option maxHeartbeats 4000000 in
set_option maxRecDepth 100000 in
theorem uj_newCapacity (l : Launch) (g : us_G) {sz : Nat} {b v : Nat} {ml cn : Int32} {q cap : Nat} {a : Nat → Int32} (hq : cap < q) (hm : q ≤ 65536) : Met l yJ5_newCapacity_0f7a4 wsJ5_newCapacity_0f7a4 ({ frames := 2, cells := 0, slots := 0, locals := 44 } : Room) (va_Pc [.ref b, .int (nI q)] (us_pc g [(b, .inr (1, [.ref v, .int 0, .int ml, .int cn])), (v, .inl (g.2.2.2.1, cap, .inl a))] sz)) (va_Qi (fun (r : Int32) (u : va_W) => r = nI (sb_cap q cap) ∧ u = [(b, .inr (1, [.ref v, .int 0, .int ml, .int cn])), (v, .inl (g.2.2.2.1, cap, .inl a))]) (fun u t => ub_pq g.1 u (va_A [(b, .inr (1, [.ref v, .int 0, .int ml, .int cn])), (v, .inl (g.2.2.2.1, cap, .inl a))] sz) t) (va_A [(b, .inr (1, [.ref v, .int 0, .int ml, .int cn])), (v, .inl (g.2.2.2.1, cap, .inl a))] sz)) 0 0 (va_A [(b, .inr (1, [.ref v, .int 0, .int ml, .int cn])), (v, .inl (g.2.2.2.1, cap, .inl a))] sz) := by
  refine us_met_i (post := (fun (r : Int32) (u : va_W) => r = nI (sb_cap q cap) ∧ u = [(b, .inr (1, [.ref v, .int 0, .int ml, .int cn])), (v, .inl (g.2.2.2.1, cap, .inl a))])) (by decide +kernel) (Nat.le_of_ble_eq_true rfl) fun p e s m args below meth c Q A K hret ls hl hP hD hS => ?_
  obtain ⟨hx, hb, hml, hown, hts, hK, hN, hA, hZ⟩ := K
  have hl : lv_has ls 6 [(0, .ref b), (1, .int (nI q))] := hl
  refine lv_aload_n hx hb dJ5_newCapacity_0f7a4_0 rfl (lv_at hl 0 rfl) ?_
  refine va_get (ci := 1) (v := .ref v) (C := RJ4) (T := TJ4) (N := 4) hx hb hts us_inJ4 hown hK hP 0 rfl rfl 0 (by decide) (hts _ us_m835) (fun _ h9 => h9) rfl dJ5_newCapacity_0f7a4_1 ?_
  refine va_alen (v := Int32.ofNat cap) hx hb hK hP 1 2 rfl rfl rfl dJ5_newCapacity_0f7a4_4 ?_
  refine us_topi (x := nI cap) rfl ?_
  refine lv_istore_n (lv' := [(2, .int (nI cap)), (0, .ref b), (1, .int (nI q))]) hx hb dJ5_newCapacity_0f7a4_5 rfl hl (by decide) rfl (fun ls hl => ?_)
  refine lv_iload_n hx hb dJ5_newCapacity_0f7a4_6 rfl (lv_at hl 2 rfl) ?_
  refine lv_aload_n hx hb dJ5_newCapacity_0f7a4_7 rfl (lv_at hl 1 rfl) ?_
  refine va_get (ci := 1) (v := .int 0) (C := RJ4) (T := TJ4) (N := 4) hx hb hts us_inJ4 hown hK hP 0 rfl rfl 1 (by decide) (hts _ us_m836) (fun _ h9 => h9) rfl dJ5_newCapacity_0f7a4_8 ?_
  refine lv_ishl hx hb dJ5_newCapacity_0f7a4_11 ?_
  refine us_topi (sb_shl0 (nI q)) ?_
  refine lv_istore_n (lv' := [(3, .int (nI q)), (2, .int (nI cap)), (0, .ref b), (1, .int (nI q))]) hx hb dJ5_newCapacity_0f7a4_12 rfl hl (by decide) rfl (fun ls hl => ?_)
  refine lv_iload_n hx hb dJ5_newCapacity_0f7a4_13 rfl (lv_at hl 0 rfl) ?_
  refine lv_iload_n hx hb dJ5_newCapacity_0f7a4_14 rfl (lv_at hl 1 rfl) ?_
  refine lv_isub hx hb dJ5_newCapacity_0f7a4_15 ?_
  refine us_topi (x := nI (q - cap)) (pk_sub (by omega)) ?_
  refine lv_istore (lv' := [(4, .int (nI (q - cap))), (3, .int (nI q)), (2, .int (nI cap)), (0, .ref b), (1, .int (nI q))]) hx hb dJ5_newCapacity_0f7a4_16 hl (by decide) rfl (fun ls hl => ?_)
  refine lv_iload_n hx hb dJ5_newCapacity_0f7a4_18 rfl (lv_at hl 2 rfl) ?_
  refine lv_iload hx hb dJ5_newCapacity_0f7a4_19 (lv_at hl 0 rfl) ?_
  refine lv_iload_n hx hb dJ5_newCapacity_0f7a4_21 rfl (lv_at hl 2 rfl) ?_
  refine lv_iconst (v := 2) hx hb dJ5_newCapacity_0f7a4_22 (by decide) ?_
  refine lv_aload_n hx hb dJ5_newCapacity_0f7a4_23 rfl (lv_at hl 3 rfl) ?_
  refine va_get (ci := 1) (v := .int 0) (C := RJ4) (T := TJ4) (N := 4) hx hb hts us_inJ4 hown hK hP 0 rfl rfl 1 (by decide) (hts _ us_m836) (fun _ h9 => h9) rfl dJ5_newCapacity_0f7a4_24 ?_
  refine lv_ishl hx hb dJ5_newCapacity_0f7a4_27 ?_
  refine us_topi (sb_shl0 2) ?_
  refine lv_iadd hx hb dJ5_newCapacity_0f7a4_28 ?_
  refine us_topi (x := nI (cap + 2)) (nI_add cap 2) ?_
  have hpm : ([(b, .inr (1, [.ref v, .int 0, .int ml, .int cn])), (v, .inl (g.2.2.2.1, cap, .inl a))] : va_W).Perm ([] ++ [(b, .inr (1, [.ref v, .int 0, .int ml, .int cn])), (v, .inl (g.2.2.2.1, cap, .inl a))]) := ub_permN 2 rfl [0, 1] (by decide) rfl
  have hPc : va_P g.1 vwCl [] _ := ub_pickP hP [] rfl
  have hDc : va_D A [] := hD.sub [] (by decide) rfl
  have hFc := ub_freeP hD hS hA hpm
  refine us_calli (va_runS (As := [.int (nI cap), .int (nI (q - cap)), .int (nI (cap + 2))]) (rest := []) ⟨hx, hb, hml, hown, hts⟩ (uj_newLength l g (o := cap) (mg := q - cap) (pr := cap + 2) (by omega) (by omega)) (va_cwS 3 hts gu_RJ5_114 rfl rfl rfl us_hJ8_newLength_cabcc ⟨Nat.le_of_ble_eq_true rfl, Nat.le_of_ble_eq_true rfl⟩) (us_preS hZ hS hFc hPc hDc hK hN) rfl rfl hl.1 rfl (lv_room (Nat.le_of_ble_eq_true rfl)) dJ5_newCapacity_0f7a4_29 ⟨Nat.le_of_ble_eq_true rfl, Nat.le_of_ble_eq_true rfl⟩) hP hD hS hA hpm (fun r u H locs hpost hP hD hS => ?_)
  obtain ⟨rfl, rfl⟩ := hpost
  have hP : va_P g.1 vwCl [(b, .inr (1, [.ref v, .int 0, .int ml, .int cn])), (v, .inl (g.2.2.2.1, cap, .inl a))] _ := hP
  have hD : va_D A [(b, .inr (1, [.ref v, .int 0, .int ml, .int cn])), (v, .inl (g.2.2.2.1, cap, .inl a))] := hD
  have eC : cap + (if q - cap < cap + 2 then cap + 2 else q - cap) = sb_cap q cap := by
      rw [(us_cap_hi (show ¬ q ≤ cap by omega)).1]
      split <;> split <;> omega
  have hC : sb_cap q cap ≤ 200000 := by
      rw [← eC]
      split <;> omega
  refine us_topi (x := nI (sb_cap q cap)) (congrArg nI eC) ?_
  refine lv_istore (lv' := [(5, .int (nI (sb_cap q cap))), (4, .int (nI (q - cap))), (3, .int (nI q)), (2, .int (nI cap)), (0, .ref b), (1, .int (nI q))]) hx hb dJ5_newCapacity_0f7a4_32 hl (by decide) rfl (fun ls hl => ?_)
  refine lv_iload hx hb dJ5_newCapacity_0f7a4_34 (lv_at hl 0 rfl) ?_
  refine lv_ldc (v := 2147483647) hx hb hown (hts _ us_m874) dJ5_newCapacity_0f7a4_36 ?_
  refine lv_icmp_ne (tgt := 51) hx hb dJ5_newCapacity_0f7a4_38 (by decide) (fun _ => ?_) (fun cc => absurd cc (fun z => by have := (nI_eq (a := sb_cap q cap) (b := 2147483647) (by omega) (by decide)).mp z; omega))
  refine lv_iload hx hb dJ5_newCapacity_0f7a4_51 (lv_at hl 0 rfl) ?_
  refine lv_aload_n hx hb dJ5_newCapacity_0f7a4_53 rfl (lv_at hl 4 rfl) ?_
  refine va_get (ci := 1) (v := .int 0) (C := RJ4) (T := TJ4) (N := 4) hx hb hts us_inJ4 hown hK hP 0 rfl rfl 1 (by decide) (hts _ us_m836) (fun _ h9 => h9) rfl dJ5_newCapacity_0f7a4_54 ?_
  refine lv_ishr hx hb dJ5_newCapacity_0f7a4_57 ?_
  refine us_topi (sb_shr0 (nI (sb_cap q cap))) ?_
  exact hret _ _ _ _ _ ls ⟨rfl, rfl⟩ dJ5_newCapacity_0f7a4_58 rfl hP hD hS

theorem us_hJ7_copyOf_9075b : yJ7_copyOf_9075b.cls ≠ "java/lang/invoke/MethodHandle" ∧ yJ7_copyOf_9075b.cls ≠ "java/lang/invoke/VarHandle" ∧ (parseMethodDescriptor yJ7_copyOf_9075b.desc).map (fun d => d.parameters.length) = some 2 := by decide +kernel
set_option maxHeartbeats 4000000 in
set_option maxRecDepth 100000 in
theorem uj_copyOf (l : Launch) (g : us_G) {sz : Nat} {v n q : Nat} {a : Nat → Int32} (hnq : n < q) (hq : q ≤ 100000) (hf : sb_Fit a) : Met l yJ7_copyOf_9075b wsJ7_copyOf_9075b ({ frames := 1, cells := 1, slots := q, locals := 26 } : Room) (va_Pc [.ref v, .int (nI q)] (us_pc g [(v, .inl (g.2.2.2.1, n, .inl a))] sz)) (va_Qr (fun (_ : va_W) => True) (fun u r t => (fun (r : Nat) (u : va_W) => u = [(v, .inl (g.2.2.2.1, n, .inl a)), (r, .inl (g.2.2.2.1, q, .inl (va_cpy a (fun _ => 0) 0 0 n)))]) r u ∧ ub_pq g.1 u (va_A [(v, .inl (g.2.2.2.1, n, .inl a))] sz) t) (va_A [(v, .inl (g.2.2.2.1, n, .inl a))] sz)) 1 q (va_A [(v, .inl (g.2.2.2.1, n, .inl a))] sz) := by
  refine us_met_r (post := (fun (r : Nat) (u : va_W) => u = [(v, .inl (g.2.2.2.1, n, .inl a)), (r, .inl (g.2.2.2.1, q, .inl (va_cpy a (fun _ => 0) 0 0 n)))])) (Or.inr ⟨_, rfl⟩) (by decide +kernel) (Nat.le_of_ble_eq_true rfl) fun p e s m args below meth c Q A K hret ls hl hP hD hS => ?_
  obtain ⟨hx, hb, hml, hown, hts, hK, hN, hA, hZ⟩ := K
  have hl : lv_has ls 3 [(0, .ref v), (1, .int (nI q))] := hl
  refine lv_iload_n hx hb dJ7_copyOf_9075b_0 rfl (lv_at hl 1 rfl) ?_
  refine lv_aload_n hx hb dJ7_copyOf_9075b_1 rfl (lv_at hl 0 rfl) ?_
  refine va_alen (v := Int32.ofNat n) hx hb hK hP 0 2 rfl rfl rfl dJ7_copyOf_9075b_2 ?_
  refine us_topi (x := nI n) rfl ?_
  refine lv_icmp_ne (tgt := 14) hx hb dJ7_copyOf_9075b_3 (by decide) (fun _ => ?_) (fun cc => absurd cc (fun z => by have := (nI_eq (a := q) (b := n) (by omega) (by omega)).mp z; omega))
  refine lv_iload_n hx hb dJ7_copyOf_9075b_14 rfl (lv_at hl 1 rfl) ?_
  refine us_newb (g := g) (N := q) hx hb (hts _ us_m690) hK hP hD hS hA (nI_pos (by omega)) (nI_clamp (by omega)) hq (by show 0 + 1 ≤ 1; omega) (by show 0 + q ≤ q; omega) dJ7_copyOf_9075b_15 (fun w H hP hD hS => ?_)
  have hP : va_P g.1 vwCl [(v, .inl (g.2.2.2.1, n, .inl a)), (w, .inl (g.2.2.2.1, q, .inl (fun _ => 0)))] _ := hP
  have hD : va_D A [(v, .inl (g.2.2.2.1, n, .inl a)), (w, .inl (g.2.2.2.1, q, .inl (fun _ => 0)))] := hD
  refine lv_astore_n (lv' := [(2, .ref w), (0, .ref v), (1, .int (nI q))]) hx hb dJ7_copyOf_9075b_17 rfl hl (by decide) rfl (fun ls hl => ?_)
  refine lv_aload_n hx hb dJ7_copyOf_9075b_18 rfl (lv_at hl 1 rfl) ?_
  refine lv_iconst (v := 0) hx hb dJ7_copyOf_9075b_19 (by decide) ?_
  refine lv_aload_n hx hb dJ7_copyOf_9075b_20 rfl (lv_at hl 0 rfl) ?_
  refine lv_iconst (v := 0) hx hb dJ7_copyOf_9075b_21 (by decide) ?_
  refine lv_aload_n hx hb dJ7_copyOf_9075b_22 rfl (lv_at hl 1 rfl) ?_
  refine va_alen (v := Int32.ofNat n) hx hb hK hP 0 2 rfl rfl rfl dJ7_copyOf_9075b_23 ?_
  refine us_topi (x := nI n) rfl ?_
  refine lv_iload_n hx hb dJ7_copyOf_9075b_24 rfl (lv_at hl 2 rfl) ?_
  refine va_mmin hx hb (hml.trans hl.1.symm) hown (hts _ us_m885) (hts _ us_m348) (hts _ us_m49) (hts _ us_m349) (Nat.le_of_ble_eq_true rfl) (Nat.le_of_ble_eq_true rfl) (by show 0 + 1 ≤ 1; omega) (by show 0 + q ≤ q; omega) dJ7_copyOf_9075b_25 ?_
  refine us_topi (x := nI n) (by
      show (if nI q < nI n then nI q else nI n) = nI n
      exact if_neg (nI_nlt (by omega) (by omega))) ?_
  refine va_copyi hx hb (hml.trans hl.1.symm) hown (hts _ us_m886) (hts _ us_m352) (hts _ us_m351) (hts _ us_m50) hK hP hD hS 0 1 2 2 rfl rfl rfl rfl rfl (by decide) (by decide) (nI_pos (by omega)) (by rw [sb_cl0, nI_clamp (by omega)]; omega) (by rw [sb_cl0, nI_clamp (by omega)]; omega) (fun _ _ => hf _) (Nat.le_of_ble_eq_true rfl) (Nat.le_of_ble_eq_true rfl) dJ7_copyOf_9075b_28 (fun H locs hP hD hS => ?_)
  rw [sb_cl0, nI_clamp (show n < 2 ^ 31 by omega)] at hP hD
  have hP : va_P g.1 vwCl [(v, .inl (g.2.2.2.1, n, .inl a)), (w, .inl (g.2.2.2.1, q, .inl (va_cpy a (fun _ => 0) 0 0 n)))] _ := hP
  have hD : va_D A [(v, .inl (g.2.2.2.1, n, .inl a)), (w, .inl (g.2.2.2.1, q, .inl (va_cpy a (fun _ => 0) 0 0 n)))] := hD
  refine lv_aload_n hx hb dJ7_copyOf_9075b_31 rfl (lv_at hl 0 rfl) ?_
  refine W.widen (k := 1) (n := q) (by omega) (by omega) ?_
  exact hret w _ H locs _ ls rfl dJ7_copyOf_9075b_32 hP hD hS

theorem us_sub_le {q m : Nat} (h : q ≤ m) (hm : m ≤ 65536) : nI q - nI m ≤ 0 := by
  have e1 : (nI q - nI m).toInt = (q : Int) - m := pk_sub_toInt (by omega) (by omega)
  rw [Int32.le_iff_toInt_le, e1, Int32.toInt_zero]
  omega
theorem us_sub_nle {q m : Nat} (h : ¬ q ≤ m) (hm : q ≤ 65536) : ¬ nI q - nI m ≤ 0 := by
  have e1 : (nI q - nI m).toInt = (q : Int) - m := pk_sub_toInt (by omega) (by omega)
  rw [Int32.le_iff_toInt_le, e1, Int32.toInt_zero]
  omega
theorem us_hJ5_ensureCapacityInternal_d00df : yJ5_ensureCapacityInternal_d00df.cls ≠ "java/lang/invoke/MethodHandle" ∧ yJ5_ensureCapacityInternal_d00df.cls ≠ "java/lang/invoke/VarHandle" ∧ (parseMethodDescriptor yJ5_ensureCapacityInternal_d00df.desc).map (fun d => d.parameters.length) = some 1 := by decide +kernel
set_option maxHeartbeats 4000000 in
set_option maxRecDepth 100000 in
theorem uj_ensure (l : Launch) (g : us_G) {sz : Nat} {b v : Nat} {ml cn : Int32} {q cap : Nat} {a : Nat → Int32} (hc : cap ≤ 40000) (hm : q ≤ 65536) (hf : sb_Fit a) : Met l yJ5_ensureCapacityInternal_d00df wsJ5_ensureCapacityInternal_d00df ({ frames := 3, cells := (us_mc q cap), slots := (us_ms q cap), locals := 69 } : Room) (va_Pc [.ref b, .int (nI q)] (us_pc g [(b, .inr (1, [.ref v, .int 0, .int ml, .int cn])), (v, .inl (g.2.2.2.1, cap, .inl a))] sz)) (va_Qv (fun (u : va_W) => ∃ (v2 : Nat) (a2 : Nat → Int32), u = [(b, .inr (1, [.ref v2, .int 0, .int ml, .int cn])), (v2, .inl (g.2.2.2.1, sb_cap q cap, .inl a2))] ∧ (∀ j, j < cap → a2 j = a j) ∧ sb_Fit a2) (fun u t => ub_pq g.1 u (va_A [(b, .inr (1, [.ref v, .int 0, .int ml, .int cn])), (v, .inl (g.2.2.2.1, cap, .inl a))] sz) t) (va_A [(b, .inr (1, [.ref v, .int 0, .int ml, .int cn])), (v, .inl (g.2.2.2.1, cap, .inl a))] sz)) (us_mc q cap) (us_ms q cap) (va_A [(b, .inr (1, [.ref v, .int 0, .int ml, .int cn])), (v, .inl (g.2.2.2.1, cap, .inl a))] sz) := by
  refine us_met_v (post := (fun (u : va_W) => ∃ (v2 : Nat) (a2 : Nat → Int32), u = [(b, .inr (1, [.ref v2, .int 0, .int ml, .int cn])), (v2, .inl (g.2.2.2.1, sb_cap q cap, .inl a2))] ∧ (∀ j, j < cap → a2 j = a j) ∧ sb_Fit a2)) (by decide +kernel) (Nat.le_of_ble_eq_true rfl) fun p e s m args below meth c Q A K hin hret ls hl hP hD hS => ?_
  obtain ⟨hx, hb, hml, hown, hts, hK, hN, hA, hZ⟩ := K
  have hl : lv_has ls 3 [(0, .ref b), (1, .int (nI q))] := hl
  refine lv_aload_n hx hb dJ5_ensureCapacityInternal_d00df_0 rfl (lv_at hl 0 rfl) ?_
  refine va_get (ci := 1) (v := .ref v) (C := RJ4) (T := TJ4) (N := 4) hx hb hts us_inJ4 hown hK hP 0 rfl rfl 0 (by decide) (hts _ us_m835) (fun _ h9 => h9) rfl dJ5_ensureCapacityInternal_d00df_1 ?_
  refine va_alen (v := Int32.ofNat cap) hx hb hK hP 1 2 rfl rfl rfl dJ5_ensureCapacityInternal_d00df_4 ?_
  refine us_topi (x := nI cap) rfl ?_
  refine lv_aload_n hx hb dJ5_ensureCapacityInternal_d00df_5 rfl (lv_at hl 0 rfl) ?_
  refine va_get (ci := 1) (v := .int 0) (C := RJ4) (T := TJ4) (N := 4) hx hb hts us_inJ4 hown hK hP 0 rfl rfl 1 (by decide) (hts _ us_m836) (fun _ h9 => h9) rfl dJ5_ensureCapacityInternal_d00df_6 ?_
  refine lv_ishr hx hb dJ5_ensureCapacityInternal_d00df_9 ?_
  refine us_topi (sb_shr0 (nI cap)) ?_
  refine lv_istore_n (lv' := [(2, .int (nI cap)), (0, .ref b), (1, .int (nI q))]) hx hb dJ5_ensureCapacityInternal_d00df_10 rfl hl (by decide) rfl (fun ls hl => ?_)
  refine lv_iload_n hx hb dJ5_ensureCapacityInternal_d00df_11 rfl (lv_at hl 2 rfl) ?_
  refine lv_iload_n hx hb dJ5_ensureCapacityInternal_d00df_12 rfl (lv_at hl 0 rfl) ?_
  refine lv_isub hx hb dJ5_ensureCapacityInternal_d00df_13 ?_
  by_cases h : q ≤ cap
  · obtain ⟨k1, k2, k3⟩ := us_cap_lo h
    refine lv_if_le (tgt := 38) hx hb dJ5_ensureCapacityInternal_d00df_14 (by decide) (fun _ => ?_) (fun cc => absurd (us_sub_le h (by omega)) cc)
    refine W.widen (k := us_mc q cap) (n := us_ms q cap) (Nat.zero_le _) (Nat.zero_le _) ?_
    exact hret _ _ _ _ ls ⟨v, a, by rw [k1], fun _ _ => rfl, hf⟩ dJ5_ensureCapacityInternal_d00df_38 hP hD hS
  · obtain ⟨k1, k2, k3⟩ := us_cap_hi h
    have hg := sb_cap_ge q cap
    have hC : sb_cap q cap ≤ 100000 ∧ cap < sb_cap q cap := by rw [k1]; split <;> omega
    refine lv_if_le (tgt := 38) hx hb dJ5_ensureCapacityInternal_d00df_14 (by decide) (fun cc => absurd cc (us_sub_nle h (by omega))) (fun _ => ?_)
    refine lv_aload_n hx hb dJ5_ensureCapacityInternal_d00df_17 rfl (lv_at hl 1 rfl) ?_
    refine lv_aload_n hx hb dJ5_ensureCapacityInternal_d00df_18 rfl (lv_at hl 1 rfl) ?_
    refine va_get (ci := 1) (v := .ref v) (C := RJ4) (T := TJ4) (N := 4) hx hb hts us_inJ4 hown hK hP 0 rfl rfl 0 (by decide) (hts _ us_m835) (fun _ h9 => h9) rfl dJ5_ensureCapacityInternal_d00df_19 ?_
    refine lv_aload_n hx hb dJ5_ensureCapacityInternal_d00df_22 rfl (lv_at hl 1 rfl) ?_
    refine lv_iload_n hx hb dJ5_ensureCapacityInternal_d00df_23 rfl (lv_at hl 2 rfl) ?_
    have hpm : ([(b, .inr (1, [.ref v, .int 0, .int ml, .int cn])), (v, .inl (g.2.2.2.1, cap, .inl a))] : va_W).Perm ([(b, .inr (1, [.ref v, .int 0, .int ml, .int cn])), (v, .inl (g.2.2.2.1, cap, .inl a))] ++ []) := ub_permN 2 rfl [0, 1] (by decide) rfl
    have hPc : va_P g.1 vwCl [(b, .inr (1, [.ref v, .int 0, .int ml, .int cn])), (v, .inl (g.2.2.2.1, cap, .inl a))] _ := ub_pickP hP [0, 1] rfl
    have hDc : va_D A [(b, .inr (1, [.ref v, .int 0, .int ml, .int cn])), (v, .inl (g.2.2.2.1, cap, .inl a))] := hD.sub [0, 1] (by decide) rfl
    have hFc := ub_freeP hD hS hA hpm
    refine us_calli (va_runU (As := [.int (nI q)]) (rest := [.ref v, .ref b]) ⟨hx, hb, hml, hown, hts⟩ (uj_newCapacity l g (cap := cap) (q := q) (a := a) (by omega) hm) (va_cwU 1 hts gu_RJ5_104 rfl rfl rfl rfl us_hJ5_newCapacity_0f7a4 ⟨Nat.le_of_ble_eq_true rfl, Nat.le_of_ble_eq_true rfl⟩) (us_preV hZ hS hFc hPc hDc hK hN 0 (ci := 1) rfl rfl rfl) rfl rfl hl.1 rfl (lv_room (Nat.le_of_ble_eq_true rfl)) dJ5_ensureCapacityInternal_d00df_24 ⟨Nat.le_of_ble_eq_true rfl, Nat.le_of_ble_eq_true rfl⟩) hP hD hS hA hpm (fun r u H locs hpost hP hD hS => ?_)
    obtain ⟨rfl, rfl⟩ := hpost
    have hP : va_P g.1 vwCl [(b, .inr (1, [.ref v, .int 0, .int ml, .int cn])), (v, .inl (g.2.2.2.1, cap, .inl a))] _ := hP
    have hD : va_D A [(b, .inr (1, [.ref v, .int 0, .int ml, .int cn])), (v, .inl (g.2.2.2.1, cap, .inl a))] := hD
    refine lv_aload_n hx hb dJ5_ensureCapacityInternal_d00df_27 rfl (lv_at hl 1 rfl) ?_
    refine va_get (ci := 1) (v := .int 0) (C := RJ4) (T := TJ4) (N := 4) hx hb hts us_inJ4 hown hK hP 0 rfl rfl 1 (by decide) (hts _ us_m836) (fun _ h9 => h9) rfl dJ5_ensureCapacityInternal_d00df_28 ?_
    refine lv_ishl hx hb dJ5_ensureCapacityInternal_d00df_31 ?_
    refine us_topi (sb_shl0 (nI (sb_cap q cap))) ?_
    have hpm : ([(b, .inr (1, [.ref v, .int 0, .int ml, .int cn])), (v, .inl (g.2.2.2.1, cap, .inl a))] : va_W).Perm ([(v, .inl (g.2.2.2.1, cap, .inl a))] ++ [(b, .inr (1, [.ref v, .int 0, .int ml, .int cn]))]) := ub_permN 2 rfl [1, 0] (by decide) rfl
    have hPc : va_P g.1 vwCl [(v, .inl (g.2.2.2.1, cap, .inl a))] _ := ub_pickP hP [1] rfl
    have hDc : va_D A [(v, .inl (g.2.2.2.1, cap, .inl a))] := hD.sub [1] (by decide) rfl
    have hFc := ub_freeP hD hS hA hpm
    refine us_callr (va_runS (As := [.ref v, .int (nI (sb_cap q cap))]) (rest := [.ref b]) ⟨hx, hb, hml, hown, hts⟩ (uj_copyOf l g (n := cap) (q := sb_cap q cap) (a := a) (by omega) (by omega) hf) (va_cwS 2 hts gu_RJ5_108 rfl rfl rfl us_hJ7_copyOf_9075b ⟨Nat.le_of_ble_eq_true rfl, Nat.le_of_ble_eq_true rfl⟩) (us_preS hZ hS hFc hPc hDc hK hN) rfl rfl hl.1 rfl (lv_room (Nat.le_of_ble_eq_true rfl)) dJ5_ensureCapacityInternal_d00df_32 ⟨by show 0 + 0 + 1 ≤ us_mc q cap; omega, by show 0 + 0 + sb_cap q cap ≤ us_ms q cap; omega⟩) hP hD hS hA hpm (fun r u H locs hpost hP hD hS => ?_)
    obtain rfl := hpost
    have hP : va_P g.1 vwCl [(v, .inl (g.2.2.2.1, cap, .inl a)), (r, .inl (g.2.2.2.1, (sb_cap q cap), .inl (va_cpy a (fun _ => 0) 0 0 cap))), (b, .inr (1, [.ref v, .int 0, .int ml, .int cn]))] _ := hP
    have hD : va_D A [(v, .inl (g.2.2.2.1, cap, .inl a)), (r, .inl (g.2.2.2.1, (sb_cap q cap), .inl (va_cpy a (fun _ => 0) 0 0 cap))), (b, .inr (1, [.ref v, .int 0, .int ml, .int cn]))] := hD
    refine W.widen (k := us_mc q cap) (n := us_ms q cap) (by omega) (by omega) ?_
    refine ub_put (ws' := [(v, .inl (g.2.2.2.1, cap, .inl a)), (r, .inl (g.2.2.2.1, (sb_cap q cap), .inl (va_cpy a (fun _ => 0) 0 0 cap))), (b, .inr (1, [.ref r, .int 0, .int ml, .int cn]))]) (ci := 1) (C := RJ4) (T := TJ4) (N := 4) hx hb hts us_inJ4 tyJ4 tyJ4_ok nmJ4 hown hK hP hD hS 2 0 (v := .ref r) (ty := tyJ4 0) rfl rfl (by decide) (hts _ us_m835) (fun _ h9 => h9) rfl (tyJ4_ok 0 (by decide)) rfl rfl (Nat.le_of_ble_eq_true rfl) rfl dJ5_ensureCapacityInternal_d00df_35 (fun H locs hP hD hS => ?_)
    have hP2 : va_P g.1 vwCl [(b, .inr (1, [.ref r, .int 0, .int ml, .int cn])), (r, .inl (g.2.2.2.1, sb_cap q cap, .inl (va_cpy a (fun _ => 0) 0 0 cap)))] H := ub_pickP hP [2, 1] rfl
    have hD2 : va_D A [(b, .inr (1, [.ref r, .int 0, .int ml, .int cn])), (r, .inl (g.2.2.2.1, sb_cap q cap, .inl (va_cpy a (fun _ => 0) 0 0 cap)))] := hD.sub [2, 1] (by decide) rfl
    exact hret _ H locs _ ls ⟨r, _, rfl, fun j hj => sb_cpy0 hj, sb_fitC hf sb_fit0⟩ dJ5_ensureCapacityInternal_d00df_38 hP2 hD2 hS

theorem us_hJ5_append_3fe6f : yJ5_append_3fe6f.cls ≠ "java/lang/invoke/MethodHandle" ∧ yJ5_append_3fe6f.cls ≠ "java/lang/invoke/VarHandle" ∧ (parseMethodDescriptor yJ5_append_3fe6f.desc).map (fun d => d.parameters.length) = some 1 := by decide +kernel
set_option maxHeartbeats 4000000 in
set_option maxRecDepth 100000 in
theorem uj_appendC5 (l : Launch) (g : us_G) {sz : Nat} {b v : Nat} {ml : Int32} {n cap : Nat} {a : Nat → Int32} (hnm : n ≤ cap) (hm : cap ≤ 30000) (hf : sb_Fit a) {c0 : Nat} (hc0 : c0 < 256) : Met l yJ5_append_3fe6f wsJ5_append_3fe6f ({ frames := 4, cells := (us_mc (n + 1) cap), slots := (us_ms (n + 1) cap), locals := 91 } : Room) (va_Pc [.ref b, .int (nI c0)] (us_pc g [(b, .inr (1, [.ref v, .int 0, .int ml, .int (nI n)])), (v, .inl (g.2.2.2.1, cap, .inl a))] sz)) (va_Qr (fun (_ : va_W) => True) (fun u r t => (fun (r : Nat) (u : va_W) => r = b ∧ ∃ (v2 : Nat) (a2 : Nat → Int32), u = [(b, .inr (1, [.ref v2, .int 0, .int ml, .int (nI (n + 1))])), (v2, .inl (g.2.2.2.1, sb_cap (n + 1) cap, .inl a2))] ∧ (∀ j, j < n → a2 j = a j) ∧ a2 n = sb_b c0 ∧ sb_Fit a2) r u ∧ ub_pq g.1 u (va_A [(b, .inr (1, [.ref v, .int 0, .int ml, .int (nI n)])), (v, .inl (g.2.2.2.1, cap, .inl a))] sz) t) (va_A [(b, .inr (1, [.ref v, .int 0, .int ml, .int (nI n)])), (v, .inl (g.2.2.2.1, cap, .inl a))] sz)) (us_mc (n + 1) cap) (us_ms (n + 1) cap) (va_A [(b, .inr (1, [.ref v, .int 0, .int ml, .int (nI n)])), (v, .inl (g.2.2.2.1, cap, .inl a))] sz) := by
  refine us_met_r (post := (fun (r : Nat) (u : va_W) => r = b ∧ ∃ (v2 : Nat) (a2 : Nat → Int32), u = [(b, .inr (1, [.ref v2, .int 0, .int ml, .int (nI (n + 1))])), (v2, .inl (g.2.2.2.1, sb_cap (n + 1) cap, .inl a2))] ∧ (∀ j, j < n → a2 j = a j) ∧ a2 n = sb_b c0 ∧ sb_Fit a2)) (Or.inl ⟨_, rfl⟩) (by decide +kernel) (Nat.le_of_ble_eq_true rfl) fun p e s m args below meth c Q A K hret ls hl hP hD hS => ?_
  obtain ⟨hx, hb, hml, hown, hts, hK, hN, hA, hZ⟩ := K
  have hl : lv_has ls 2 [(0, .ref b), (1, .int (nI c0))] := hl
  refine lv_aload_n hx hb dJ5_append_3fe6f_0 rfl (lv_at hl 0 rfl) ?_
  refine lv_aload_n hx hb dJ5_append_3fe6f_1 rfl (lv_at hl 0 rfl) ?_
  refine va_get (ci := 1) (v := .int (nI n)) (C := RJ4) (T := TJ4) (N := 4) hx hb hts us_inJ4 hown hK hP 0 rfl rfl 3 (by decide) (hts _ us_m838) (fun _ h9 => h9) rfl dJ5_append_3fe6f_2 ?_
  refine lv_iconst (v := 1) hx hb dJ5_append_3fe6f_5 (by decide) ?_
  refine lv_iadd hx hb dJ5_append_3fe6f_6 ?_
  refine us_topi (x := nI (n + 1)) (nI_1 n) ?_
  have hpm : ([(b, .inr (1, [.ref v, .int 0, .int ml, .int (nI n)])), (v, .inl (g.2.2.2.1, cap, .inl a))] : va_W).Perm ([(b, .inr (1, [.ref v, .int 0, .int ml, .int (nI n)])), (v, .inl (g.2.2.2.1, cap, .inl a))] ++ []) := ub_permN 2 rfl [0, 1] (by decide) rfl
  have hPc : va_P g.1 vwCl [(b, .inr (1, [.ref v, .int 0, .int ml, .int (nI n)])), (v, .inl (g.2.2.2.1, cap, .inl a))] _ := ub_pickP hP [0, 1] rfl
  have hDc : va_D A [(b, .inr (1, [.ref v, .int 0, .int ml, .int (nI n)])), (v, .inl (g.2.2.2.1, cap, .inl a))] := hD.sub [0, 1] (by decide) rfl
  have hFc := ub_freeP hD hS hA hpm
  refine us_callv (va_runU (As := [.int (nI (n + 1))]) (rest := []) ⟨hx, hb, hml, hown, hts⟩ (uj_ensure l g (cap := cap) (q := n + 1) (a := a) (by omega) (by omega) hf) (va_cwU 1 hts gu_RJ5_100 rfl rfl rfl rfl us_hJ5_ensureCapacityInternal_d00df ⟨Nat.le_of_ble_eq_true rfl, Nat.le_of_ble_eq_true rfl⟩) (us_preV hZ hS hFc hPc hDc hK hN 0 (ci := 1) rfl rfl rfl) rfl rfl hl.1 rfl (lv_room (Nat.le_of_ble_eq_true rfl)) dJ5_append_3fe6f_7 ⟨by show 0 + us_mc (n + 1) cap ≤ us_mc (n + 1) cap; omega, by show 0 + us_ms (n + 1) cap ≤ us_ms (n + 1) cap; omega⟩) hP hD hS hA hpm (fun u H locs hpost hP hD hS => ?_)
  obtain ⟨v2, a2, rfl, hk, hf2⟩ := hpost
  have hP : va_P g.1 vwCl [(b, .inr (1, [.ref v2, .int 0, .int ml, .int (nI n)])), (v2, .inl (g.2.2.2.1, (sb_cap (n + 1) cap), .inl a2))] _ := hP
  have hD : va_D A [(b, .inr (1, [.ref v2, .int 0, .int ml, .int (nI n)])), (v2, .inl (g.2.2.2.1, (sb_cap (n + 1) cap), .inl a2))] := hD
  refine W.widen (k := us_mc (n + 1) cap) (n := us_ms (n + 1) cap) (by omega) (by omega) ?_
  have hg := sb_cap_ge (n + 1) cap
  have hC : sb_cap (n + 1) cap ≤ 70000 := by
      unfold sb_cap
      split
      · omega
      · split <;> omega
  refine lv_aload_n hx hb dJ5_append_3fe6f_10 rfl (lv_at hl 0 rfl) ?_
  have hpm : ([(b, .inr (1, [.ref v2, .int 0, .int ml, .int (nI n)])), (v2, .inl (g.2.2.2.1, (sb_cap (n + 1) cap), .inl a2))] : va_W).Perm ([(b, .inr (1, [.ref v2, .int 0, .int ml, .int (nI n)]))] ++ [(v2, .inl (g.2.2.2.1, (sb_cap (n + 1) cap), .inl a2))]) := ub_permN 2 rfl [0, 1] (by decide) rfl
  have hPc : va_P g.1 vwCl [(b, .inr (1, [.ref v2, .int 0, .int ml, .int (nI n)]))] _ := ub_pickP hP [0] rfl
  have hDc : va_D A [(b, .inr (1, [.ref v2, .int 0, .int ml, .int (nI n)]))] := hD.sub [0] (by decide) rfl
  have hFc := ub_freeP hD hS hA hpm
  refine us_calli (va_runU (As := []) (rest := []) ⟨hx, hb, hml, hown, hts⟩ (uj_isLatin1 l g) (va_cwU 0 hts gu_RJ5_83 rfl rfl rfl rfl us_hJ5_isLatin1_aae02 ⟨Nat.le_of_ble_eq_true rfl, Nat.le_of_ble_eq_true rfl⟩) (us_preV hZ hS hFc hPc hDc hK hN 0 (ci := 1) rfl rfl rfl) rfl rfl hl.1 rfl (lv_room (Nat.le_of_ble_eq_true rfl)) dJ5_append_3fe6f_11 ⟨Nat.le_refl _, Nat.le_refl _⟩) hP hD hS hA hpm (fun r u H locs hpost hP hD hS => ?_)
  obtain ⟨rfl, rfl⟩ := hpost
  have hP : va_P g.1 vwCl [(b, .inr (1, [.ref v2, .int 0, .int ml, .int (nI n)])), (v2, .inl (g.2.2.2.1, (sb_cap (n + 1) cap), .inl a2))] _ := hP
  have hD : va_D A [(b, .inr (1, [.ref v2, .int 0, .int ml, .int (nI n)])), (v2, .inl (g.2.2.2.1, (sb_cap (n + 1) cap), .inl a2))] := hD
  refine lv_if_eq (tgt := 45) hx hb dJ5_append_3fe6f_14 (by decide) (fun cc => absurd cc (by decide)) (fun _ => ?_)
  refine lv_iload_n hx hb dJ5_append_3fe6f_17 rfl (lv_at hl 1 rfl) ?_
  have hpm : ([(b, .inr (1, [.ref v2, .int 0, .int ml, .int (nI n)])), (v2, .inl (g.2.2.2.1, (sb_cap (n + 1) cap), .inl a2))] : va_W).Perm ([] ++ [(b, .inr (1, [.ref v2, .int 0, .int ml, .int (nI n)])), (v2, .inl (g.2.2.2.1, (sb_cap (n + 1) cap), .inl a2))]) := ub_permN 2 rfl [0, 1] (by decide) rfl
  have hPc : va_P g.1 vwCl [] _ := ub_pickP hP [] rfl
  have hDc : va_D A [] := hD.sub [] (by decide) rfl
  have hFc := ub_freeP hD hS hA hpm
  refine us_calli (va_runS (As := [.int (nI c0)]) (rest := []) ⟨hx, hb, hml, hown, hts⟩ (uj_canEncode l g (nI_nlt (a := 255) (b := c0) (by omega) (by decide))) (va_cwS 1 hts gu_RJ5_191 rfl rfl rfl us_hJ1_canEncode_fc78d ⟨Nat.le_of_ble_eq_true rfl, Nat.le_of_ble_eq_true rfl⟩) (us_preS hZ hS hFc hPc hDc hK hN) rfl rfl hl.1 rfl (lv_room (Nat.le_of_ble_eq_true rfl)) dJ5_append_3fe6f_18 ⟨Nat.le_refl _, Nat.le_refl _⟩) hP hD hS hA hpm (fun r u H locs hpost hP hD hS => ?_)
  obtain ⟨rfl, rfl⟩ := hpost
  have hP : va_P g.1 vwCl [(b, .inr (1, [.ref v2, .int 0, .int ml, .int (nI n)])), (v2, .inl (g.2.2.2.1, (sb_cap (n + 1) cap), .inl a2))] _ := hP
  have hD : va_D A [(b, .inr (1, [.ref v2, .int 0, .int ml, .int (nI n)])), (v2, .inl (g.2.2.2.1, (sb_cap (n + 1) cap), .inl a2))] := hD
  refine lv_if_eq (tgt := 45) hx hb dJ5_append_3fe6f_21 (by decide) (fun cc => absurd cc (by decide)) (fun _ => ?_)
  refine lv_aload_n hx hb dJ5_append_3fe6f_24 rfl (lv_at hl 0 rfl) ?_
  refine va_get (ci := 1) (v := .ref v2) (C := RJ4) (T := TJ4) (N := 4) hx hb hts us_inJ4 hown hK hP 0 rfl rfl 0 (by decide) (hts _ us_m835) (fun _ h9 => h9) rfl dJ5_append_3fe6f_25 ?_
  refine lv_aload_n hx hb dJ5_append_3fe6f_28 rfl (lv_at hl 0 rfl) ?_
  refine lv_dup hx hb dJ5_append_3fe6f_29 rfl ?_
  refine va_get (ci := 1) (v := .int (nI n)) (C := RJ4) (T := TJ4) (N := 4) hx hb hts us_inJ4 hown hK hP 0 rfl rfl 3 (by decide) (hts _ us_m838) (fun _ h9 => h9) rfl dJ5_append_3fe6f_30 ?_
  refine lv_dup_x1 hx hb dJ5_append_3fe6f_33 rfl rfl ?_
  refine lv_iconst (v := 1) hx hb dJ5_append_3fe6f_34 (by decide) ?_
  refine lv_iadd hx hb dJ5_append_3fe6f_35 ?_
  refine us_topi (x := nI (n + 1)) (nI_1 n) ?_
  refine ub_put (ws' := [(b, .inr (1, [.ref v2, .int 0, .int ml, .int (nI (n + 1))])), (v2, .inl (g.2.2.2.1, (sb_cap (n + 1) cap), .inl a2))]) (ci := 1) (C := RJ4) (T := TJ4) (N := 4) hx hb hts us_inJ4 tyJ4 tyJ4_ok nmJ4 hown hK hP hD hS 0 3 (v := .int (nI (n + 1))) (ty := tyJ4 3) rfl rfl (by decide) (hts _ us_m838) (fun _ h9 => h9) rfl (tyJ4_ok 3 (by decide)) rfl rfl (Nat.le_of_ble_eq_true rfl) rfl dJ5_append_3fe6f_36 (fun H locs hP hD hS => ?_)
  refine lv_iload_n hx hb dJ5_append_3fe6f_39 rfl (lv_at hl 1 rfl) ?_
  refine lv_i2b (v := sb_b c0) hx hb dJ5_append_3fe6f_40 rfl ?_
  refine va_bast hx hb hK hP hD hS 1 2 rfl rfl (i := nI n) (vp_in_nI (by omega) (by omega)) dJ5_append_3fe6f_41 (fun H locs hP hD hS => ?_)
  rw [nI_clamp (show n < 2 ^ 31 by omega), show vp_nar .byte (sb_b c0) = sb_b c0 from pk_vb _] at hP hD
  have hP : va_P g.1 vwCl [(b, .inr (1, [.ref v2, .int 0, .int ml, .int (nI (n + 1))])), (v2, .inl (g.2.2.2.1, (sb_cap (n + 1) cap), .inl (upd a2 n (sb_b c0))))] _ := hP
  have hD : va_D A [(b, .inr (1, [.ref v2, .int 0, .int ml, .int (nI (n + 1))])), (v2, .inl (g.2.2.2.1, (sb_cap (n + 1) cap), .inl (upd a2 n (sb_b c0))))] := hD
  refine lv_goto (tgt := 75) hx hb dJ5_append_3fe6f_42 (by decide) ?_
  refine lv_aload_n hx hb dJ5_append_3fe6f_75 rfl (lv_at hl 0 rfl) ?_
  exact hret b _ H locs _ ls ⟨rfl, v2, _, rfl, fun j hj => (pk_un (by omega)).trans (hk j (by omega)), pk_us, sb_fitU hf2 (sb_fitB c0)⟩ dJ5_append_3fe6f_76 (ub_pickP hP [0, 1] rfl) (hD.sub [0, 1] (by decide) rfl) hS

theorem us_hJ4_append_cf468 : yJ4_append_cf468.cls ≠ "java/lang/invoke/MethodHandle" ∧ yJ4_append_cf468.cls ≠ "java/lang/invoke/VarHandle" ∧ (parseMethodDescriptor yJ4_append_cf468.desc).map (fun d => d.parameters.length) = some 1 := by decide +kernel
set_option maxHeartbeats 4000000 in
set_option maxRecDepth 100000 in
theorem uj_appendC (l : Launch) (g : us_G) {sz : Nat} {b v : Nat} {ml : Int32} {n cap : Nat} {a : Nat → Int32} (hnm : n ≤ cap) (hm : cap ≤ 30000) (hf : sb_Fit a) {c0 : Nat} (hc0 : c0 < 256) : Met l yJ4_append_cf468 wsJ4_append_cf468 ({ frames := 5, cells := (us_mc (n + 1) cap), slots := (us_ms (n + 1) cap), locals := 112 } : Room) (va_Pc [.ref b, .int (nI c0)] (us_pc g [(b, .inr (1, [.ref v, .int 0, .int ml, .int (nI n)])), (v, .inl (g.2.2.2.1, cap, .inl a))] sz)) (va_Qr (fun (_ : va_W) => True) (fun u r t => (fun (r : Nat) (u : va_W) => r = b ∧ ∃ (v2 : Nat) (a2 : Nat → Int32), u = [(b, .inr (1, [.ref v2, .int 0, .int ml, .int (nI (n + 1))])), (v2, .inl (g.2.2.2.1, sb_cap (n + 1) cap, .inl a2))] ∧ (∀ j, j < n → a2 j = a j) ∧ a2 n = sb_b c0 ∧ sb_Fit a2) r u ∧ ub_pq g.1 u (va_A [(b, .inr (1, [.ref v, .int 0, .int ml, .int (nI n)])), (v, .inl (g.2.2.2.1, cap, .inl a))] sz) t) (va_A [(b, .inr (1, [.ref v, .int 0, .int ml, .int (nI n)])), (v, .inl (g.2.2.2.1, cap, .inl a))] sz)) (us_mc (n + 1) cap) (us_ms (n + 1) cap) (va_A [(b, .inr (1, [.ref v, .int 0, .int ml, .int (nI n)])), (v, .inl (g.2.2.2.1, cap, .inl a))] sz) := by
  refine us_met_r (post := (fun (r : Nat) (u : va_W) => r = b ∧ ∃ (v2 : Nat) (a2 : Nat → Int32), u = [(b, .inr (1, [.ref v2, .int 0, .int ml, .int (nI (n + 1))])), (v2, .inl (g.2.2.2.1, sb_cap (n + 1) cap, .inl a2))] ∧ (∀ j, j < n → a2 j = a j) ∧ a2 n = sb_b c0 ∧ sb_Fit a2)) (Or.inl ⟨_, rfl⟩) (by decide +kernel) (Nat.le_of_ble_eq_true rfl) fun p e s m args below meth c Q A K hret ls hl hP hD hS => ?_
  obtain ⟨hx, hb, hml, hown, hts, hK, hN, hA, hZ⟩ := K
  have hl : lv_has ls 2 [(0, .ref b), (1, .int (nI c0))] := hl
  refine lv_aload_n hx hb dJ4_append_cf468_0 rfl (lv_at hl 0 rfl) ?_
  refine lv_iload_n hx hb dJ4_append_cf468_1 rfl (lv_at hl 1 rfl) ?_
  have hpm : ([(b, .inr (1, [.ref v, .int 0, .int ml, .int (nI n)])), (v, .inl (g.2.2.2.1, cap, .inl a))] : va_W).Perm ([(b, .inr (1, [.ref v, .int 0, .int ml, .int (nI n)])), (v, .inl (g.2.2.2.1, cap, .inl a))] ++ []) := ub_permN 2 rfl [0, 1] (by decide) rfl
  have hPc : va_P g.1 vwCl [(b, .inr (1, [.ref v, .int 0, .int ml, .int (nI n)])), (v, .inl (g.2.2.2.1, cap, .inl a))] _ := ub_pickP hP [0, 1] rfl
  have hDc : va_D A [(b, .inr (1, [.ref v, .int 0, .int ml, .int (nI n)])), (v, .inl (g.2.2.2.1, cap, .inl a))] := hD.sub [0, 1] (by decide) rfl
  have hFc := ub_freeP hD hS hA hpm
  refine us_callr (va_runSU (As := [.int (nI c0)]) (rest := []) (hK.1 1 _ rfl).2 ⟨hx, hb, hml, hown, hts⟩ (uj_appendC5 l g hnm hm hf hc0) (va_cwSU 1 hts gu_RJ4_50 rfl rfl rfl ⟨by decide +kernel, us_hJ5_append_3fe6f.2.2⟩ ⟨Nat.le_of_ble_eq_true rfl, Nat.le_of_ble_eq_true rfl⟩) (us_preV hZ hS hFc hPc hDc hK hN 0 (ci := 1) rfl rfl rfl) rfl rfl hl.1 rfl (lv_room (Nat.le_of_ble_eq_true rfl)) dJ4_append_cf468_2 ⟨by show 0 + (us_mc (n + 1) cap) ≤ (us_mc (n + 1) cap); omega, by show 0 + (us_ms (n + 1) cap) ≤ (us_ms (n + 1) cap); omega⟩) hP hD hS hA hpm (fun r u H locs hpost hP hD hS => ?_)
  refine lv_pop hx hb dJ4_append_cf468_5 rfl ?_
  refine lv_aload_n hx hb dJ4_append_cf468_6 rfl (lv_at hl 0 rfl) ?_
  refine W.widen (k := (us_mc (n + 1) cap)) (n := (us_ms (n + 1) cap)) (by omega) (by omega) ?_
  have hP : va_P g.1 vwCl u H := by
      have h9 := hP
      rw [List.append_nil] at h9
      exact h9
  have hD : va_D A u := by
      have h9 := hD
      rw [List.append_nil] at h9
      exact h9
  exact hret b u H locs _ ls ⟨rfl, hpost.2⟩ dJ4_append_cf468_7 hP hD hS

theorem us_negl {w : Nat} (h : 1 ≤ w) (hw : w < 2 ^ 31) : -nI w < 0 := by
  rw [Int32.lt_iff_toInt_lt, sb_negT hw, Int32.toInt_zero]
  omega
theorem us_hJ6_stringSize_0f7a4 : yJ6_stringSize_0f7a4.cls ≠ "java/lang/invoke/MethodHandle" ∧ yJ6_stringSize_0f7a4.cls ≠ "java/lang/invoke/VarHandle" ∧ (parseMethodDescriptor yJ6_stringSize_0f7a4.desc).map (fun d => d.parameters.length) = some 1 := by decide +kernel
set_option maxHeartbeats 4000000 in
set_option maxRecDepth 100000 in
theorem uj_stringSize (l : Launch) (g : us_G) {sz : Nat} {x dd : Int32} {w0 : Nat} (hw : w0 < 2 ^ 31) (hx0 : (x = nI w0 ∧ dd = 0) ∨ (x = -nI w0 ∧ 1 ≤ w0 ∧ dd = 1)) : Met l yJ6_stringSize_0f7a4 wsJ6_stringSize_0f7a4 ({ frames := 0, cells := 0, slots := 0, locals := 0 } : Room) (va_Pc [.int x] (us_pc g [] sz)) (va_Qi (fun (r : Int32) (u : va_W) => r = nI (sb_dg w0) + dd ∧ u = ([] : va_W)) (fun u t => ub_pq g.1 u (va_A [] sz) t) (va_A [] sz)) 0 0 (va_A [] sz) := by
  refine us_met_i (post := (fun (r : Int32) (u : va_W) => r = nI (sb_dg w0) + dd ∧ u = ([] : va_W))) (by decide +kernel) (Nat.le_of_ble_eq_true rfl) fun p e s m args below meth c Q A K hret ls hl hP hD hS => ?_
  obtain ⟨hx, hb, hml, hown, hts, hK, hN, hA, hZ⟩ := K
  have hl : lv_has ls 4 [(0, .int x)] := hl
  have main : ∀ ls : Array Slot, lv_has ls 4 [(0, .int (-nI w0)), (1, .int dd)] → W p l e ({ frames := 0, cells := 0, slots := 0, locals := 0 } : Room) s m args below meth c s.heap [] 0 0 Q (F0 m 11 ls []) := by
    intro ls hl
    refine lv_bipush (v := (-10)) hx hb dJ6_stringSize_0f7a4_11 (by decide) ?_
    refine us_topi (x := -nI 10) (show (-10 : Int32) = -nI 10 by decide) ?_
    refine lv_istore_n (lv' := [(2, .int (-nI 10)), (0, .int (-nI w0)), (1, .int dd)]) hx hb dJ6_stringSize_0f7a4_13 rfl hl (by decide) rfl (fun ls hl => ?_)
    refine lv_iconst (v := 1) hx hb dJ6_stringSize_0f7a4_14 (by decide) ?_
    refine lv_istore_n (lv' := [(3, .int 1), (2, .int (-nI 10)), (0, .int (-nI w0)), (1, .int dd)]) hx hb dJ6_stringSize_0f7a4_15 rfl hl (by decide) rfl (fun ls hl => ?_)
    refine lv_iload_n hx hb dJ6_stringSize_0f7a4_16 rfl (lv_at hl 0 rfl) ?_
    refine lv_bipush (v := 10) hx hb dJ6_stringSize_0f7a4_17 (by decide) ?_
    refine lv_icmp_ge (tgt := 42) hx hb dJ6_stringSize_0f7a4_19 (by decide) (fun cc => absurd cc (by decide)) (fun _ => ?_)
    refine lv_iload_n hx hb dJ6_stringSize_0f7a4_22 rfl (lv_at hl 2 rfl) ?_
    refine lv_iload_n hx hb dJ6_stringSize_0f7a4_23 rfl (lv_at hl 1 rfl) ?_
    by_cases h1 : w0 < 10
    · refine lv_icmp_le (tgt := 31) hx hb dJ6_stringSize_0f7a4_24 (by decide) (fun cc => absurd cc (fun z => by have := (sb_nle hw (by decide)).mp z; omega)) (fun _ => ?_)
      refine lv_iload_n hx hb dJ6_stringSize_0f7a4_27 rfl (lv_at hl 0 rfl) ?_
      refine us_topi (x := nI 1) (show (1 : Int32) = nI 1 by decide) ?_
      refine lv_iload_n hx hb dJ6_stringSize_0f7a4_28 rfl (lv_at hl 3 rfl) ?_
      refine lv_iadd hx hb dJ6_stringSize_0f7a4_29 ?_
      exact hret _ _ _ _ _ ls ⟨by rw [show sb_dg w0 = 1 by unfold sb_dg; (repeat' split) <;> omega], rfl⟩ dJ6_stringSize_0f7a4_30 rfl hP hD hS
    refine lv_icmp_le (tgt := 31) hx hb dJ6_stringSize_0f7a4_24 (by decide) (fun _ => ?_) (fun cc => absurd ((sb_nle hw (by decide)).mpr (by omega)) cc)
    refine lv_bipush (v := 10) hx hb dJ6_stringSize_0f7a4_31 (by decide) ?_
    refine lv_iload_n hx hb dJ6_stringSize_0f7a4_33 rfl (lv_at hl 1 rfl) ?_
    refine lv_imul hx hb dJ6_stringSize_0f7a4_34 ?_
    refine us_topi (x := -nI 100) (show (10 : Int32) * -nI 10 = -nI 100 by decide) ?_
    refine lv_istore_n (lv' := [(2, .int (-nI 100)), (3, .int 1), (0, .int (-nI w0)), (1, .int dd)]) hx hb dJ6_stringSize_0f7a4_35 rfl hl (by decide) rfl (fun ls hl => ?_)
    refine lv_iinc (v := 1 + 1) (lv' := [(3, .int (1 + 1)), (2, .int (-nI 100)), (0, .int (-nI w0)), (1, .int dd)]) hx hb dJ6_stringSize_0f7a4_36 hl (k := 1) rfl rfl (by decide) rfl (fun ls hl => ?_)
    refine lv_goto (tgt := 16) hx hb dJ6_stringSize_0f7a4_39 (by decide) ?_
    refine lv_iload_n hx hb dJ6_stringSize_0f7a4_16 rfl (lv_at hl 0 rfl) ?_
    refine lv_bipush (v := 10) hx hb dJ6_stringSize_0f7a4_17 (by decide) ?_
    refine lv_icmp_ge (tgt := 42) hx hb dJ6_stringSize_0f7a4_19 (by decide) (fun cc => absurd cc (by decide)) (fun _ => ?_)
    refine lv_iload_n hx hb dJ6_stringSize_0f7a4_22 rfl (lv_at hl 2 rfl) ?_
    refine lv_iload_n hx hb dJ6_stringSize_0f7a4_23 rfl (lv_at hl 1 rfl) ?_
    by_cases h2 : w0 < 100
    · refine lv_icmp_le (tgt := 31) hx hb dJ6_stringSize_0f7a4_24 (by decide) (fun cc => absurd cc (fun z => by have := (sb_nle hw (by decide)).mp z; omega)) (fun _ => ?_)
      refine lv_iload_n hx hb dJ6_stringSize_0f7a4_27 rfl (lv_at hl 0 rfl) ?_
      refine us_topi (x := nI 2) (show ((1 + 1) : Int32) = nI 2 by decide) ?_
      refine lv_iload_n hx hb dJ6_stringSize_0f7a4_28 rfl (lv_at hl 3 rfl) ?_
      refine lv_iadd hx hb dJ6_stringSize_0f7a4_29 ?_
      exact hret _ _ _ _ _ ls ⟨by rw [show sb_dg w0 = 2 by unfold sb_dg; (repeat' split) <;> omega], rfl⟩ dJ6_stringSize_0f7a4_30 rfl hP hD hS
    refine lv_icmp_le (tgt := 31) hx hb dJ6_stringSize_0f7a4_24 (by decide) (fun _ => ?_) (fun cc => absurd ((sb_nle hw (by decide)).mpr (by omega)) cc)
    refine lv_bipush (v := 10) hx hb dJ6_stringSize_0f7a4_31 (by decide) ?_
    refine lv_iload_n hx hb dJ6_stringSize_0f7a4_33 rfl (lv_at hl 1 rfl) ?_
    refine lv_imul hx hb dJ6_stringSize_0f7a4_34 ?_
    refine us_topi (x := -nI 1000) (show (10 : Int32) * -nI 100 = -nI 1000 by decide) ?_
    refine lv_istore_n (lv' := [(2, .int (-nI 1000)), (3, .int (1 + 1)), (0, .int (-nI w0)), (1, .int dd)]) hx hb dJ6_stringSize_0f7a4_35 rfl hl (by decide) rfl (fun ls hl => ?_)
    refine lv_iinc (v := (1 + 1) + 1) (lv' := [(3, .int ((1 + 1) + 1)), (2, .int (-nI 1000)), (0, .int (-nI w0)), (1, .int dd)]) hx hb dJ6_stringSize_0f7a4_36 hl (k := 1) rfl rfl (by decide) rfl (fun ls hl => ?_)
    refine lv_goto (tgt := 16) hx hb dJ6_stringSize_0f7a4_39 (by decide) ?_
    refine lv_iload_n hx hb dJ6_stringSize_0f7a4_16 rfl (lv_at hl 0 rfl) ?_
    refine lv_bipush (v := 10) hx hb dJ6_stringSize_0f7a4_17 (by decide) ?_
    refine lv_icmp_ge (tgt := 42) hx hb dJ6_stringSize_0f7a4_19 (by decide) (fun cc => absurd cc (by decide)) (fun _ => ?_)
    refine lv_iload_n hx hb dJ6_stringSize_0f7a4_22 rfl (lv_at hl 2 rfl) ?_
    refine lv_iload_n hx hb dJ6_stringSize_0f7a4_23 rfl (lv_at hl 1 rfl) ?_
    by_cases h3 : w0 < 1000
    · refine lv_icmp_le (tgt := 31) hx hb dJ6_stringSize_0f7a4_24 (by decide) (fun cc => absurd cc (fun z => by have := (sb_nle hw (by decide)).mp z; omega)) (fun _ => ?_)
      refine lv_iload_n hx hb dJ6_stringSize_0f7a4_27 rfl (lv_at hl 0 rfl) ?_
      refine us_topi (x := nI 3) (show (((1 + 1) + 1) : Int32) = nI 3 by decide) ?_
      refine lv_iload_n hx hb dJ6_stringSize_0f7a4_28 rfl (lv_at hl 3 rfl) ?_
      refine lv_iadd hx hb dJ6_stringSize_0f7a4_29 ?_
      exact hret _ _ _ _ _ ls ⟨by rw [show sb_dg w0 = 3 by unfold sb_dg; (repeat' split) <;> omega], rfl⟩ dJ6_stringSize_0f7a4_30 rfl hP hD hS
    refine lv_icmp_le (tgt := 31) hx hb dJ6_stringSize_0f7a4_24 (by decide) (fun _ => ?_) (fun cc => absurd ((sb_nle hw (by decide)).mpr (by omega)) cc)
    refine lv_bipush (v := 10) hx hb dJ6_stringSize_0f7a4_31 (by decide) ?_
    refine lv_iload_n hx hb dJ6_stringSize_0f7a4_33 rfl (lv_at hl 1 rfl) ?_
    refine lv_imul hx hb dJ6_stringSize_0f7a4_34 ?_
    refine us_topi (x := -nI 10000) (show (10 : Int32) * -nI 1000 = -nI 10000 by decide) ?_
    refine lv_istore_n (lv' := [(2, .int (-nI 10000)), (3, .int ((1 + 1) + 1)), (0, .int (-nI w0)), (1, .int dd)]) hx hb dJ6_stringSize_0f7a4_35 rfl hl (by decide) rfl (fun ls hl => ?_)
    refine lv_iinc (v := ((1 + 1) + 1) + 1) (lv' := [(3, .int (((1 + 1) + 1) + 1)), (2, .int (-nI 10000)), (0, .int (-nI w0)), (1, .int dd)]) hx hb dJ6_stringSize_0f7a4_36 hl (k := 1) rfl rfl (by decide) rfl (fun ls hl => ?_)
    refine lv_goto (tgt := 16) hx hb dJ6_stringSize_0f7a4_39 (by decide) ?_
    refine lv_iload_n hx hb dJ6_stringSize_0f7a4_16 rfl (lv_at hl 0 rfl) ?_
    refine lv_bipush (v := 10) hx hb dJ6_stringSize_0f7a4_17 (by decide) ?_
    refine lv_icmp_ge (tgt := 42) hx hb dJ6_stringSize_0f7a4_19 (by decide) (fun cc => absurd cc (by decide)) (fun _ => ?_)
    refine lv_iload_n hx hb dJ6_stringSize_0f7a4_22 rfl (lv_at hl 2 rfl) ?_
    refine lv_iload_n hx hb dJ6_stringSize_0f7a4_23 rfl (lv_at hl 1 rfl) ?_
    by_cases h4 : w0 < 10000
    · refine lv_icmp_le (tgt := 31) hx hb dJ6_stringSize_0f7a4_24 (by decide) (fun cc => absurd cc (fun z => by have := (sb_nle hw (by decide)).mp z; omega)) (fun _ => ?_)
      refine lv_iload_n hx hb dJ6_stringSize_0f7a4_27 rfl (lv_at hl 0 rfl) ?_
      refine us_topi (x := nI 4) (show ((((1 + 1) + 1) + 1) : Int32) = nI 4 by decide) ?_
      refine lv_iload_n hx hb dJ6_stringSize_0f7a4_28 rfl (lv_at hl 3 rfl) ?_
      refine lv_iadd hx hb dJ6_stringSize_0f7a4_29 ?_
      exact hret _ _ _ _ _ ls ⟨by rw [show sb_dg w0 = 4 by unfold sb_dg; (repeat' split) <;> omega], rfl⟩ dJ6_stringSize_0f7a4_30 rfl hP hD hS
    refine lv_icmp_le (tgt := 31) hx hb dJ6_stringSize_0f7a4_24 (by decide) (fun _ => ?_) (fun cc => absurd ((sb_nle hw (by decide)).mpr (by omega)) cc)
    refine lv_bipush (v := 10) hx hb dJ6_stringSize_0f7a4_31 (by decide) ?_
    refine lv_iload_n hx hb dJ6_stringSize_0f7a4_33 rfl (lv_at hl 1 rfl) ?_
    refine lv_imul hx hb dJ6_stringSize_0f7a4_34 ?_
    refine us_topi (x := -nI 100000) (show (10 : Int32) * -nI 10000 = -nI 100000 by decide) ?_
    refine lv_istore_n (lv' := [(2, .int (-nI 100000)), (3, .int (((1 + 1) + 1) + 1)), (0, .int (-nI w0)), (1, .int dd)]) hx hb dJ6_stringSize_0f7a4_35 rfl hl (by decide) rfl (fun ls hl => ?_)
    refine lv_iinc (v := (((1 + 1) + 1) + 1) + 1) (lv' := [(3, .int ((((1 + 1) + 1) + 1) + 1)), (2, .int (-nI 100000)), (0, .int (-nI w0)), (1, .int dd)]) hx hb dJ6_stringSize_0f7a4_36 hl (k := 1) rfl rfl (by decide) rfl (fun ls hl => ?_)
    refine lv_goto (tgt := 16) hx hb dJ6_stringSize_0f7a4_39 (by decide) ?_
    refine lv_iload_n hx hb dJ6_stringSize_0f7a4_16 rfl (lv_at hl 0 rfl) ?_
    refine lv_bipush (v := 10) hx hb dJ6_stringSize_0f7a4_17 (by decide) ?_
    refine lv_icmp_ge (tgt := 42) hx hb dJ6_stringSize_0f7a4_19 (by decide) (fun cc => absurd cc (by decide)) (fun _ => ?_)
    refine lv_iload_n hx hb dJ6_stringSize_0f7a4_22 rfl (lv_at hl 2 rfl) ?_
    refine lv_iload_n hx hb dJ6_stringSize_0f7a4_23 rfl (lv_at hl 1 rfl) ?_
    by_cases h5 : w0 < 100000
    · refine lv_icmp_le (tgt := 31) hx hb dJ6_stringSize_0f7a4_24 (by decide) (fun cc => absurd cc (fun z => by have := (sb_nle hw (by decide)).mp z; omega)) (fun _ => ?_)
      refine lv_iload_n hx hb dJ6_stringSize_0f7a4_27 rfl (lv_at hl 0 rfl) ?_
      refine us_topi (x := nI 5) (show (((((1 + 1) + 1) + 1) + 1) : Int32) = nI 5 by decide) ?_
      refine lv_iload_n hx hb dJ6_stringSize_0f7a4_28 rfl (lv_at hl 3 rfl) ?_
      refine lv_iadd hx hb dJ6_stringSize_0f7a4_29 ?_
      exact hret _ _ _ _ _ ls ⟨by rw [show sb_dg w0 = 5 by unfold sb_dg; (repeat' split) <;> omega], rfl⟩ dJ6_stringSize_0f7a4_30 rfl hP hD hS
    refine lv_icmp_le (tgt := 31) hx hb dJ6_stringSize_0f7a4_24 (by decide) (fun _ => ?_) (fun cc => absurd ((sb_nle hw (by decide)).mpr (by omega)) cc)
    refine lv_bipush (v := 10) hx hb dJ6_stringSize_0f7a4_31 (by decide) ?_
    refine lv_iload_n hx hb dJ6_stringSize_0f7a4_33 rfl (lv_at hl 1 rfl) ?_
    refine lv_imul hx hb dJ6_stringSize_0f7a4_34 ?_
    refine us_topi (x := -nI 1000000) (show (10 : Int32) * -nI 100000 = -nI 1000000 by decide) ?_
    refine lv_istore_n (lv' := [(2, .int (-nI 1000000)), (3, .int ((((1 + 1) + 1) + 1) + 1)), (0, .int (-nI w0)), (1, .int dd)]) hx hb dJ6_stringSize_0f7a4_35 rfl hl (by decide) rfl (fun ls hl => ?_)
    refine lv_iinc (v := ((((1 + 1) + 1) + 1) + 1) + 1) (lv' := [(3, .int (((((1 + 1) + 1) + 1) + 1) + 1)), (2, .int (-nI 1000000)), (0, .int (-nI w0)), (1, .int dd)]) hx hb dJ6_stringSize_0f7a4_36 hl (k := 1) rfl rfl (by decide) rfl (fun ls hl => ?_)
    refine lv_goto (tgt := 16) hx hb dJ6_stringSize_0f7a4_39 (by decide) ?_
    refine lv_iload_n hx hb dJ6_stringSize_0f7a4_16 rfl (lv_at hl 0 rfl) ?_
    refine lv_bipush (v := 10) hx hb dJ6_stringSize_0f7a4_17 (by decide) ?_
    refine lv_icmp_ge (tgt := 42) hx hb dJ6_stringSize_0f7a4_19 (by decide) (fun cc => absurd cc (by decide)) (fun _ => ?_)
    refine lv_iload_n hx hb dJ6_stringSize_0f7a4_22 rfl (lv_at hl 2 rfl) ?_
    refine lv_iload_n hx hb dJ6_stringSize_0f7a4_23 rfl (lv_at hl 1 rfl) ?_
    by_cases h6 : w0 < 1000000
    · refine lv_icmp_le (tgt := 31) hx hb dJ6_stringSize_0f7a4_24 (by decide) (fun cc => absurd cc (fun z => by have := (sb_nle hw (by decide)).mp z; omega)) (fun _ => ?_)
      refine lv_iload_n hx hb dJ6_stringSize_0f7a4_27 rfl (lv_at hl 0 rfl) ?_
      refine us_topi (x := nI 6) (show ((((((1 + 1) + 1) + 1) + 1) + 1) : Int32) = nI 6 by decide) ?_
      refine lv_iload_n hx hb dJ6_stringSize_0f7a4_28 rfl (lv_at hl 3 rfl) ?_
      refine lv_iadd hx hb dJ6_stringSize_0f7a4_29 ?_
      exact hret _ _ _ _ _ ls ⟨by rw [show sb_dg w0 = 6 by unfold sb_dg; (repeat' split) <;> omega], rfl⟩ dJ6_stringSize_0f7a4_30 rfl hP hD hS
    refine lv_icmp_le (tgt := 31) hx hb dJ6_stringSize_0f7a4_24 (by decide) (fun _ => ?_) (fun cc => absurd ((sb_nle hw (by decide)).mpr (by omega)) cc)
    refine lv_bipush (v := 10) hx hb dJ6_stringSize_0f7a4_31 (by decide) ?_
    refine lv_iload_n hx hb dJ6_stringSize_0f7a4_33 rfl (lv_at hl 1 rfl) ?_
    refine lv_imul hx hb dJ6_stringSize_0f7a4_34 ?_
    refine us_topi (x := -nI 10000000) (show (10 : Int32) * -nI 1000000 = -nI 10000000 by decide) ?_
    refine lv_istore_n (lv' := [(2, .int (-nI 10000000)), (3, .int (((((1 + 1) + 1) + 1) + 1) + 1)), (0, .int (-nI w0)), (1, .int dd)]) hx hb dJ6_stringSize_0f7a4_35 rfl hl (by decide) rfl (fun ls hl => ?_)
    refine lv_iinc (v := (((((1 + 1) + 1) + 1) + 1) + 1) + 1) (lv' := [(3, .int ((((((1 + 1) + 1) + 1) + 1) + 1) + 1)), (2, .int (-nI 10000000)), (0, .int (-nI w0)), (1, .int dd)]) hx hb dJ6_stringSize_0f7a4_36 hl (k := 1) rfl rfl (by decide) rfl (fun ls hl => ?_)
    refine lv_goto (tgt := 16) hx hb dJ6_stringSize_0f7a4_39 (by decide) ?_
    refine lv_iload_n hx hb dJ6_stringSize_0f7a4_16 rfl (lv_at hl 0 rfl) ?_
    refine lv_bipush (v := 10) hx hb dJ6_stringSize_0f7a4_17 (by decide) ?_
    refine lv_icmp_ge (tgt := 42) hx hb dJ6_stringSize_0f7a4_19 (by decide) (fun cc => absurd cc (by decide)) (fun _ => ?_)
    refine lv_iload_n hx hb dJ6_stringSize_0f7a4_22 rfl (lv_at hl 2 rfl) ?_
    refine lv_iload_n hx hb dJ6_stringSize_0f7a4_23 rfl (lv_at hl 1 rfl) ?_
    by_cases h7 : w0 < 10000000
    · refine lv_icmp_le (tgt := 31) hx hb dJ6_stringSize_0f7a4_24 (by decide) (fun cc => absurd cc (fun z => by have := (sb_nle hw (by decide)).mp z; omega)) (fun _ => ?_)
      refine lv_iload_n hx hb dJ6_stringSize_0f7a4_27 rfl (lv_at hl 0 rfl) ?_
      refine us_topi (x := nI 7) (show (((((((1 + 1) + 1) + 1) + 1) + 1) + 1) : Int32) = nI 7 by decide) ?_
      refine lv_iload_n hx hb dJ6_stringSize_0f7a4_28 rfl (lv_at hl 3 rfl) ?_
      refine lv_iadd hx hb dJ6_stringSize_0f7a4_29 ?_
      exact hret _ _ _ _ _ ls ⟨by rw [show sb_dg w0 = 7 by unfold sb_dg; (repeat' split) <;> omega], rfl⟩ dJ6_stringSize_0f7a4_30 rfl hP hD hS
    refine lv_icmp_le (tgt := 31) hx hb dJ6_stringSize_0f7a4_24 (by decide) (fun _ => ?_) (fun cc => absurd ((sb_nle hw (by decide)).mpr (by omega)) cc)
    refine lv_bipush (v := 10) hx hb dJ6_stringSize_0f7a4_31 (by decide) ?_
    refine lv_iload_n hx hb dJ6_stringSize_0f7a4_33 rfl (lv_at hl 1 rfl) ?_
    refine lv_imul hx hb dJ6_stringSize_0f7a4_34 ?_
    refine us_topi (x := -nI 100000000) (show (10 : Int32) * -nI 10000000 = -nI 100000000 by decide) ?_
    refine lv_istore_n (lv' := [(2, .int (-nI 100000000)), (3, .int ((((((1 + 1) + 1) + 1) + 1) + 1) + 1)), (0, .int (-nI w0)), (1, .int dd)]) hx hb dJ6_stringSize_0f7a4_35 rfl hl (by decide) rfl (fun ls hl => ?_)
    refine lv_iinc (v := ((((((1 + 1) + 1) + 1) + 1) + 1) + 1) + 1) (lv' := [(3, .int (((((((1 + 1) + 1) + 1) + 1) + 1) + 1) + 1)), (2, .int (-nI 100000000)), (0, .int (-nI w0)), (1, .int dd)]) hx hb dJ6_stringSize_0f7a4_36 hl (k := 1) rfl rfl (by decide) rfl (fun ls hl => ?_)
    refine lv_goto (tgt := 16) hx hb dJ6_stringSize_0f7a4_39 (by decide) ?_
    refine lv_iload_n hx hb dJ6_stringSize_0f7a4_16 rfl (lv_at hl 0 rfl) ?_
    refine lv_bipush (v := 10) hx hb dJ6_stringSize_0f7a4_17 (by decide) ?_
    refine lv_icmp_ge (tgt := 42) hx hb dJ6_stringSize_0f7a4_19 (by decide) (fun cc => absurd cc (by decide)) (fun _ => ?_)
    refine lv_iload_n hx hb dJ6_stringSize_0f7a4_22 rfl (lv_at hl 2 rfl) ?_
    refine lv_iload_n hx hb dJ6_stringSize_0f7a4_23 rfl (lv_at hl 1 rfl) ?_
    by_cases h8 : w0 < 100000000
    · refine lv_icmp_le (tgt := 31) hx hb dJ6_stringSize_0f7a4_24 (by decide) (fun cc => absurd cc (fun z => by have := (sb_nle hw (by decide)).mp z; omega)) (fun _ => ?_)
      refine lv_iload_n hx hb dJ6_stringSize_0f7a4_27 rfl (lv_at hl 0 rfl) ?_
      refine us_topi (x := nI 8) (show ((((((((1 + 1) + 1) + 1) + 1) + 1) + 1) + 1) : Int32) = nI 8 by decide) ?_
      refine lv_iload_n hx hb dJ6_stringSize_0f7a4_28 rfl (lv_at hl 3 rfl) ?_
      refine lv_iadd hx hb dJ6_stringSize_0f7a4_29 ?_
      exact hret _ _ _ _ _ ls ⟨by rw [show sb_dg w0 = 8 by unfold sb_dg; (repeat' split) <;> omega], rfl⟩ dJ6_stringSize_0f7a4_30 rfl hP hD hS
    refine lv_icmp_le (tgt := 31) hx hb dJ6_stringSize_0f7a4_24 (by decide) (fun _ => ?_) (fun cc => absurd ((sb_nle hw (by decide)).mpr (by omega)) cc)
    refine lv_bipush (v := 10) hx hb dJ6_stringSize_0f7a4_31 (by decide) ?_
    refine lv_iload_n hx hb dJ6_stringSize_0f7a4_33 rfl (lv_at hl 1 rfl) ?_
    refine lv_imul hx hb dJ6_stringSize_0f7a4_34 ?_
    refine us_topi (x := -nI 1000000000) (show (10 : Int32) * -nI 100000000 = -nI 1000000000 by decide) ?_
    refine lv_istore_n (lv' := [(2, .int (-nI 1000000000)), (3, .int (((((((1 + 1) + 1) + 1) + 1) + 1) + 1) + 1)), (0, .int (-nI w0)), (1, .int dd)]) hx hb dJ6_stringSize_0f7a4_35 rfl hl (by decide) rfl (fun ls hl => ?_)
    refine lv_iinc (v := (((((((1 + 1) + 1) + 1) + 1) + 1) + 1) + 1) + 1) (lv' := [(3, .int ((((((((1 + 1) + 1) + 1) + 1) + 1) + 1) + 1) + 1)), (2, .int (-nI 1000000000)), (0, .int (-nI w0)), (1, .int dd)]) hx hb dJ6_stringSize_0f7a4_36 hl (k := 1) rfl rfl (by decide) rfl (fun ls hl => ?_)
    refine lv_goto (tgt := 16) hx hb dJ6_stringSize_0f7a4_39 (by decide) ?_
    refine lv_iload_n hx hb dJ6_stringSize_0f7a4_16 rfl (lv_at hl 0 rfl) ?_
    refine lv_bipush (v := 10) hx hb dJ6_stringSize_0f7a4_17 (by decide) ?_
    refine lv_icmp_ge (tgt := 42) hx hb dJ6_stringSize_0f7a4_19 (by decide) (fun cc => absurd cc (by decide)) (fun _ => ?_)
    refine lv_iload_n hx hb dJ6_stringSize_0f7a4_22 rfl (lv_at hl 2 rfl) ?_
    refine lv_iload_n hx hb dJ6_stringSize_0f7a4_23 rfl (lv_at hl 1 rfl) ?_
    by_cases h9 : w0 < 1000000000
    · refine lv_icmp_le (tgt := 31) hx hb dJ6_stringSize_0f7a4_24 (by decide) (fun cc => absurd cc (fun z => by have := (sb_nle hw (by decide)).mp z; omega)) (fun _ => ?_)
      refine lv_iload_n hx hb dJ6_stringSize_0f7a4_27 rfl (lv_at hl 0 rfl) ?_
      refine us_topi (x := nI 9) (show (((((((((1 + 1) + 1) + 1) + 1) + 1) + 1) + 1) + 1) : Int32) = nI 9 by decide) ?_
      refine lv_iload_n hx hb dJ6_stringSize_0f7a4_28 rfl (lv_at hl 3 rfl) ?_
      refine lv_iadd hx hb dJ6_stringSize_0f7a4_29 ?_
      exact hret _ _ _ _ _ ls ⟨by rw [show sb_dg w0 = 9 by unfold sb_dg; (repeat' split) <;> omega], rfl⟩ dJ6_stringSize_0f7a4_30 rfl hP hD hS
    refine lv_icmp_le (tgt := 31) hx hb dJ6_stringSize_0f7a4_24 (by decide) (fun _ => ?_) (fun cc => absurd ((sb_nle hw (by decide)).mpr (by omega)) cc)
    refine lv_bipush (v := 10) hx hb dJ6_stringSize_0f7a4_31 (by decide) ?_
    refine lv_iload_n hx hb dJ6_stringSize_0f7a4_33 rfl (lv_at hl 1 rfl) ?_
    refine lv_imul hx hb dJ6_stringSize_0f7a4_34 ?_
    refine lv_istore_n (lv' := [(2, .int (10 * (-nI 1000000000))), (3, .int ((((((((1 + 1) + 1) + 1) + 1) + 1) + 1) + 1) + 1)), (0, .int (-nI w0)), (1, .int dd)]) hx hb dJ6_stringSize_0f7a4_35 rfl hl (by decide) rfl (fun ls hl => ?_)
    refine lv_iinc (v := ((((((((1 + 1) + 1) + 1) + 1) + 1) + 1) + 1) + 1) + 1) (lv' := [(3, .int (((((((((1 + 1) + 1) + 1) + 1) + 1) + 1) + 1) + 1) + 1)), (2, .int (10 * (-nI 1000000000))), (0, .int (-nI w0)), (1, .int dd)]) hx hb dJ6_stringSize_0f7a4_36 hl (k := 1) rfl rfl (by decide) rfl (fun ls hl => ?_)
    refine lv_goto (tgt := 16) hx hb dJ6_stringSize_0f7a4_39 (by decide) ?_
    refine lv_iload_n hx hb dJ6_stringSize_0f7a4_16 rfl (lv_at hl 0 rfl) ?_
    refine lv_bipush (v := 10) hx hb dJ6_stringSize_0f7a4_17 (by decide) ?_
    refine lv_icmp_ge (tgt := 42) hx hb dJ6_stringSize_0f7a4_19 (by decide) (fun _ => ?_) (fun cc => absurd (by decide) cc)
    refine lv_bipush (v := 10) hx hb dJ6_stringSize_0f7a4_42 (by decide) ?_
    refine lv_iload_n hx hb dJ6_stringSize_0f7a4_44 rfl (lv_at hl 3 rfl) ?_
    refine lv_iadd hx hb dJ6_stringSize_0f7a4_45 ?_
    exact hret _ _ _ _ _ ls ⟨by rw [show sb_dg w0 = 10 by unfold sb_dg; (repeat' split) <;> omega]; rfl, rfl⟩ dJ6_stringSize_0f7a4_46 rfl hP hD hS
  refine lv_iconst (v := 1) hx hb dJ6_stringSize_0f7a4_0 (by decide) ?_
  refine lv_istore_n (lv' := [(1, .int 1), (0, .int x)]) hx hb dJ6_stringSize_0f7a4_1 rfl hl (by decide) rfl (fun ls hl => ?_)
  refine lv_iload_n hx hb dJ6_stringSize_0f7a4_2 rfl (lv_at hl 1 rfl) ?_
  rcases hx0 with ⟨rfl, rfl⟩ | ⟨rfl, h1, rfl⟩
  · refine lv_if_lt (tgt := 11) hx hb dJ6_stringSize_0f7a4_3 (by decide) (fun cc => absurd cc (nI_pos hw)) (fun _ => ?_)
    refine lv_iconst (v := 0) hx hb dJ6_stringSize_0f7a4_6 (by decide) ?_
    refine lv_istore_n (lv' := [(1, .int 0), (0, .int (nI w0))]) hx hb dJ6_stringSize_0f7a4_7 rfl hl (by decide) rfl (fun ls hl => ?_)
    refine lv_iload_n hx hb dJ6_stringSize_0f7a4_8 rfl (lv_at hl 1 rfl) ?_
    refine lv_ineg hx hb dJ6_stringSize_0f7a4_9 ?_
    refine lv_istore_n (lv' := [(0, .int (-(nI w0))), (1, .int 0)]) hx hb dJ6_stringSize_0f7a4_10 rfl hl (by decide) rfl (fun ls hl => ?_)
    exact main ls (lv_sub hl [0, 1] rfl)
  · refine lv_if_lt (tgt := 11) hx hb dJ6_stringSize_0f7a4_3 (by decide) (fun _ => ?_) (fun cc => absurd (us_negl h1 hw) cc)
    exact main ls (lv_sub hl [1, 0] rfl)

theorem us_tab : ∀ k, k < 100 → us_dO k = sb_b (48 + k % 10) ∧ us_dT k = sb_b (48 + k / 10) := by decide +kernel
theorem us_vb (c : Nat) : vp_nar .byte (sb_b c) = sb_b c := pk_vb _
theorem us_negge {w : Nat} (h : 1 ≤ w) (hw : w < 2 ^ 31) : ¬ (0 : Int32) ≤ -nI w := by
  rw [Int32.le_iff_toInt_le, sb_negT hw, Int32.toInt_zero]
  omega
theorem us_hJ6_getChars_ba4f3 : yJ6_getChars_ba4f3.cls ≠ "java/lang/invoke/MethodHandle" ∧ yJ6_getChars_ba4f3.cls ≠ "java/lang/invoke/VarHandle" ∧ (parseMethodDescriptor yJ6_getChars_ba4f3.desc).map (fun d => d.parameters.length) = some 3 := by decide +kernel
set_option maxHeartbeats 4000000 in
set_option maxRecDepth 100000 in
theorem uj_getChars (l : Launch) (g : us_G) {sz : Nat} {x : Int32} {w0 k0 n cap v : Nat} {a : Nat → Int32} (hw : w0 < 2 ^ 31) (hx0 : (x = nI w0 ∧ k0 = 0) ∨ (x = -nI w0 ∧ 1 ≤ w0 ∧ k0 = 1)) (hp : n + k0 + sb_dg w0 ≤ cap) (hm : cap ≤ 100000) (hf : sb_Fit a) {q : Nat} (hq : q = n + k0 + sb_dg w0) : Met l yJ6_getChars_ba4f3 wsJ6_getChars_ba4f3 ({ frames := 0, cells := 0, slots := 0, locals := 0 } : Room) (va_Pc [.int x, .int (nI q), .ref v] (us_pc g [(v, .inl (g.2.2.2.1, cap, .inl a))] sz)) (va_Qi (fun (r : Int32) (u : va_W) => r = nI n ∧ ∃ a2 : Nat → Int32, u = [(v, .inl (g.2.2.2.1, cap, .inl a2))] ∧ (∀ j, j < n → a2 j = a j) ∧ (∀ i, i < k0 + sb_dg w0 → a2 (n + i) = sb_b ((if k0 = 1 then (fun i => if i = 0 then 45 else sb_dec w0 (i - 1)) else sb_dec w0) i)) ∧ sb_Fit a2) (fun u t => ub_pq g.1 u (va_A [(v, .inl (g.2.2.2.1, cap, .inl a))] sz) t) (va_A [(v, .inl (g.2.2.2.1, cap, .inl a))] sz)) 0 0 (va_A [(v, .inl (g.2.2.2.1, cap, .inl a))] sz) := by
  refine us_met_i (post := (fun (r : Int32) (u : va_W) => r = nI n ∧ ∃ a2 : Nat → Int32, u = [(v, .inl (g.2.2.2.1, cap, .inl a2))] ∧ (∀ j, j < n → a2 j = a j) ∧ (∀ i, i < k0 + sb_dg w0 → a2 (n + i) = sb_b ((if k0 = 1 then (fun i => if i = 0 then 45 else sb_dec w0 (i - 1)) else sb_dec w0) i)) ∧ sb_Fit a2)) (by decide +kernel) (Nat.le_of_ble_eq_true rfl) fun p e s m args below meth c Q A K hret ls hl hP hD hS => ?_
  obtain ⟨hx, hb, hml, hown, hts, hK, hN, hA, hZ⟩ := K
  have hl : lv_has ls 7 [(0, .int x), (1, .int (nI q)), (2, .ref v)] := hl
  subst hq
  have tail : ∀ (a3 : Nat → Int32) (H : Heap) (locs : List Loc) (ls : Array Slot), (∀ j, j < n → a3 j = a j) → (∀ i, i < sb_dg w0 → a3 (n + k0 + sb_dg w0 - 1 - i) = sb_b (48 + w0 / 10 ^ i % 10)) → sb_Fit a3 → lv_has ls 7 [(5, .int (nI (n + k0))), (6, .int (nI k0)), (2, .ref v)] → va_P g.1 vwCl [(v, .inl (g.2.2.2.1, cap, .inl a3))] H → va_D A [(v, .inl (g.2.2.2.1, cap, .inl a3))] → va_S A s.heap H locs → W p l e ({ frames := 0, cells := 0, slots := 0, locals := 0 } : Room) s m args below meth c H locs 0 0 Q (F0 m 104 ls []) := by
    intro a3 H locs ls g1 g2' g3 hl hP hD hS
    have g2 : ∀ i, i < sb_dg w0 → a3 (n + k0 + sb_dg w0 - 1 - i) = sb_b (sb_dec w0 (sb_dg w0 - 1 - i)) := fun i hi => by
      rw [g2' i hi]
      unfold sb_dec
      rw [show sb_dg w0 - 1 - (sb_dg w0 - 1 - i) = i by omega]
    have g2 : ∀ i, i < sb_dg w0 → a3 (n + k0 + sb_dg w0 - 1 - i) = sb_b (sb_dec w0 (sb_dg w0 - 1 - i)) := g2
    refine lv_iload hx hb dJ6_getChars_ba4f3_104 (lv_at hl 1 rfl) ?_
    rcases hx0 with ⟨-, rfl⟩ | ⟨-, h1, rfl⟩
    · refine lv_if_eq (tgt := 118) hx hb dJ6_getChars_ba4f3_106 (by decide) (fun _ => ?_) (fun cc => absurd rfl cc)
      refine lv_iload hx hb dJ6_getChars_ba4f3_118 (lv_at hl 0 rfl) ?_
      exact hret _ _ H locs _ ls ⟨rfl, a3, rfl, g1, fun i hi => by
        have h9 := g2 (sb_dg w0 - 1 - i) (by omega)
        rw [show n + 0 + sb_dg w0 - 1 - (sb_dg w0 - 1 - i) = n + i by omega, show sb_dg w0 - 1 - (sb_dg w0 - 1 - i) = i by omega] at h9
        rw [if_neg (by decide)]
        exact h9, g3⟩ dJ6_getChars_ba4f3_120 rfl hP hD hS
    · refine lv_if_eq (tgt := 118) hx hb dJ6_getChars_ba4f3_106 (by decide) (fun cc => absurd cc (by decide)) (fun _ => ?_)
      refine lv_aload_n hx hb dJ6_getChars_ba4f3_109 rfl (lv_at hl 2 rfl) ?_
      refine lv_iinc (v := nI (n + 1) + (-1)) (lv' := [(5, .int (nI (n + 1) + (-1))), (6, .int (nI 1)), (2, .ref v)]) hx hb dJ6_getChars_ba4f3_110 hl (k := 0) rfl rfl (by decide) rfl (fun ls hl => ?_)
      refine lv_iload hx hb dJ6_getChars_ba4f3_113 (lv_at hl 0 rfl) ?_
      have el : nI (n + 1) + (-1) = nI n := sb_m1 (p := n + 1) (by omega)
      refine lv_bipush (v := 45) hx hb dJ6_getChars_ba4f3_115 (by decide) ?_
      rw [el]
      have hl : lv_has ls 7 [(5, .int (nI n)), (6, .int (nI 1)), (2, .ref v)] := by rw [← el]; exact hl
      refine us_topi (x := sb_b 45) (show (45 : Int32) = sb_b 45 by decide) ?_
      refine va_bast hx hb hK hP hD hS 0 2 rfl rfl (i := nI (n)) (vp_in_nI (by omega) (by omega)) dJ6_getChars_ba4f3_117 (fun H locs hP hD hS => ?_)
      rw [nI_clamp (show n < 2 ^ 31 by omega), us_vb] at hP hD
      have hP : va_P g.1 vwCl [(v, .inl (g.2.2.2.1, cap, .inl (upd a3 n (sb_b 45))))] _ := hP
      have hD : va_D A [(v, .inl (g.2.2.2.1, cap, .inl (upd a3 n (sb_b 45))))] := hD
      refine lv_iload hx hb dJ6_getChars_ba4f3_118 (lv_at hl 0 rfl) ?_
      exact hret _ _ H locs _ ls ⟨rfl, _, rfl, fun j hj => (pk_un (by omega)).trans (g1 j hj), fun i hi => by
        rw [if_pos rfl]
        show upd a3 n (sb_b 45) (n + i) = sb_b (if i = 0 then 45 else sb_dec w0 (i - 1))
        by_cases e : i = 0
        · subst e
          rw [if_pos rfl]
          exact pk_us
        · rw [if_neg e, pk_un (by omega)]
          have h9 := g2 (sb_dg w0 - 1 - (i - 1)) (by omega)
          rw [show n + 1 + sb_dg w0 - 1 - (sb_dg w0 - 1 - (i - 1)) = n + i by omega, show sb_dg w0 - 1 - (sb_dg w0 - 1 - (i - 1)) = i - 1 by omega] at h9
          exact h9, sb_fitU g3 (sb_fitB 45)⟩ dJ6_getChars_ba4f3_120 rfl hP hD hS
  have loop : ∀ (f w1 p1 : Nat) (a1 : Nat → Int32) (H : Heap) (locs : List Loc) (ls : Array Slot), w1 < f → w1 < 2 ^ 31 → p1 = n + k0 + sb_dg w1 → p1 ≤ cap → sb_Fit a1 →
      (∀ (a2 : Nat → Int32) (H : Heap) (locs : List Loc) (ls : Array Slot), (∀ j, j < n + k0 ∨ p1 ≤ j → a2 j = a1 j) → (∀ i, i < sb_dg w1 → a2 (p1 - 1 - i) = sb_b (48 + w1 / 10 ^ i % 10)) → sb_Fit a2 → lv_has ls 7 [(5, .int (nI (n + k0))), (6, .int (nI k0)), (2, .ref v)] → va_P g.1 vwCl [(v, .inl (g.2.2.2.1, cap, .inl a2))] H → va_D A [(v, .inl (g.2.2.2.1, cap, .inl a2))] → va_S A s.heap H locs → W p l e ({ frames := 0, cells := 0, slots := 0, locals := 0 } : Room) s m args below meth c H locs 0 0 Q (F0 m 104 ls [])) →
      lv_has ls 7 [(0, .int (-nI w1)), (5, .int (nI p1)), (6, .int (nI k0)), (2, .ref v)] → va_P g.1 vwCl [(v, .inl (g.2.2.2.1, cap, .inl a1))] H → va_D A [(v, .inl (g.2.2.2.1, cap, .inl a1))] → va_S A s.heap H locs → W p l e ({ frames := 0, cells := 0, slots := 0, locals := 0 } : Room) s m args below meth c H locs 0 0 Q (F0 m 22 ls []) := by
    intro f
    induction f with
    | zero => intro w1 p1 a1 H locs ls h; omega
    | succ f ih =>
      intro w1 p1 a1 H locs ls hwf hw1 hp1 hpm hf1 kont hl hP hD hS
      have hd1 := (sb_dg_in w1).1
      refine lv_iload_n hx hb dJ6_getChars_ba4f3_22 rfl (lv_at hl 0 rfl) ?_
      refine lv_bipush (v := (-100)) hx hb dJ6_getChars_ba4f3_23 (by decide) ?_
      by_cases h100 : w1 < 100
      · obtain ⟨t1, t2⟩ := us_tab w1 h100
        refine lv_icmp_gt (tgt := 72) hx hb dJ6_getChars_ba4f3_25 (by decide) (fun _ => ?_) (fun cc => absurd (show (-100 : Int32) < -nI w1 from (show (-100 : Int32) = -nI 100 by decide) ▸ (sb_nlt (by decide) hw1).mpr h100) cc)
        refine lv_aload_n hx hb dJ6_getChars_ba4f3_72 rfl (lv_at hl 3 rfl) ?_
        refine lv_iinc (v := nI p1 + (-1)) (lv' := [(5, .int (nI p1 + (-1))), (0, .int (-nI w1)), (6, .int (nI k0)), (2, .ref v)]) hx hb dJ6_getChars_ba4f3_73 hl (k := 1) rfl rfl (by decide) rfl (fun ls hl => ?_)
        have el : nI p1 + (-1) = nI (p1 - 1) := sb_m1 (by omega)
        rw [el] at hl
        have hl : lv_has ls 7 [(5, .int (nI (p1 - 1))), (0, .int (-nI w1)), (6, .int (nI k0)), (2, .ref v)] := hl
        refine lv_iload hx hb dJ6_getChars_ba4f3_76 (lv_at hl 0 rfl) ?_
        refine va_gets hx hb hZ.2.2.2.2.2.1 hS hown (hts _ us_m895) (fun _ h9 => h9) dJ6_getChars_ba4f3_78 ?_
        refine lv_iload_n hx hb dJ6_getChars_ba4f3_81 rfl (lv_at hl 1 rfl) ?_
        refine lv_ineg hx hb dJ6_getChars_ba4f3_82 ?_
        refine us_topi (x := nI w1) (Int32.neg_neg : - -nI w1 = nI w1) ?_
        refine va_tb hx hb hZ.2.2.2.2.2.2.1 hS (vp_in_nI h100 (by decide)) (v := .int (sb_b (48 + w1 % 10))) (by show Value.int _ = _; rw [nI_clamp (by omega), t1]) dJ6_getChars_ba4f3_83 ?_
        refine va_bast hx hb hK hP hD hS 0 2 rfl rfl (i := nI (p1 - 1)) (vp_in_nI (by omega) (by omega)) dJ6_getChars_ba4f3_84 (fun H locs hP hD hS => ?_)
        rw [nI_clamp (show p1 - 1 < 2 ^ 31 by omega), us_vb] at hP hD
        have hP : va_P g.1 vwCl [(v, .inl (g.2.2.2.1, cap, .inl (upd a1 (p1 - 1) (sb_b (48 + w1 % 10)))))] _ := hP
        have hD : va_D A [(v, .inl (g.2.2.2.1, cap, .inl (upd a1 (p1 - 1) (sb_b (48 + w1 % 10)))))] := hD
        refine lv_iload_n hx hb dJ6_getChars_ba4f3_85 rfl (lv_at hl 1 rfl) ?_
        refine lv_bipush (v := (-9)) hx hb dJ6_getChars_ba4f3_86 (by decide) ?_
        by_cases h9 : w1 < 10
        · have hd : sb_dg w1 = 1 := if_pos h9
          refine lv_icmp_ge (tgt := 104) hx hb dJ6_getChars_ba4f3_88 (by decide) (fun _ => ?_) (fun cc => absurd (show (-9 : Int32) ≤ -nI w1 from (show (-9 : Int32) = -nI 9 by decide) ▸ (sb_nle (by decide) hw1).mpr (show w1 ≤ 9 by omega)) cc)
          refine kont _ H locs ls (fun j hj => pk_un (by omega)) (fun i hi => ?_) (sb_fitU hf1 (sb_fitB _)) (lv_sub (show lv_has ls 7 [(5, .int (nI (n + k0))), (0, .int (-nI w1)), (6, .int (nI k0)), (2, .ref v)] by rw [show n + k0 = p1 - 1 by omega]; exact hl) [0, 2, 3] rfl) hP hD hS
          obtain rfl : i = 0 := by omega
          rw [Nat.sub_zero, pk_us, Nat.pow_zero, Nat.div_one]
        · have hd : sb_dg w1 = 2 := by rw [sb_dg, if_neg h9, if_pos h100]
          have d2 : w1 / 10 % 10 = w1 / 10 := by omega
          refine lv_icmp_ge (tgt := 104) hx hb dJ6_getChars_ba4f3_88 (by decide) (fun cc => absurd cc (fun z => by have h8 : w1 ≤ 9 := (sb_nle (by decide) hw1).mp (show -nI 9 ≤ -nI w1 from (show (-9 : Int32) = -nI 9 by decide) ▸ z); omega)) (fun _ => ?_)
          refine lv_aload_n hx hb dJ6_getChars_ba4f3_91 rfl (lv_at hl 3 rfl) ?_
          refine lv_iinc (v := nI (p1 - 1) + (-1)) (lv' := [(5, .int (nI (p1 - 1) + (-1))), (0, .int (-nI w1)), (6, .int (nI k0)), (2, .ref v)]) hx hb dJ6_getChars_ba4f3_92 hl (k := 0) rfl rfl (by decide) rfl (fun ls hl => ?_)
          have el2 : nI (p1 - 1) + (-1) = nI (p1 - 1 - 1) := sb_m1 (by omega)
          rw [el2] at hl
          have hl : lv_has ls 7 [(5, .int (nI (p1 - 1 - 1))), (0, .int (-nI w1)), (6, .int (nI k0)), (2, .ref v)] := hl
          refine lv_iload hx hb dJ6_getChars_ba4f3_95 (lv_at hl 0 rfl) ?_
          refine va_gets hx hb hZ.2.2.2.2.2.2.2.1 hS hown (hts _ us_m897) (fun _ h9 => h9) dJ6_getChars_ba4f3_97 ?_
          refine lv_iload_n hx hb dJ6_getChars_ba4f3_100 rfl (lv_at hl 1 rfl) ?_
          refine lv_ineg hx hb dJ6_getChars_ba4f3_101 ?_
          refine us_topi (x := nI w1) (Int32.neg_neg : - -nI w1 = nI w1) ?_
          refine va_tb hx hb hZ.2.2.2.2.2.2.2.2.1 hS (vp_in_nI h100 (by decide)) (v := .int (sb_b (48 + w1 / 10))) (by show Value.int _ = _; rw [nI_clamp (by omega), t2]) dJ6_getChars_ba4f3_102 ?_
          refine va_bast hx hb hK hP hD hS 0 2 rfl rfl (i := nI (p1 - 1 - 1)) (vp_in_nI (by omega) (by omega)) dJ6_getChars_ba4f3_103 (fun H locs hP hD hS => ?_)
          rw [nI_clamp (show p1 - 1 - 1 < 2 ^ 31 by omega), us_vb] at hP hD
          have hP : va_P g.1 vwCl [(v, .inl (g.2.2.2.1, cap, .inl (upd (upd a1 (p1 - 1) (sb_b (48 + w1 % 10))) (p1 - 1 - 1) (sb_b (48 + w1 / 10)))))] _ := hP
          have hD : va_D A [(v, .inl (g.2.2.2.1, cap, .inl (upd (upd a1 (p1 - 1) (sb_b (48 + w1 % 10))) (p1 - 1 - 1) (sb_b (48 + w1 / 10)))))] := hD
          refine kont _ H locs ls (fun j hj => by rw [pk_un (by omega), pk_un (by omega)]) (fun i hi => ?_) (sb_fitU (sb_fitU hf1 (sb_fitB _)) (sb_fitB _)) (lv_sub (show lv_has ls 7 [(5, .int (nI (n + k0))), (0, .int (-nI w1)), (6, .int (nI k0)), (2, .ref v)] by rw [show n + k0 = p1 - 1 - 1 by omega]; exact hl) [0, 2, 3] rfl) hP hD hS
          obtain rfl | rfl : i = 0 ∨ i = 1 := by omega
          · rw [Nat.sub_zero, pk_un (by omega), pk_us, Nat.pow_zero, Nat.div_one]
          · rw [pk_us, Nat.pow_one, d2]
      · obtain ⟨t1, t2⟩ := us_tab (w1 % 100) (Nat.mod_lt _ (by decide))
        have hd := sb_dg100 (w := w1) (by omega) hw1
        have hd2 := (sb_dg_in (w1 / 100)).1
        have er : (nI (w1 % 100)).toNatClampNeg = w1 % 100 := nI_clamp (by omega)
        rw [show w1 % 100 % 10 = w1 % 10 by omega] at t1
        rw [show w1 % 100 / 10 = w1 / 10 % 10 by omega] at t2
        refine lv_icmp_gt (tgt := 72) hx hb dJ6_getChars_ba4f3_25 (by decide) (fun cc => absurd cc (fun z => h100 ((sb_nlt (by decide) hw1).mp (show -nI 100 < -nI w1 from (show (-100 : Int32) = -nI 100 by decide) ▸ z)))) (fun _ => ?_)
        refine lv_iload_n hx hb dJ6_getChars_ba4f3_28 rfl (lv_at hl 0 rfl) ?_
        refine lv_bipush (v := 100) hx hb dJ6_getChars_ba4f3_29 (by decide) ?_
        refine lv_idiv hx hb dJ6_getChars_ba4f3_31 (by decide) ?_
        refine us_topi (x := -nI (w1 / 100)) (sb_ndiv hw1) ?_
        refine lv_istore_n (lv' := [(3, .int (-nI (w1 / 100))), (0, .int (-nI w1)), (5, .int (nI p1)), (6, .int (nI k0)), (2, .ref v)]) hx hb dJ6_getChars_ba4f3_32 rfl hl (by decide) rfl (fun ls hl => ?_)
        refine lv_iload_n hx hb dJ6_getChars_ba4f3_33 rfl (lv_at hl 0 rfl) ?_
        refine lv_bipush (v := 100) hx hb dJ6_getChars_ba4f3_34 (by decide) ?_
        refine lv_imul hx hb dJ6_getChars_ba4f3_36 ?_
        refine lv_iload_n hx hb dJ6_getChars_ba4f3_37 rfl (lv_at hl 1 rfl) ?_
        refine lv_isub hx hb dJ6_getChars_ba4f3_38 ?_
        refine us_topi (x := nI (w1 % 100)) (sb_nrem hw1) ?_
        refine lv_istore (lv' := [(4, .int (nI (w1 % 100))), (3, .int (-nI (w1 / 100))), (0, .int (-nI w1)), (5, .int (nI p1)), (6, .int (nI k0)), (2, .ref v)]) hx hb dJ6_getChars_ba4f3_39 hl (by decide) rfl (fun ls hl => ?_)
        refine lv_iload_n hx hb dJ6_getChars_ba4f3_41 rfl (lv_at hl 1 rfl) ?_
        refine lv_istore_n (lv' := [(0, .int (-nI (w1 / 100))), (4, .int (nI (w1 % 100))), (3, .int (-nI (w1 / 100))), (5, .int (nI p1)), (6, .int (nI k0)), (2, .ref v)]) hx hb dJ6_getChars_ba4f3_42 rfl hl (by decide) rfl (fun ls hl => ?_)
        refine lv_aload_n hx hb dJ6_getChars_ba4f3_43 rfl (lv_at hl 5 rfl) ?_
        refine lv_iinc (v := nI p1 + (-1)) (lv' := [(5, .int (nI p1 + (-1))), (0, .int (-nI (w1 / 100))), (4, .int (nI (w1 % 100))), (3, .int (-nI (w1 / 100))), (6, .int (nI k0)), (2, .ref v)]) hx hb dJ6_getChars_ba4f3_44 hl (k := 3) rfl rfl (by decide) rfl (fun ls hl => ?_)
        have el : nI p1 + (-1) = nI (p1 - 1) := sb_m1 (by omega)
        rw [el] at hl
        have hl : lv_has ls 7 [(5, .int (nI (p1 - 1))), (0, .int (-nI (w1 / 100))), (4, .int (nI (w1 % 100))), (3, .int (-nI (w1 / 100))), (6, .int (nI k0)), (2, .ref v)] := hl
        refine lv_iload hx hb dJ6_getChars_ba4f3_47 (lv_at hl 0 rfl) ?_
        refine va_gets hx hb hZ.2.2.2.2.2.1 hS hown (hts _ us_m895) (fun _ h9 => h9) dJ6_getChars_ba4f3_49 ?_
        refine lv_iload hx hb dJ6_getChars_ba4f3_52 (lv_at hl 2 rfl) ?_
        refine va_tb hx hb hZ.2.2.2.2.2.2.1 hS (vp_in_nI (by omega) (by decide)) (v := .int (sb_b (48 + w1 % 10))) (by show Value.int _ = _; rw [er, t1]) dJ6_getChars_ba4f3_54 ?_
        refine va_bast hx hb hK hP hD hS 0 2 rfl rfl (i := nI (p1 - 1)) (vp_in_nI (by omega) (by omega)) dJ6_getChars_ba4f3_55 (fun H locs hP hD hS => ?_)
        rw [nI_clamp (show p1 - 1 < 2 ^ 31 by omega), us_vb] at hP hD
        have hP : va_P g.1 vwCl [(v, .inl (g.2.2.2.1, cap, .inl (upd a1 (p1 - 1) (sb_b (48 + w1 % 10)))))] _ := hP
        have hD : va_D A [(v, .inl (g.2.2.2.1, cap, .inl (upd a1 (p1 - 1) (sb_b (48 + w1 % 10)))))] := hD
        refine lv_aload_n hx hb dJ6_getChars_ba4f3_56 rfl (lv_at hl 5 rfl) ?_
        refine lv_iinc (v := nI (p1 - 1) + (-1)) (lv' := [(5, .int (nI (p1 - 1) + (-1))), (0, .int (-nI (w1 / 100))), (4, .int (nI (w1 % 100))), (3, .int (-nI (w1 / 100))), (6, .int (nI k0)), (2, .ref v)]) hx hb dJ6_getChars_ba4f3_57 hl (k := 0) rfl rfl (by decide) rfl (fun ls hl => ?_)
        have el2 : nI (p1 - 1) + (-1) = nI (p1 - 1 - 1) := sb_m1 (by omega)
        rw [el2] at hl
        have hl : lv_has ls 7 [(5, .int (nI (p1 - 1 - 1))), (0, .int (-nI (w1 / 100))), (4, .int (nI (w1 % 100))), (3, .int (-nI (w1 / 100))), (6, .int (nI k0)), (2, .ref v)] := hl
        refine lv_iload hx hb dJ6_getChars_ba4f3_60 (lv_at hl 0 rfl) ?_
        refine va_gets hx hb hZ.2.2.2.2.2.2.2.1 hS hown (hts _ us_m897) (fun _ h9 => h9) dJ6_getChars_ba4f3_62 ?_
        refine lv_iload hx hb dJ6_getChars_ba4f3_65 (lv_at hl 2 rfl) ?_
        refine va_tb hx hb hZ.2.2.2.2.2.2.2.2.1 hS (vp_in_nI (by omega) (by decide)) (v := .int (sb_b (48 + w1 / 10 % 10))) (by show Value.int _ = _; rw [er, t2]) dJ6_getChars_ba4f3_67 ?_
        refine va_bast hx hb hK hP hD hS 0 2 rfl rfl (i := nI (p1 - 1 - 1)) (vp_in_nI (by omega) (by omega)) dJ6_getChars_ba4f3_68 (fun H locs hP hD hS => ?_)
        rw [nI_clamp (show p1 - 1 - 1 < 2 ^ 31 by omega), us_vb] at hP hD
        have hP : va_P g.1 vwCl [(v, .inl (g.2.2.2.1, cap, .inl (upd (upd a1 (p1 - 1) (sb_b (48 + w1 % 10))) (p1 - 1 - 1) (sb_b (48 + w1 / 10 % 10)))))] _ := hP
        have hD : va_D A [(v, .inl (g.2.2.2.1, cap, .inl (upd (upd a1 (p1 - 1) (sb_b (48 + w1 % 10))) (p1 - 1 - 1) (sb_b (48 + w1 / 10 % 10)))))] := hD
        refine lv_goto (tgt := 22) hx hb dJ6_getChars_ba4f3_69 (by decide) ?_
        refine ih (w1 / 100) (p1 - 1 - 1) _ H locs ls (by omega) (by omega) (by omega) (by omega) (sb_fitU (sb_fitU hf1 (sb_fitB _)) (sb_fitB _)) (fun a2 H locs ls h1 h2 h3 => ?_) (lv_sub hl [1, 0, 4, 5] rfl) hP hD hS
        refine kont a2 H locs ls (fun j hj => by rw [h1 j (by omega), pk_un (by omega), pk_un (by omega)]) (fun i hi => ?_) h3
        match i, hi with
        | 0, _ => rw [Nat.sub_zero, h1 _ (by omega), pk_un (by omega), pk_us, Nat.pow_zero, Nat.div_one]
        | 1, _ => rw [h1 _ (by omega), pk_us, Nat.pow_one]
        | k + 2, hi =>
          rw [show p1 - 1 - (k + 2) = p1 - 1 - 1 - 1 - k by omega, h2 k (by omega), Nat.div_div_eq_div_mul, show 100 * 10 ^ k = 10 ^ (k + 2) by rw [show k + 2 = k + 1 + 1 from rfl, Nat.pow_succ, Nat.pow_succ]; omega]
  have hdw := sb_dg_in w0
  have go : ∀ ls : Array Slot, lv_has ls 7 [(0, .int (-nI w0)), (5, .int (nI (n + k0 + sb_dg w0))), (6, .int (nI k0)), (2, .ref v)] → W p l e ({ frames := 0, cells := 0, slots := 0, locals := 0 } : Room) s m args below meth c s.heap [] 0 0 Q (F0 m 22 ls []) := fun ls hl =>
    loop (w0 + 1) w0 (n + k0 + sb_dg w0) a s.heap [] ls (by omega) hw rfl hp hf (fun a2 H locs ls h1 h2 h3 => tail a2 H locs ls (fun j hj => h1 j (by omega)) h2 h3) hl hP hD hS
  refine lv_iload_n hx hb dJ6_getChars_ba4f3_0 rfl (lv_at hl 1 rfl) ?_
  refine lv_istore (lv' := [(5, .int (nI (n + k0 + sb_dg w0))), (0, .int x), (1, .int (nI (n + k0 + sb_dg w0))), (2, .ref v)]) hx hb dJ6_getChars_ba4f3_1 hl (by decide) rfl (fun ls hl => ?_)
  refine lv_iload_n hx hb dJ6_getChars_ba4f3_3 rfl (lv_at hl 1 rfl) ?_
  rcases hx0 with ⟨rfl, rfl⟩ | ⟨rfl, h1, rfl⟩
  · refine lv_if_ge (tgt := 11) hx hb dJ6_getChars_ba4f3_4 (by decide) (fun _ => ?_) (fun cc => absurd (nI_pos' hw) cc)
    refine lv_iconst (v := 0) hx hb dJ6_getChars_ba4f3_11 (by decide) ?_
    refine us_topi (x := nI 0) (show (0 : Int32) = nI 0 from rfl) ?_
    refine lv_istore (lv' := [(6, .int (nI 0)), (5, .int (nI (n + 0 + sb_dg w0))), (0, .int (nI w0)), (1, .int (nI (n + 0 + sb_dg w0))), (2, .ref v)]) hx hb dJ6_getChars_ba4f3_12 hl (by decide) rfl (fun ls hl => ?_)
    refine lv_iload hx hb dJ6_getChars_ba4f3_14 (lv_at hl 0 rfl) ?_
    refine lv_if_ne (tgt := 22) hx hb dJ6_getChars_ba4f3_16 (by decide) (fun cc => absurd rfl cc) (fun _ => ?_)
    refine lv_iload_n hx hb dJ6_getChars_ba4f3_19 rfl (lv_at hl 2 rfl) ?_
    refine lv_ineg hx hb dJ6_getChars_ba4f3_20 ?_
    refine lv_istore_n (lv' := [(0, .int (-(nI w0))), (6, .int (nI 0)), (5, .int (nI (n + 0 + sb_dg w0))), (1, .int (nI (n + 0 + sb_dg w0))), (2, .ref v)]) hx hb dJ6_getChars_ba4f3_21 rfl hl (by decide) rfl (fun ls hl => ?_)
    exact go ls (lv_sub hl [0, 2, 1, 4] rfl)
  · refine lv_if_ge (tgt := 11) hx hb dJ6_getChars_ba4f3_4 (by decide) (fun cc => absurd cc (us_negge h1 hw)) (fun _ => ?_)
    refine lv_iconst (v := 1) hx hb dJ6_getChars_ba4f3_7 (by decide) ?_
    refine us_topi (x := nI 1) (show (1 : Int32) = nI 1 from rfl) ?_
    refine lv_goto (tgt := 12) hx hb dJ6_getChars_ba4f3_8 (by decide) ?_
    refine lv_istore (lv' := [(6, .int (nI 1)), (5, .int (nI (n + 1 + sb_dg w0))), (0, .int (-nI w0)), (1, .int (nI (n + 1 + sb_dg w0))), (2, .ref v)]) hx hb dJ6_getChars_ba4f3_12 hl (by decide) rfl (fun ls hl => ?_)
    refine lv_iload hx hb dJ6_getChars_ba4f3_14 (lv_at hl 0 rfl) ?_
    refine lv_if_ne (tgt := 22) hx hb dJ6_getChars_ba4f3_16 (by decide) (fun _ => ?_) (fun cc => absurd cc (by decide))
    exact go ls (lv_sub hl [2, 1, 0, 4] rfl)

