/-! ===== numbers by bits; cells of the script ===== -/
theorem us_top_any {p : Program} {l : Launch} {e : Env} {R : Room} {s : State} {m : MethodId} {args : Array Value} {below : List Frame} {meth : Method} {c : Code} {H : Heap} {locs : List Loc} {cells slots : Nat} {Q : State → Prop} {pc : Nat} {ls : Array Slot} {rest : List Value} {x : Int32}
    (kk : ∀ y : Int32, W p l e R s m args below meth c H locs cells slots Q (F0 m pc ls (.int y :: rest))) : W p l e R s m args below meth c H locs cells slots Q (F0 m pc ls (.int x :: rest)) := kk x
theorem us_div {a b : Nat} (ha : a < 2 ^ 31) (hb : b < 2 ^ 31) : nI a / nI b = nI (a / b) := by
  have hd : a / b < 2 ^ 31 := Nat.lt_of_le_of_lt (Nat.div_le_self _ _) ha
  apply Int32.toInt_inj.mp
  rw [Int32.toInt_div, nI_toInt ha, nI_toInt hb, nI_toInt hd, ← Int.ofNat_tdiv]
  generalize a / b = q at *
  exact Int.bmod_eq_of_le (by omega) (by omega)
theorem us_mod {a b : Nat} (ha : a < 2 ^ 31) (hb : b < 2 ^ 31) : nI a - nI a / nI b * nI b = nI (a % b) := by
  have h1 : a / b * b ≤ a := Nat.div_mul_le_self a b
  have h2 := Nat.div_add_mod a b
  rw [Nat.mul_comm] at h2
  rw [us_div ha hb, pk_mul, pk_sub h1]
  congr 1
  omega
theorem us_hX9_init : yX9_init.cls ≠ "java/lang/invoke/MethodHandle" ∧ yX9_init.cls ≠ "java/lang/invoke/VarHandle" ∧ (parseMethodDescriptor yX9_init.desc).map (fun d => d.parameters.length) = some 1 := by decide +kernel
set_option maxHeartbeats 4000000 in
set_option maxRecDepth 100000 in
theorem ul_bitsInit (l : Launch) (g : us_G) {sz : Nat} {b0 : Nat} {x : Int32} : Met l yX9_init wsX9_init ({ frames := 1, cells := 0, slots := 0, locals := 21 } : Room) (va_Pc [.ref b0, .int x] (us_pc g [(b0, .inr (11, [.int 0]))] sz)) (va_Qv (fun (u : va_W) => u = [(b0, .inr (11, [.int x]))]) (fun u t => ub_pq g.1 u (va_A [(b0, .inr (11, [.int 0]))] sz) t) (va_A [(b0, .inr (11, [.int 0]))] sz)) 0 0 (va_A [(b0, .inr (11, [.int 0]))] sz) := by
  refine us_met_v (post := (fun (u : va_W) => u = [(b0, .inr (11, [.int x]))])) (by decide +kernel) (Nat.le_of_ble_eq_true rfl) fun p e s m args below meth c Q A K hin hret ls hl hP hD hS => ?_
  obtain ⟨hx, hb, hml, hown, hts, hK, hN, hA, hZ⟩ := K
  have hl : lv_has ls 2 [(0, .ref b0), (1, .int x)] := hl
  refine lv_aload_n hx hb dX9_init_0 rfl (lv_at hl 0 rfl) ?_
  refine W.objInit hx hb hown (hts _ us_m782) (hts _ us_m67) (hts _ us_m68) rfl (by rw [hml]; exact hl.1) rfl dX9_init_1 (Nat.le_of_ble_eq_true rfl) (Nat.le_of_ble_eq_true rfl) ?_
  refine W.eq (g2 := F0 m 4 ls []) rfl ?_
  refine lv_aload_n hx hb dX9_init_4 rfl (lv_at hl 0 rfl) ?_
  refine lv_iload_n hx hb dX9_init_5 rfl (lv_at hl 1 rfl) ?_
  refine ub_put (ws' := [(b0, .inr (11, [.int x]))]) (ci := 11) (C := RX9) (T := TX9) (N := 1) hx hb hts us_inX9 tyX9 tyX9_ok nmX9 hown hK hP hD hS 0 0 (v := .int x) (ty := tyX9 0) rfl rfl (by decide) (hts _ us_m783) (fun _ h9 => h9) rfl (tyX9_ok 0 (by decide)) rfl rfl (Nat.le_of_ble_eq_true rfl) rfl dX9_init_6 (fun H locs hP hD hS => ?_)
  exact hret _ _ _ _ ls rfl dX9_init_9 hP hD hS

theorem us_hX9_next : yX9_next.cls ≠ "java/lang/invoke/MethodHandle" ∧ yX9_next.cls ≠ "java/lang/invoke/VarHandle" ∧ (parseMethodDescriptor yX9_next.desc).map (fun d => d.parameters.length) = some 1 := by decide +kernel
set_option maxHeartbeats 4000000 in
set_option maxRecDepth 100000 in
theorem ul_next (l : Launch) (g : us_G) {sz : Nat} {b0 : Nat} {x n : Int32} (hn : ¬ n = 0) : Met l yX9_next wsX9_next ({ frames := 0, cells := 0, slots := 0, locals := 0 } : Room) (va_Pc [.ref b0, .int n] (us_pc g [(b0, .inr (11, [.int x]))] sz)) (va_Qi (fun (_ : Int32) (u : va_W) => ∃ x1 : Int32, u = [(b0, .inr (11, [.int x1]))]) (fun u t => ub_pq g.1 u (va_A [(b0, .inr (11, [.int x]))] sz) t) (va_A [(b0, .inr (11, [.int x]))] sz)) 0 0 (va_A [(b0, .inr (11, [.int x]))] sz) := by
  refine us_met_i (post := (fun (_ : Int32) (u : va_W) => ∃ x1 : Int32, u = [(b0, .inr (11, [.int x1]))])) (by decide +kernel) (Nat.le_of_ble_eq_true rfl) fun p e s m args below meth c Q A K hret ls hl hP hD hS => ?_
  obtain ⟨hx, hb, hml, hown, hts, hK, hN, hA, hZ⟩ := K
  have hl : lv_has ls 2 [(0, .ref b0), (1, .int n)] := hl
  refine lv_aload_n hx hb dX9_next_0 rfl (lv_at hl 0 rfl) ?_
  refine lv_aload_n hx hb dX9_next_1 rfl (lv_at hl 0 rfl) ?_
  refine va_get (ci := 11) (v := .int x) (C := RX9) (T := TX9) (N := 1) hx hb hts us_inX9 hown hK hP 0 rfl rfl 0 (by decide) (hts _ us_m783) (fun _ h9 => h9) rfl dX9_next_2 ?_
  refine lv_ldc (v := 1103515245) hx hb hown (hts _ us_m791) dX9_next_5 ?_
  refine lv_imul hx hb dX9_next_7 ?_
  refine lv_sipush (v := 12345) hx hb dX9_next_8 (by decide) ?_
  refine lv_iadd hx hb dX9_next_11 ?_
  generalize ((x * 1103515245) + 12345) = x1
  refine ub_put (ws' := [(b0, .inr (11, [.int x1]))]) (ci := 11) (C := RX9) (T := TX9) (N := 1) hx hb hts us_inX9 tyX9 tyX9_ok nmX9 hown hK hP hD hS 0 0 (v := .int x1) (ty := tyX9 0) rfl rfl (by decide) (hts _ us_m783) (fun _ h9 => h9) rfl (tyX9_ok 0 (by decide)) rfl rfl (Nat.le_of_ble_eq_true rfl) rfl dX9_next_12 (fun H locs hP hD hS => ?_)
  refine lv_aload_n hx hb dX9_next_15 rfl (lv_at hl 0 rfl) ?_
  refine va_get (ci := 11) (v := .int x1) (C := RX9) (T := TX9) (N := 1) hx hb hts us_inX9 hown hK hP 0 rfl rfl 0 (by decide) (hts _ us_m783) (fun _ h9 => h9) rfl dX9_next_16 ?_
  refine lv_bipush (v := 16) hx hb dX9_next_19 (by decide) ?_
  refine lv_iushr hx hb dX9_next_21 rfl ?_
  refine us_top_any (fun x2 => ?_)
  refine lv_iload_n hx hb dX9_next_22 rfl (lv_at hl 1 rfl) ?_
  refine lv_irem hx hb dX9_next_23 hn ?_
  exact hret _ _ _ _ _ ls ⟨x1, rfl⟩ dX9_next_24 rfl hP hD hS

/-! ===== a method that reads the script ===== -/
def us_pcX (g : us_G) (b L : Nat) (xs : Nat → Int32) (sz : Nat) (U : State) : Prop := us_pc g [] sz U ∧ va_X b L xs U U.heap ∧ b < U.heap.size
theorem us_preX {s : State} {H : Heap} {g : us_G} {A : Nat → Prop} {As : List Value} {locs : List Loc} {b L : Nat} {xs : Nat → Int32} (hZ : us_Z g.2.2.2.2 A s s.heap) (hS : va_S A s.heap H locs) (hA : ∀ q : Nat, s.heap.size ≤ q → A q) (hK : va_K g.1 vwCl (us_ty g) s) (hN : ub_N s) (hX : va_X b L xs s s.heap) (hbl : b < s.heap.size) (hbA : ¬ A b) : PreS s H (va_Pc As (us_pcX g b L xs H.size)) As := by
  have hF : ∀ q : Nat, va_A [] H.size q → A q := fun q hq => by
    rcases hq with ⟨k, e, hk⟩ | hq
    · exact absurd hk (by simp)
    · exact hA q (Nat.le_trans hS.1 hq)
  refine ⟨fun a U gg mk q => ?_, fun U hU hW => ⟨rfl, us_pcof hZ hS hF (fun k q h => by simp at h) ⟨fun i j p q h => by simp at h, fun k q h => by simp at h⟩ hK hN hU hW, ?_, ?_⟩⟩
  · obtain ⟨q0, q1, q2, q3⟩ := q
    obtain ⟨e0, q1⟩ := us_fb a U gg mk ⟨q0, q1⟩
    exact ⟨e0, q1, va_X.moved (u := U) (U := U.calling gg mk a) (Vm.Alike.refl U.vm) q2, q3⟩
  · rw [hU]
    exact va_X.moved hW.alike (hX.kept (hS.2.1 b hbl hbA))
  · rw [hU]
    exact Nat.lt_of_lt_of_le hbl hS.1
theorem us_met_iX {l : Launch} {y : MethodName} {rm : Room} {cc : ByteArray} {nL : Nat} {g : us_G} {sz : Nat} {av : List Value} {mc ms b L : Nat} {xs : Nat → Int32} {post : Int32 → va_W → Prop} {ret : FieldType} (hy : plainName y.cls = true) (hle : (lg_sl av).length ≤ nL)
    (body : ∀ (p : Program) (e : Env) (s : State) (m : MethodId) (args : Array Value) (below : List Frame) (meth : Method) (c : Code) (Q : State → Prop) (A : Nat → Prop), us_kx p s m args meth c cc nL y.cls g A → va_X b L xs s s.heap → b < s.heap.size → ¬ A b →
      (∀ (r : Int32) (u : va_W) (H : Heap) (locs : List Loc) (pc : Nat) (ls : Array Slot), post r u → decode cc pc = .ok (.ireturn, 1) → narrow ret (.int r) = .int r → va_P g.1 vwCl u H → va_D A u → va_S A s.heap H locs → W p l e rm s m args below meth c H locs mc ms Q (F0 m pc ls [.int r])) →
      ∀ ls : Array Slot, lv_has ls nL (lv_args 0 av) → va_P g.1 vwCl [] s.heap → va_D A [] → va_S A s.heap s.heap [] → W p l e rm s m args below meth c s.heap [] 0 0 Q (F0 m 0 ls [])) :
    Met l y (Cond.code y cc nL (some ret) :: us_tb) rm (va_Pc av (us_pcX g b L xs sz)) (va_Qi post (fun u t => ub_pq g.1 u (va_A [] sz) t) (va_A [] sz)) mc ms (va_A [] sz) := by
  refine Met.ofW (cc := cc) (maxL := nL) (ret := some ret) hy rfl ?_
  intro p e s m args below meth c s₁ B hml hv
  obtain ⟨rfl, ⟨hsz, hP, hK, hD0, hN, hZ⟩, hX, hbl⟩ := hv
  have hr := B.returns
  have hts := atoms_spec (ws := Cond.code y cc nL (some ret) :: us_tb) B.pre
  have hown : s.vm.findClass y.cls = some m.cls := findClass_of_methodNamed B.named
  have hlocks := B.notSynchronized
  subst hsz
  have hl := lv_entry av (n := nL) hle
  rw [lg_entry_eq]
  exact body p e s m av.toArray below meth c _ (va_A [] s.heap.size) ⟨B.exec, B.bytes, hml, hown, fun w hw => hts w (List.mem_cons_of_mem _ hw), hK, hN, fun q h => Or.inr h, hZ⟩ hX hbl
    (fun hb => by
      rcases hb with ⟨k, e, hk⟩ | hb
      · exact absurd hk (by simp)
      · exact absurd hbl (Nat.not_lt.mpr hb))
    (fun r u H locs pc ls hpost hd hnr hP hD hS => W.zret B.exec B.bytes hr hnr (fun t ht _ => ⟨⟨r, u, rfl, hpost, by rw [ht]; exact hP, hD⟩, hS.F ht⟩) hS.2.2 hd) _ hl hP hD0.self va_S.rf
theorem us_hL_cell : yL_cell.cls ≠ "java/lang/invoke/MethodHandle" ∧ yL_cell.cls ≠ "java/lang/invoke/VarHandle" ∧ (parseMethodDescriptor yL_cell.desc).map (fun d => d.parameters.length) = some 2 := by decide +kernel
set_option maxHeartbeats 4000000 in
theorem ul_cell (l : Launch) (g : us_G) {sz b L i : Nat} {xs : Nat → Int32} (hL : L < 2 ^ 31) (hi : i < 2 ^ 31) : Met l yL_cell wsL_cell ({ frames := 0, cells := 0, slots := 0, locals := 0 } : Room) (va_Pc [.ref b, .int (nI i)] (us_pcX g b L xs sz)) (va_Qi (fun (_ : Int32) (u : va_W) => u = []) (fun u t => ub_pq g.1 u (va_A [] sz) t) (va_A [] sz)) 0 0 (va_A [] sz) := by
  refine us_met_iX (post := fun (_ : Int32) (u : va_W) => u = []) (by decide +kernel) (Nat.le_of_ble_eq_true rfl) fun p e s m args below meth c Q A K hX hbl hbA hret ls hl hP hD hS => ?_
  obtain ⟨hx, hb, hml, hown, hts, hK, hN, hA, hZ⟩ := K
  have hl : lv_has ls 2 [(0, .ref b), (1, .int (nI i))] := hl
  refine lv_aload_n hx hb dL_cell_0 rfl (lv_at hl 0 rfl) ?_
  refine va_slen hx hb hX hbl hbA hS dL_cell_1 ?_
  refine us_topi (x := nI L) rfl ?_
  by_cases h0 : L = 0
  · refine lv_if_ne (tgt := 15) hx hb dL_cell_2 (by decide) (fun cc => absurd (show nI L = 0 by rw [h0]; rfl) cc) (fun _ => ?_)
    refine lv_bipush (v := 71) hx hb dL_cell_5 (by decide) ?_
    refine lv_iload_n hx hb dL_cell_7 rfl (lv_at hl 1 rfl) ?_
    refine lv_imul hx hb dL_cell_8 ?_
    refine lv_bipush (v := 13) hx hb dL_cell_9 (by decide) ?_
    refine lv_iadd hx hb dL_cell_11 ?_
    refine lv_goto (tgt := 31) hx hb dL_cell_12 (by decide) ?_
    exact hret _ _ _ _ _ ls rfl dL_cell_31 rfl hP hD hS
  · have hne : ¬ nI L = 0 := fun e => h0 ((nI_eq hL (show 0 < 2 ^ 31 by decide)).mp e)
    refine lv_if_ne (tgt := 15) hx hb dL_cell_2 (by decide) (fun _ => ?_) (fun cc => absurd cc hne)
    refine lv_aload_n hx hb dL_cell_15 rfl (lv_at hl 0 rfl) ?_
    refine lv_iload_n hx hb dL_cell_16 rfl (lv_at hl 1 rfl) ?_
    refine lv_aload_n hx hb dL_cell_17 rfl (lv_at hl 0 rfl) ?_
    refine va_slen hx hb hX hbl hbA hS dL_cell_18 ?_
    refine us_topi (x := nI L) rfl ?_
    refine lv_irem hx hb dL_cell_19 hne ?_
    refine us_topi (x := nI (i % L)) (us_mod hi hL) ?_
    refine va_sld hx hb hX hbl hbA hS (vp_in_nI (Nat.mod_lt _ (by omega)) hL) dL_cell_20 ?_
    refine lv_iconst (v := 5) hx hb dL_cell_21 (by decide) ?_
    refine lv_iload_n hx hb dL_cell_22 rfl (lv_at hl 1 rfl) ?_
    refine lv_aload_n hx hb dL_cell_23 rfl (lv_at hl 0 rfl) ?_
    refine va_slen hx hb hX hbl hbA hS dL_cell_24 ?_
    refine us_topi (x := nI L) rfl ?_
    refine lv_idiv hx hb dL_cell_25 hne ?_
    refine lv_imul hx hb dL_cell_26 ?_
    refine lv_bipush (v := 17) hx hb dL_cell_27 (by decide) ?_
    refine lv_irem hx hb dL_cell_29 (by decide) ?_
    refine lv_iushr hx hb dL_cell_30 rfl ?_
    exact hret _ _ _ _ _ ls rfl dL_cell_31 rfl hP hD hS
