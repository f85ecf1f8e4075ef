section UL58
def ul_f0 : Nat → Nat := fun _ => 0
theorem ul_I0 : um_I ul_f0 0 := by
  refine ⟨by decide, by decide, by decide, by decide, by decide, by decide, rfl, by decide, by decide, fun r hr => ⟨show 0 < 4 by decide, show 0 ≤ 1 by decide, show 0 ≤ 9 by decide⟩, fun r _ _ => ⟨rfl, rfl, rfl, rfl, rfl, rfl⟩, by decide, by decide, by decide, fun k hk => absurd hk (Nat.not_lt_zero k), ?_⟩
  first | exact fun k _ => by decide | exact ⟨by decide, by decide⟩ | (intros; decide) | (intros; simp [ul_f0])
theorem ul_nv0 : um_nv ul_f0 = fun _ => 0 := rfl
theorem ul_C0 : um_C ul_f0 ubT0 := ⟨0, ul_f0, ul_f0, ul_f0, ul_f0, ul_f0, ul_f0, ul_f0, ul_f0, ul_f0, ul_f0, ul_f0, ul_f0, ul_f0, ul_f0, rfl, fun k hk => absurd hk (Nat.not_lt_zero k), ⟨by decide, fun k hk => absurd hk (Nat.not_lt_zero k)⟩, fun h _ => rfl, fun r _ => ⟨rfl, rfl, rfl, rfl, rfl, rfl⟩⟩
theorem ul_R0 {cI : ClassId} : ulR cI 0 none [] (-1015) (-1015) 0 0 0 (fun _ => 0) ubT0 0 (fun _ => 0) (fun _ => none) 0 0 0 0 0 0 (fun _ => 0) (fun _ => 0) (fun _ => 0) (fun _ => 0) (fun _ => 0) :=
  ⟨ul_f0, ul_f0, 0, 0, 0, 0, ul_f0, rfl, rfl, rfl, rfl, rfl, rfl, rfl, rfl, rfl, ul_I0, ul_C0, ⟨by decide, by decide, fun k hk => absurd hk (Nat.not_lt_zero k)⟩, Or.inl ⟨rfl, rfl, rfl⟩, ⟨by decide, fun k hk => absurd hk (Nat.not_lt_zero k)⟩, um_L0, Or.inl ⟨rfl, rfl, rfl⟩⟩
set_option maxRecDepth 20000 in
set_option maxHeartbeats 4000000 in
theorem whole_start {p : Program} {e : Env} {s : State} {m : MethodId} {below : List Frame} {meth : Method} {c : Code} (l : Launch) (hflags : l.flags = flags0) {b L : Nat} {xs : Nat → Int32} (hL : L ≤ 2048) (C0 : lw_At p s m meth c b L xs) : W p l e room_1 s m #[Value.ref b] below meth c s.heap [] 0 0 (lw_Z below #[Value.ref b] s) (entryFrame m ([Value.ref b] : List Value).toArray 8) := by
  obtain ⟨hx, hb, hr, hml, hown, hts, hX, hbl, hlocks, hgv⟩ := id C0
  have hA : ∀ q : Nat, s.heap.size ≤ q → (fun q : Nat => s.heap.size ≤ q) q := fun _ h => h
  have hbA : ¬ (fun q : Nat => s.heap.size ≤ q) b := Nat.not_le.mpr hbl
  obtain ⟨D, cI, cT, hK⟩ := ul_K hts
  have hNN := ul_N hts
  obtain ⟨adK, adV, hZ⟩ := ul_Z hts hgv
  have hS : va_S (fun q : Nat => s.heap.size ≤ q) s.heap s.heap [] := va_S.rf
  have hP : va_P D vwCl [] s.heap := fun k q h => by simp at h
  have hD : va_D (fun q : Nat => s.heap.size ≤ q) [] := ⟨fun i j p q h => by simp at h, fun k q h => by simp at h⟩
  have htl : ∀ w ∈ wsL_law, w.before #[Value.ref b] s = true := fun w h => hts w (wsL_law_in w h)
  have hl := lv_entry ([.ref b]) (n := 8) (Nat.le_of_ble_eq_true rfl)
  rw [lg_entry_eq]
  generalize (lg_sl ([.ref b]) ++ List.replicate (8 - (lg_sl ([.ref b])).length) Slot.unset).toArray = ls at hl ⊢
  have hl : lv_has ls 8 [(0, .ref b)] := hl
  refine va_new (ci := 8) (fs := [.null, .null, .null, .null, .null, .null, .null, .int 0, .int 0]) (C := RX8) (T := TX8) (N := 9) hx hb hts inX8 tyX8 tyX8_ok hown (hts (.classLink RL 7 RX8) (List.mem_of_getElem? (i := 88) (by decide +kernel))) (hts (.instantiable RX8 9) (List.mem_of_getElem? (i := 89) (by decide +kernel))) (hts (.initialized RX8) (List.mem_of_getElem? (i := 71) (by decide +kernel))) hK hP hD hS hA rfl (fun j hj => by rcases (show j = 0 ∨ j = 1 ∨ j = 2 ∨ j = 3 ∨ j = 4 ∨ j = 5 ∨ j = 6 ∨ j = 7 ∨ j = 8 by omega) with rfl | rfl | rfl | rfl | rfl | rfl | rfl | rfl | rfl <;> rfl) (Nat.le_of_ble_eq_true rfl) (Nat.le_of_ble_eq_true rfl) dL_law_0 (fun h0 H hP hD hS => ?_)
  have hP : va_P D vwCl [(h0, .inr (8, [.null, .null, .null, .null, .null, .null, .null, .int 0, .int 0]))] H := hP
  have hD : va_D (fun q : Nat => s.heap.size ≤ q) [(h0, .inr (8, [.null, .null, .null, .null, .null, .null, .null, .int 0, .int 0]))] := hD
  refine lv_dup hx hb dL_law_3 rfl ?_
  refine ub_calln (w1 := unX8 cI cT h0) (wr := []) (va_runI (As := []) (rest := [.ref h0]) ⟨hx, hb, hml, hown, htl⟩ (ucX8_init l D cI cT) (cwI 0 htl gL_law_X8_init rfl rfl rfl (hts (.initialized RX8) (List.mem_of_getElem? (i := 71) (by decide +kernel))) (hts (.methodLink RL 9 yX8_init) (List.mem_of_getElem? (i := 90) (by decide +kernel))) (hts (.instanceMethod yX8_init) (List.mem_of_getElem? (i := 91) (by decide +kernel))) rfl uhX8_init ⟨Nat.le_of_ble_eq_true rfl, Nat.le_of_ble_eq_true rfl⟩) (ub_preS hP hD hK hNN) rfl rfl hl.1 rfl (lv_room (Nat.le_of_ble_eq_true rfl)) dL_law_4 ⟨ul_rc (by omega), ul_rs (by omega)⟩) hP hD hS hA [0] [] rfl rfl (by decide) (by decide) (fun ad H locs hP hD hS => ?_)
  refine lv_astore_n (lv' := [(1, .ref h0), (0, .ref b)]) hx hb dL_law_7 rfl hl (by decide) rfl (fun ls hl => ?_)
  refine va_new (ci := 9) (fs := [.int 0, .int 0, .int 0, .int 0, .int 0, .null, .null, .null, .null, .null, .null, .null, .int 0, .int 0, .int 0, .int 0, .int 0, .int 0]) (C := RX9) (T := TX9) (N := 18) hx hb hts inX9 tyX9 tyX9_ok hown (hts (.classLink RL 10 RX9) (List.mem_of_getElem? (i := 930) (by decide +kernel))) (hts (.instantiable RX9 18) (List.mem_of_getElem? (i := 931) (by decide +kernel))) (hts (.initialized RX9) (List.mem_of_getElem? (i := 80) (by decide +kernel))) hK hP hD hS hA rfl (fun j hj => by rcases (show j = 0 ∨ j = 1 ∨ j = 2 ∨ j = 3 ∨ j = 4 ∨ j = 5 ∨ j = 6 ∨ j = 7 ∨ j = 8 ∨ j = 9 ∨ j = 10 ∨ j = 11 ∨ j = 12 ∨ j = 13 ∨ j = 14 ∨ j = 15 ∨ j = 16 ∨ j = 17 by omega) with rfl | rfl | rfl | rfl | rfl | rfl | rfl | rfl | rfl | rfl | rfl | rfl | rfl | rfl | rfl | rfl | rfl | rfl <;> rfl) (ul_rc (by omega)) (ul_rs (by omega)) dL_law_8 (fun m0 H hP hD hS => ?_)
  have hP : va_P D vwCl (unX8 cI cT h0 ad ++ [(m0, .inr (9, [.int 0, .int 0, .int 0, .int 0, .int 0, .null, .null, .null, .null, .null, .null, .null, .int 0, .int 0, .int 0, .int 0, .int 0, .int 0]))]) H := hP
  have hD : va_D (fun q : Nat => s.heap.size ≤ q) (unX8 cI cT h0 ad ++ [(m0, .inr (9, [.int 0, .int 0, .int 0, .int 0, .int 0, .null, .null, .null, .null, .null, .null, .null, .int 0, .int 0, .int 0, .int 0, .int 0, .int 0]))]) := hD
  refine lv_dup hx hb dL_law_11 rfl ?_
  have hp : (unX8 cI cT h0 ad ++ [(m0, .inr (9, [.int 0, .int 0, .int 0, .int 0, .int 0, .null, .null, .null, .null, .null, .null, .null, .int 0, .int 0, .int 0, .int 0, .int 0, .int 0]))] : va_W).Perm ([(m0, .inr (9, [.int 0, .int 0, .int 0, .int 0, .int 0, .null, .null, .null, .null, .null, .null, .null, .int 0, .int 0, .int 0, .int 0, .int 0, .int 0]))] ++ unX8 cI cT h0 ad) := List.perm_append_comm
  obtain ⟨hPc, hDc⟩ := ub_subP hP hD hp
  have hF := ub_freeP hD hS hA hp
  refine va_callv (va_runI (As := []) (rest := [.ref m0]) ⟨hx, hb, hml, hown, htl⟩ (ucX9_init l D cI cT) (cwI 0 htl gL_law_X9_init rfl rfl rfl (hts (.initialized RX9) (List.mem_of_getElem? (i := 80) (by decide +kernel))) (hts (.methodLink RL 12 yX9_init) (List.mem_of_getElem? (i := 932) (by decide +kernel))) (hts (.instanceMethod yX9_init) (List.mem_of_getElem? (i := 933) (by decide +kernel))) rfl uhX9_init ⟨Nat.le_of_ble_eq_true rfl, Nat.le_of_ble_eq_true rfl⟩) (ub_preS hPc hDc hK hNN) rfl rfl hl.1 rfl (lv_room (Nat.le_of_ble_eq_true rfl)) dL_law_12 ⟨ul_rc (by omega), ul_rs (by omega)⟩) hS (fun q _ h => hF q h) hF (fun u t H1 locs1 ht hvm hw hB hz1 hk1 hS1 => ?_)
  obtain ⟨md, hP1, hD1⟩ := hB
  rw [ht] at hP1
  obtain ⟨hP, hD⟩ := ub_joinP hP hD hp hF hk1 hP1 hD1
  have hS := hS1
  refine lv_astore_n (lv' := [(2, .ref m0), (1, .ref h0), (0, .ref b)]) hx hb dL_law_15 rfl hl (by decide) rfl (fun ls hl => ?_)
  refine lv_iconst (v := 0) hx hb dL_law_16 (by decide) ?_
  refine lv_istore_n (lv' := [(3, .int 0), (2, .ref m0), (1, .ref h0), (0, .ref b)]) hx hb dL_law_17 rfl hl (by decide) rfl (fun ls hl => ?_)
  have hq : (((ulC cI cT h0 ad none (-1015) (-1015) 0 0 0 (fun _ => 0) ubT0 ubT0 0 0 (fun _ => 0) (fun _ => 0) 0 (fun _ => 0) (fun _ => none)) ++ ((ulM cI m0 md 0 0 0 0 0 0 0 0 0 0 0 (fun _ => 0) (fun _ => 0) (fun _ => 0) (fun _ => 0) (fun _ => 0) (fun _ => 0) (fun _ => 0)) ++ ([] : va_W))) ++ ub_pool cI (fun _ => none)).Perm (unX9 cI m0 md ++ unX8 cI cT h0 ad) := by
    have e1 : (((ulC cI cT h0 ad none (-1015) (-1015) 0 0 0 (fun _ => 0) ubT0 ubT0 0 0 (fun _ => 0) (fun _ => 0) 0 (fun _ => 0) (fun _ => none)) ++ ((ulM cI m0 md 0 0 0 0 0 0 0 0 0 0 0 (fun _ => 0) (fun _ => 0) (fun _ => 0) (fun _ => 0) (fun _ => 0) (fun _ => 0) (fun _ => 0)) ++ ([] : va_W))) ++ ub_pool cI (fun _ => none)) = unX8 cI cT h0 ad ++ unX9 cI m0 md := by
      show ((unX8 cI cT h0 ad ++ (unX9 cI m0 md ++ [])) ++ []) = _
      rw [List.append_nil, List.append_nil]
    rw [e1]
    exact List.perm_append_comm
  have hP := ub_P_perm hq.symm hP
  have hD := ub_D_perm hq.symm hD
  refine W.widen (k := 60) (n := 4000) (by omega) (by omega) ?_
  refine ul_loop (D := D) (cI := cI) (cT := cT) (A := (fun q : Nat => s.heap.size ≤ q)) (L := L) (xs := xs) (h0 := h0) (m0 := m0) (ad := ad) (md := md) hZ ⟨hx, hb, hml, hown, htl, hK, hNN, hA⟩ hX hbl hbA hL (fun H locs ls cells slots hc hs hS => ?_) 512 0 60 4000 0 (by omega) (by omega) (by omega) (by omega) (by omega) [] none (-1015) (-1015) 0 0 0 (fun _ => 0) ubT0 ubT0 0 0 (fun _ => 0) (fun _ => 0) 0 (fun _ => 0) (fun _ => none) 0 0 0 0 0 0 0 0 0 0 0 (fun _ => 0) (fun _ => 0) (fun _ => 0) (fun _ => 0) (fun _ => 0) (fun _ => 0) (fun _ => 0) H1 _ ls ul_R0 hP hD hS hl
  refine lv_iconst (v := 1) hx hb dL_law_1033 (by decide) ?_
  refine va_forget (fun q hq => hS.2.2 q hq) ?_
  refine W.widen (k := 600000) (n := 7302250) hc hs ?_
  exact W.base (lw_ret (Drawn.sameBut.refl s.drawn lw_cs) hx hb hr hlocks dL_law_1034)
end UL58
