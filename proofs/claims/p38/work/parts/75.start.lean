theorem us_I0 : um_I us_s0 0 := by
  refine ⟨by decide, by decide, by decide, by decide, by decide, by decide, rfl, by decide, by decide, fun r hr => ⟨show 0 < 4 by decide, show 0 ≤ 1 by decide, show 0 ≤ 9 by decide⟩, fun r _ _ => ⟨rfl, rfl, rfl, rfl, rfl, rfl⟩, by decide, by decide, by decide, fun k hk => absurd hk (Nat.not_lt_zero k), ?_⟩
  first | exact fun k _ => by decide | exact ⟨by decide, by decide⟩ | (intros; decide) | (intros; simp [us_s0])
theorem us_C0 : um_C us_s0 ubT0 := ⟨0, us_s0, us_s0, us_s0, us_s0, us_s0, us_s0, us_s0, us_s0, us_s0, us_s0, us_s0, us_s0, us_s0, us_s0, rfl, fun k hk => absurd hk (Nat.not_lt_zero k), ⟨by decide, fun k hk => absurd hk (Nat.not_lt_zero k)⟩, fun h _ => rfl, fun r _ => ⟨rfl, rfl, rfl, rfl, rfl, rfl⟩⟩
theorem us_W0 {g : us_G} {h0 : Nat} {ad : Nat → Nat} : uo_W g h0 0 us_s0 [] none (-1015) (-1015) [] (unX8 g.2.1 g.2.2.1 h0 ad) := by
  refine ⟨ad, [], none, 0, ubT0, ubT0, 0, 0, (fun _ => 0), (fun _ => 0), (fun _ => 0), (fun _ => 0), (fun _ => none), ?_, us_I0, us_C0, ⟨by decide, Nat.zero_le _, fun y hy => absurd hy (Nat.not_lt_zero y)⟩, ut_L0, by decide, Or.inl ⟨rfl, rfl, rfl⟩⟩
  show _ = ((unX8 g.2.1 g.2.2.1 h0 ad ++ []) ++ [])
  rw [List.append_nil, List.append_nil]
set_option maxRecDepth 20000 in
set_option maxHeartbeats 4000000 in
theorem whole_start {p : Program} {e : Env} {s : State} {m : MethodId} {below : List Frame} {meth : Method} {c : Code} (l : Launch) (hflags : l.flags = flags0) {b L : Nat} {xs : Nat → Int32} (hL : L ≤ 260) (C0 : lw_At p s m meth c b L xs) : W p l e room_1 s m #[Value.ref b] below meth c s.heap [] 0 0 (lw_Z below #[Value.ref b] s) (entryFrame m ([Value.ref b] : List Value).toArray 10) := by
  obtain ⟨hx, hb, hr, hml, hown, hts, hX, hbl, hlocks, hgv⟩ := id C0
  have hA : ∀ q : Nat, s.heap.size ≤ q → (fun q : Nat => s.heap.size ≤ q) q := fun _ h => h
  have hbA : ¬ (fun q : Nat => s.heap.size ≤ q) b := Nat.not_le.mpr hbl
  have hts2 := us_hts0 hts
  obtain ⟨D, cI, cT, cB, hK⟩ := us_K hts hts2
  have hNN := us_N hts
  obtain ⟨E, hZ⟩ := us_Z0 hts hgv
  have hS : va_S (fun q : Nat => s.heap.size ≤ q) s.heap s.heap [] := va_S.rf
  have hP : va_P D vwCl [] s.heap := fun k q h => by simp at h
  have hD : va_D (fun q : Nat => s.heap.size ≤ q) [] := ⟨fun i j p q h => by simp at h, fun k q h => by simp at h⟩
  have hl := lv_entry ([.ref b]) (n := 10) (Nat.le_of_ble_eq_true rfl)
  rw [lg_entry_eq]
  generalize (lg_sl ([.ref b]) ++ List.replicate (10 - (lg_sl ([.ref b])).length) Slot.unset).toArray = ls at hl ⊢
  have hl : lv_has ls 10 [(0, .ref b)] := hl
  have hown : s.vm.findClass RL = some m.cls := hown
  let g : us_G := (D, cI, cT, cB, E)
  have hKs : va_K g.1 vwCl (us_ty g) s := hK
  have hK2 : va_K D vwCl [(cI, .int), (cT, .object RX7)] s := hK.sub [0, 1] rfl
  refine va_new (ci := 10) (fs := [.null, .null, .null, .null, .null, .null, .null, .int 0, .int 0]) (C := RX8) (T := TX8) (N := 9) hx hb hts2 us_inX8 tyX8 tyX8_ok hown (hts2 _ us_m61) (hts2 _ us_m62) (hts2 _ us_m40) hK hP hD hS hA rfl (fun j hj => by rcases (show j = 0 ∨ j = 1 ∨ j = 2 ∨ j = 3 ∨ j = 4 ∨ j = 5 ∨ j = 6 ∨ j = 7 ∨ j = 8 by omega) with rfl | rfl | rfl | rfl | rfl | rfl | rfl | rfl | rfl <;> rfl) (Nat.le_of_ble_eq_true rfl) (Nat.le_of_ble_eq_true rfl) dL_law_0 (fun h0 H hP hD hS => ?_)
  have hP : va_P D vwCl [(h0, .inr (10, [.null, .null, .null, .null, .null, .null, .null, .int 0, .int 0]))] H := hP
  have hD : va_D (fun q : Nat => s.heap.size ≤ q) [(h0, .inr (10, [.null, .null, .null, .null, .null, .null, .null, .int 0, .int 0]))] := hD
  refine lv_dup hx hb dL_law_3 rfl ?_
  have hpm : List.Perm ([(h0, .inr (10, [.null, .null, .null, .null, .null, .null, .null, .int 0, .int 0]))] : va_W) ([(h0, .inr (10, [.null, .null, .null, .null, .null, .null, .null, .int 0, .int 0]))] ++ ([] : va_W)) := List.Perm.refl _
  have hF := ub_freeP hD hS hA hpm
  refine va_callv (va_runI (As := []) (rest := [.ref h0]) ⟨hx, hb, hml, hown, hts2⟩ (ucX8_init l D cI cT) (cwI 0 hts2 gu_init_X8_init rfl rfl rfl (hts2 _ us_m40) (hts2 _ us_m63) (hts2 _ us_m64) rfl uhX8_init ⟨Nat.le_of_ble_eq_true rfl, Nat.le_of_ble_eq_true rfl⟩) (ub_preS hP hD hK2 hNN) rfl rfl hl.1 rfl (lv_room (Nat.le_of_ble_eq_true rfl)) dL_law_4 ⟨Nat.le_of_ble_eq_true rfl, Nat.le_of_ble_eq_true rfl⟩) hS (fun q _ h => hF q h) hF (fun u t H1 locs1 ht hvm hw hB hz1 hk1 hS1 => ?_)
  obtain ⟨ad, hP1, hD1⟩ := hB
  rw [ht] at hP1
  obtain ⟨hP, hD⟩ := ub_joinP hP hD hpm hF hk1 hP1 hD1
  have hS := hS1
  have hP : va_P g.1 vwCl (unX8 cI cT h0 ad) H1 := by have h9 := hP; rw [List.append_nil] at h9; exact h9
  have hD : va_D (fun q : Nat => s.heap.size ≤ q) (unX8 cI cT h0 ad) := by have h9 := hD; rw [List.append_nil] at h9; exact h9
  refine lv_astore_n (lv' := [(1, .ref h0), (0, .ref b)]) hx hb dL_law_7 rfl hl (by decide) rfl (fun ls hl => ?_)
  refine lv_iconst (v := 0) hx hb dL_law_8 (by decide) ?_
  refine lv_istore_n (lv' := [(2, .int 0), (1, .ref h0), (0, .ref b)]) hx hb dL_law_9 rfl hl (by decide) rfl (fun ls hl => ?_)
  refine W.widen (k := 60) (n := 2000) (Nat.le_of_ble_eq_true rfl) (Nat.le_of_ble_eq_true rfl) ?_
  refine ul_main (g := g) (A := fun q : Nat => s.heap.size ≤ q) ⟨hx, hb, hml, hown, hts2, hKs, hNN, hA, hZ⟩ hX hbl hbA (by omega) (fun H locs ls hS => ?_) us_W0 hl hP hD hS
  refine va_forget (fun q hq => hS.2.2 q hq) ?_
  exact W.base (lw_ret (Drawn.sameBut.refl s.drawn lw_cs) hx hb hr hlocks dL_law_494)
