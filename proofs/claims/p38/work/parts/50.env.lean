/-! ===== what stands through every walk of law and JDK: arrays' classes, String constants, statics ===== -/
theorem us_conseq {l : Launch} {y : MethodName} {ws : List Cond} {rm : Room} {Pc Pc' : Array Value → State → Prop} {Qc Qc' : Array Value → State → Outcome → State → Prop} {mc ms : Nat} {free free' : Addr → Prop}
    (h : Met l y ws rm Pc Qc mc ms free) (hp : ∀ a U, Pc' a U → Pc a U) (hq : ∀ a st o t, Pc' a st → Qc a st o t → Qc' a st o t) (hf : ∀ q, free q → free' q) : Met l y ws rm Pc' Qc' mc ms free' := by
  intro p e ha hc hk s m args below hfr hap hP hK
  obtain ⟨n, o, h1, h2, h3, h4, L, h5, h6⟩ := h p e ha hc hk s m args below hfr hap (hp _ _ hP) hK
  exact ⟨n, o, h1, h2, h3, hq _ _ _ _ hP h4, L, h5, fun q hq => hf _ (h6 q hq)⟩
def us_len : List Nat := [2, 4, 3, 6, 2, 1, 1, 4, 1, 0, 1, 1, 1, 1]
def us_byt : List (List Int32) := [[114, 100], [118, 68, 58, 100], [115, 68, 63], [112, 68, 64, 68, 42, 100], [99, 68], [110], [104], [111, 68, 45, 100], [101], [], [35], [64], [42], [32]]
def us_six : List Nat := [118, 120, 122, 124, 152]
def us_stx : List String := ["", "#", "@", "*", " "]
def us_slo : List Nat := [9, 10, 11, 12, 13]
def us_dO (j : Nat) : Int32 := nI (48 + j % 10)
def us_dT (j : Nat) : Int32 := nI (48 + j / 10)
abbrev us_E : Type := (Nat → Nat) × (Nat → Nat) × Nat × Nat
def us_Z (E : us_E) (A : Nat → Prop) (U : State) (H : Heap) : Prop :=
  vk_S 14 us_len us_byt E.1 E.2.1 A U H ∧ va_Z "java/lang/String" "COMPACT_STRINGS" "Z" (.int 1) A U H ∧ va_Zq "jdk/internal/util/Preconditions" "SIOOBE_FORMATTER" "Ljava/util/function/BiFunction;" A U H ∧ (∀ i : Nat, i < 10 → vk_R RX3 (ub_six.getD i 0) (ub_stx.getD i "") (E.1 i) U) ∧ (∀ i : Nat, i < 5 → vk_R RL (us_six.getD i 0) (us_stx.getD i "") (E.1 (us_slo.getD i 0)) U) ∧
  va_Z "java/lang/Integer" "DigitOnes" "[B" (.ref E.2.2.1) A U H ∧ va_T .byte E.2.2.1 100 (fun j => .int (us_dO j)) A U H ∧ va_Z "java/lang/Integer" "DigitTens" "[B" (.ref E.2.2.2) A U H ∧ va_T .byte E.2.2.2 100 (fun j => .int (us_dT j)) A U H ∧ va_Nw (.castable "[B" "java/lang/Cloneable") U
theorem us_Z.ub {E : us_E} {A : Nat → Prop} {U : State} {H : Heap} (h : us_Z E A U H) : ub_Z E.1 E.2.1 A U H := by
  obtain ⟨⟨h1, h1'⟩, h2, h3, h4, -⟩ := h
  refine ⟨⟨fun i hi => ?_, fun i j hi hj => h1' i j (by omega) (by omega)⟩, h2, h3, h4⟩
  have e1 : ∀ i : Nat, i < 10 → us_len.getD i 0 = ub_len.getD i 0 ∧ us_byt.getD i [] = ub_byt.getD i [] := by decide
  obtain ⟨g1, g2, g3, g4⟩ := h1 i (by omega)
  rw [(e1 i hi).1, (e1 i hi).2] at g4
  exact ⟨g1, g2, g3, g4⟩
theorem us_Z.step {E : us_E} {A B : Nat → Prop} {u U : State} {H H1 : Heap} (h : us_Z E A u H) (hq : ∀ a : Nat, a < H.size → ¬ A a → H1[a]? = H[a]?) (hF : ∀ q : Nat, B q → A q) (hW : u.WarmedH U.vm) : us_Z E B U H1 := by
  obtain ⟨h1, h2, h3, h4, h5, h6, h7, h8, h9, h10⟩ := h
  exact ⟨((h1.kept hq).narrow hF).moved hW.alike, ((h2.kept hq).narrow hF).moved hW.alike, ((h3.kept hq).narrow hF).moved hW.alike, fun i hi => (h4 i hi).warm hW, fun i hi => (h5 i hi).warm hW, ((h6.kept hq).narrow hF).moved hW.alike, ((h7.kept hq).narrow hF).moved hW.alike, ((h8.kept hq).narrow hF).moved hW.alike, ((h9.kept hq).narrow hF).moved hW.alike, va_Nw.warmC hW h10⟩
theorem us_Z.calling {E : us_E} {A : Nat → Prop} {U : State} {g : JFrame} {mk : MethodId} {a : Array Value} (h : us_Z E A U U.heap) : us_Z E A (U.calling g mk a) (U.calling g mk a).heap := by
  obtain ⟨h1, h2, h3, h4, h5, h6, h7, h8, h9, h10⟩ := h
  exact ⟨vk_S.moved (u := U) (U := U.calling g mk a) (Vm.Alike.refl U.vm) h1, va_Z.moved (u := U) (U := U.calling g mk a) (Vm.Alike.refl U.vm) h2, va_Zq.moved (u := U) (U := U.calling g mk a) (Vm.Alike.refl U.vm) h3, fun i hi => vk_R.same (u := U) (U := U.calling g mk a) rfl (h4 i hi), fun i hi => vk_R.same (u := U) (U := U.calling g mk a) rfl (h5 i hi), va_Z.moved (u := U) (U := U.calling g mk a) (Vm.Alike.refl U.vm) h6, va_T.moved (u := U) (U := U.calling g mk a) (Vm.Alike.refl U.vm) h7, va_Z.moved (u := U) (U := U.calling g mk a) (Vm.Alike.refl U.vm) h8, va_T.moved (u := U) (U := U.calling g mk a) (Vm.Alike.refl U.vm) h9, va_Nw.same (u := U) (U := U.calling g mk a) rfl rfl h10⟩
abbrev us_G : Type := va_G × ClassId × ClassId × ClassId × us_E
abbrev us_ty (g : us_G) : List (ClassId × FieldType) := [(g.2.1, .int), (g.2.2.1, .object RX7), (g.2.2.2.1, .byte)]
/-- the world that a method of law or JDK begins with -/
def us_pc (g : us_G) (ws : va_W) (sz : Nat) (U : State) : Prop := U.heap.size = sz ∧ va_P g.1 vwCl ws U.heap ∧ va_K g.1 vwCl (us_ty g) U ∧ va_D (fun _ => True) ws ∧ ub_N U ∧ us_Z g.2.2.2.2 (va_A ws sz) U U.heap
theorem us_pc.ub {g : us_G} {ws : va_W} {sz : Nat} {U : State} (h : us_pc g ws sz U) : ub_pc g.1 g.2.1 g.2.2.1 ws sz U := ⟨h.1, h.2.1, h.2.2.1.sub [0, 1] rfl, h.2.2.2.1, h.2.2.2.2.1⟩
/-- what stands through a walk -/
def us_kx (p : Program) (s : State) (m : MethodId) (args : Array Value) (meth : Method) (c : Code) (cc : ByteArray) (nL : Nat) (own : String) (g : us_G) (A : Nat → Prop) : Prop :=
  p.tables.exec = Jvm.exec ∧ c.code = cc ∧ c.maxLocals = nL ∧ s.vm.findClass own = some m.cls ∧ (∀ w ∈ us_tb, w.before args s = true) ∧ va_K g.1 vwCl (us_ty g) s ∧ ub_N s ∧ (∀ q : Nat, s.heap.size ≤ q → A q) ∧ us_Z g.2.2.2.2 A s s.heap
theorem us_fb {av : List Value} {g : us_G} {ws : va_W} {sz : Nat} : FrameBlind (va_Pc av (us_pc g ws sz)) := fun a U gg mk q => by
  obtain ⟨q0, q1, q2, qK, qD, qN, qZ⟩ := q
  exact ⟨q0, q1, q2, va_K.moved (u := U) (U := U.calling gg mk a) (Vm.Alike.refl U.vm) qK, qD, ub_N.same (u := U) (U := U.calling gg mk a) rfl qN, qZ.calling⟩
section US1
variable {s : State} {H : Heap} {g : us_G} {A : Nat → Prop} {wc : va_W} {As : List Value} {locs : List Loc}
theorem us_pcof {U : State} (hZ : us_Z g.2.2.2.2 A s s.heap) (hS : va_S A s.heap H locs) (hF : ∀ q : Nat, va_A wc H.size q → A q) (hP : va_P g.1 vwCl wc H) (hD : va_D A wc) (hK : va_K g.1 vwCl (us_ty g) s) (hN : ub_N s) (hU : U.heap = H) (hW : s.WarmedH U.vm) : us_pc g wc H.size U :=
  ⟨by rw [hU], by rw [hU]; exact hP, va_K.moved hW.alike hK, hD.weaken (fun _ _ _ _ => trivial), hN.warm hW, by rw [hU]; exact hZ.step hS.2.1 hF hW⟩
theorem us_preS (hZ : us_Z g.2.2.2.2 A s s.heap) (hS : va_S A s.heap H locs) (hF : ∀ q : Nat, va_A wc H.size q → A q) (hP : va_P g.1 vwCl wc H) (hD : va_D A wc) (hK : va_K g.1 vwCl (us_ty g) s) (hN : ub_N s) : PreS s H (va_Pc As (us_pc g wc H.size)) As :=
  ⟨us_fb, fun _ hU hW => ⟨rfl, us_pcof hZ hS hF hP hD hK hN hU hW⟩⟩
theorem us_preV {C : String} {b : Addr} (hZ : us_Z g.2.2.2.2 A s s.heap) (hS : va_S A s.heap H locs) (hF : ∀ q : Nat, va_A wc H.size q → A q) (hP : va_P g.1 vwCl wc H) (hD : va_D A wc) (hK : va_K g.1 vwCl (us_ty g) s) (hN : ub_N s) (q0 : Nat) {ci : Nat} {q : vw_C} {fs : List Value} (hc : vwCl[ci]? = some q) (hC : q.1 = C) (he : wc[q0]? = some (b, .inr (ci, fs))) : PreV s H C b (va_Pc (.ref b :: As) (us_pc g wc H.size)) As :=
  ⟨us_fb, by rw [← hC]; exact va_recv hK hP hc he, fun _ hU hW => ⟨rfl, us_pcof hZ hS hF hP hD hK hN hU hW⟩⟩
/-- the receiver is a String constant -/
theorem us_preVk {i : Nat} (hi : i < 14) (hZ : us_Z g.2.2.2.2 A s s.heap) (hS : va_S A s.heap H locs) (hF : ∀ q : Nat, va_A wc H.size q → A q) (hP : va_P g.1 vwCl wc H) (hD : va_D A wc) (hK : va_K g.1 vwCl (us_ty g) s) (hN : ub_N s) : PreV s H "java/lang/String" (g.2.2.2.2.1 i) (va_Pc (.ref (g.2.2.2.2.1 i) :: As) (us_pc g wc H.size)) As :=
  ⟨us_fb, vk_recv hZ.1 hi hS, fun _ hU hW => ⟨rfl, us_pcof hZ hS hF hP hD hK hN hU hW⟩⟩
end US1
section US2
variable {p : Program} {l : Launch} {e : Env} {R : Room} {s : State} {m : MethodId} {args : Array Value} {below : List Frame} {meth : Method} {c : Code} {H : Heap} {locs : List Loc} {cells slots : Nat} {Q : State → Prop}
variable {pc : Nat} {ls : Array Slot} {rest st0 : List Value} {a : Array Value} {A : Nat → Prop} {mc ms : Nat} {D : va_G} {ws wc fr : va_W}
/-- calls: the callee's cells are of its own world; what it answers and leaves, post says -/
theorem us_calli {post : Int32 → va_W → Prop} (hr : va_Run p l e R s m args below meth c H locs cells slots mc ms (F0 m pc ls st0) rest (va_Qi post (fun u t => ub_pq D u (va_A wc H.size) t) (va_A wc H.size) a) (va_A wc H.size))
    (hP : va_P D vwCl ws H) (hD : va_D A ws) (hS : va_S A s.heap H locs) (hA : ∀ q : Nat, s.heap.size ≤ q → A q) (hp : ws.Perm (wc ++ fr))
    (kk : ∀ (r : Int32) (u : va_W) (H1 : Heap) (locs1 : List Loc), post r u → va_P D vwCl (u ++ fr) H1 → va_D A (u ++ fr) → va_S A s.heap H1 locs1 → W p l e R s m args below meth c H1 locs1 (cells + mc) (slots + ms) Q (F0 m (pc + 3) ls (.int r :: rest))) : W p l e R s m args below meth c H locs cells slots Q (F0 m pc ls st0) := by
  have hF := ub_freeP hD hS hA hp
  refine va_calli hr hS (fun q _ h => hF q h) hF (fun r' u t H1 locs1 ht hvm hw hB hz1 hk1 hS1 => ?_)
  obtain ⟨hP1, hD1⟩ := hB
  rw [ht] at hP1
  obtain ⟨g1, g2⟩ := ub_joinP hP hD hp hF hk1 hP1 hD1
  exact kk r' u H1 locs1 hw g1 g2 hS1
theorem us_callv {post : va_W → Prop} (hr : va_Run p l e R s m args below meth c H locs cells slots mc ms (F0 m pc ls st0) rest (va_Qv post (fun u t => ub_pq D u (va_A wc H.size) t) (va_A wc H.size) a) (va_A wc H.size))
    (hP : va_P D vwCl ws H) (hD : va_D A ws) (hS : va_S A s.heap H locs) (hA : ∀ q : Nat, s.heap.size ≤ q → A q) (hp : ws.Perm (wc ++ fr))
    (kk : ∀ (u : va_W) (H1 : Heap) (locs1 : List Loc), post u → va_P D vwCl (u ++ fr) H1 → va_D A (u ++ fr) → va_S A s.heap H1 locs1 → W p l e R s m args below meth c H1 locs1 (cells + mc) (slots + ms) Q (F0 m (pc + 3) ls rest)) : W p l e R s m args below meth c H locs cells slots Q (F0 m pc ls st0) := by
  have hF := ub_freeP hD hS hA hp
  refine va_callv hr hS (fun q _ h => hF q h) hF (fun u t H1 locs1 ht hvm hw hB hz1 hk1 hS1 => ?_)
  obtain ⟨hP1, hD1⟩ := hB
  rw [ht] at hP1
  obtain ⟨g1, g2⟩ := ub_joinP hP hD hp hF hk1 hP1 hD1
  exact kk u H1 locs1 hw g1 g2 hS1
theorem us_calld {post : UInt64 → va_W → Prop} (hr : va_Run p l e R s m args below meth c H locs cells slots mc ms (F0 m pc ls st0) rest (va_Qd post (fun u t => ub_pq D u (va_A wc H.size) t) (va_A wc H.size) a) (va_A wc H.size))
    (hP : va_P D vwCl ws H) (hD : va_D A ws) (hS : va_S A s.heap H locs) (hA : ∀ q : Nat, s.heap.size ≤ q → A q) (hp : ws.Perm (wc ++ fr))
    (kk : ∀ (r : UInt64) (u : va_W) (H1 : Heap) (locs1 : List Loc), post r u → va_P D vwCl (u ++ fr) H1 → va_D A (u ++ fr) → va_S A s.heap H1 locs1 → W p l e R s m args below meth c H1 locs1 (cells + mc) (slots + ms) Q (F0 m (pc + 3) ls (.double r :: rest))) : W p l e R s m args below meth c H locs cells slots Q (F0 m pc ls st0) := by
  have hF := ub_freeP hD hS hA hp
  refine va_calld hr hS (fun q _ h => hF q h) hF (fun r' u t H1 locs1 ht hvm hw hB hz1 hk1 hS1 => ?_)
  obtain ⟨hP1, hD1⟩ := hB
  rw [ht] at hP1
  obtain ⟨g1, g2⟩ := ub_joinP hP hD hp hF hk1 hP1 hD1
  exact kk r' u H1 locs1 hw g1 g2 hS1
theorem us_callf {post : UInt32 → va_W → Prop} (hr : va_Run p l e R s m args below meth c H locs cells slots mc ms (F0 m pc ls st0) rest (va_Qf post (fun u t => ub_pq D u (va_A wc H.size) t) (va_A wc H.size) a) (va_A wc H.size))
    (hP : va_P D vwCl ws H) (hD : va_D A ws) (hS : va_S A s.heap H locs) (hA : ∀ q : Nat, s.heap.size ≤ q → A q) (hp : ws.Perm (wc ++ fr))
    (kk : ∀ (r : UInt32) (u : va_W) (H1 : Heap) (locs1 : List Loc), post r u → va_P D vwCl (u ++ fr) H1 → va_D A (u ++ fr) → va_S A s.heap H1 locs1 → W p l e R s m args below meth c H1 locs1 (cells + mc) (slots + ms) Q (F0 m (pc + 3) ls (.float r :: rest))) : W p l e R s m args below meth c H locs cells slots Q (F0 m pc ls st0) := by
  have hF := ub_freeP hD hS hA hp
  refine va_callf hr hS (fun q _ h => hF q h) hF (fun r' u t H1 locs1 ht hvm hw hB hz1 hk1 hS1 => ?_)
  obtain ⟨hP1, hD1⟩ := hB
  rw [ht] at hP1
  obtain ⟨g1, g2⟩ := ub_joinP hP hD hp hF hk1 hP1 hD1
  exact kk r' u H1 locs1 hw g1 g2 hS1
theorem us_callr {post : Nat → va_W → Prop} (hr : va_Run p l e R s m args below meth c H locs cells slots mc ms (F0 m pc ls st0) rest (va_Qr (fun (_ : va_W) => True) (fun u r t => post r u ∧ ub_pq D u (va_A wc H.size) t) (va_A wc H.size) a) (va_A wc H.size))
    (hP : va_P D vwCl ws H) (hD : va_D A ws) (hS : va_S A s.heap H locs) (hA : ∀ q : Nat, s.heap.size ≤ q → A q) (hp : ws.Perm (wc ++ fr))
    (kk : ∀ (r : Nat) (u : va_W) (H1 : Heap) (locs1 : List Loc), post r u → va_P D vwCl (u ++ fr) H1 → va_D A (u ++ fr) → va_S A s.heap H1 locs1 → W p l e R s m args below meth c H1 locs1 (cells + mc) (slots + ms) Q (F0 m (pc + 3) ls (.ref r :: rest))) : W p l e R s m args below meth c H locs cells slots Q (F0 m pc ls st0) := by
  have hF := ub_freeP hD hS hA hp
  refine va_callr hr hS (fun q _ h => hF q h) hF (fun u r t H1 locs1 ht hvm hw hB hz1 hk1 hS1 => ?_)
  obtain ⟨hw2, hP1, hD1⟩ := hB
  rw [ht] at hP1
  obtain ⟨g1, g2⟩ := ub_joinP hP hD hp hF hk1 hP1 hD1
  exact kk r u H1 locs1 hw2 g1 g2 hS1
end US2
section US3
variable {l : Launch} {y : MethodName} {rm : Room} {cc : ByteArray} {nL : Nat} {g : us_G} {wc : va_W} {sz : Nat} {av : List Value} {mc ms : Nat}
/-- contracts out of walks -/
theorem us_met_i {post : Int32 → va_W → Prop} {ret : FieldType} (hy : plainName y.cls = true) (hle : (lg_sl av).length ≤ nL)
    (body : ∀ (p : Program) (e : Env) (s : State) (m : MethodId) (args : Array Value) (below : List Frame) (meth : Method) (c : Code) (Q : State → Prop) (A : Nat → Prop), us_kx p s m args meth c cc nL y.cls g A →
      (∀ (r : Int32) (u : va_W) (H : Heap) (locs : List Loc) (pc : Nat) (ls : Array Slot), post r u → decode cc pc = .ok (.ireturn, 1) → narrow ret (.int r) = .int r → va_P g.1 vwCl u H → va_D A u → va_S A s.heap H locs → W p l e rm s m args below meth c H locs mc ms Q (F0 m pc ls [.int r])) →
      ∀ ls : Array Slot, lv_has ls nL (lv_args 0 av) → va_P g.1 vwCl wc s.heap → va_D A wc → va_S A s.heap s.heap [] → W p l e rm s m args below meth c s.heap [] 0 0 Q (F0 m 0 ls [])) :
    Met l y (Cond.code y cc nL (some ret) :: us_tb) rm (va_Pc av (us_pc g wc sz)) (va_Qi post (fun u t => ub_pq g.1 u (va_A wc sz) t) (va_A wc sz)) mc ms (va_A wc sz) := by
  refine Met.ofW (cc := cc) (maxL := nL) (ret := some ret) hy rfl ?_
  intro p e s m args below meth c s₁ B hml hv
  obtain ⟨rfl, hsz, hP, hK, hD0, hN, hZ⟩ := hv
  have hr := B.returns
  have hts := atoms_spec (ws := Cond.code y cc nL (some ret) :: us_tb) B.pre
  have hown : s.vm.findClass y.cls = some m.cls := findClass_of_methodNamed B.named
  have hlocks := B.notSynchronized
  subst hsz
  have hl := lv_entry av (n := nL) hle
  rw [lg_entry_eq]
  exact body p e s m av.toArray below meth c _ (va_A wc s.heap.size) ⟨B.exec, B.bytes, hml, hown, fun w hw => hts w (List.mem_cons_of_mem _ hw), hK, hN, fun q h => Or.inr h, hZ⟩
    (fun r u H locs pc ls hpost hd hnr hP hD hS => W.zret B.exec B.bytes hr hnr (fun t ht _ => ⟨⟨r, u, rfl, hpost, by rw [ht]; exact hP, hD⟩, hS.F ht⟩) hS.2.2 hd) _ hl hP hD0.self va_S.rf
theorem us_met_v {post : va_W → Prop} (hy : plainName y.cls = true) (hle : (lg_sl av).length ≤ nL)
    (body : ∀ (p : Program) (e : Env) (s : State) (m : MethodId) (args : Array Value) (below : List Frame) (meth : Method) (c : Code) (Q : State → Prop) (A : Nat → Prop), us_kx p s m args meth c cc nL y.cls g A → meth.name = y.name →
      (∀ (u : va_W) (H : Heap) (locs : List Loc) (pc : Nat) (ls : Array Slot), post u → decode cc pc = .ok (.return_, 1) → va_P g.1 vwCl u H → va_D A u → va_S A s.heap H locs → W p l e rm s m args below meth c H locs mc ms Q (F0 m pc ls [])) →
      ∀ ls : Array Slot, lv_has ls nL (lv_args 0 av) → va_P g.1 vwCl wc s.heap → va_D A wc → va_S A s.heap s.heap [] → W p l e rm s m args below meth c s.heap [] 0 0 Q (F0 m 0 ls [])) :
    Met l y (Cond.code y cc nL none :: us_tb) rm (va_Pc av (us_pc g wc sz)) (va_Qv post (fun u t => ub_pq g.1 u (va_A wc sz) t) (va_A wc sz)) mc ms (va_A wc sz) := by
  refine Met.ofW (cc := cc) (maxL := nL) (ret := none) hy rfl ?_
  intro p e s m args below meth c s₁ B hml hv
  obtain ⟨rfl, hsz, hP, hK, hD0, hN, hZ⟩ := hv
  have hr := B.returns
  have hts := atoms_spec (ws := Cond.code y cc nL none :: us_tb) B.pre
  have hown : s.vm.findClass y.cls = some m.cls := findClass_of_methodNamed B.named
  have hlocks := B.notSynchronized
  have hin : meth.name = y.name := (name_of_methodNamed B.named B.method).1
  subst hsz
  have hl := lv_entry av (n := nL) hle
  rw [lg_entry_eq]
  exact body p e s m av.toArray below meth c _ (va_A wc s.heap.size) ⟨B.exec, B.bytes, hml, hown, fun w hw => hts w (List.mem_cons_of_mem _ hw), hK, hN, fun q h => Or.inr h, hZ⟩ hin
    (fun u H locs pc ls hpost hd hP hD hS => W.vret B.exec B.bytes hr (fun t ht _ => ⟨⟨u, rfl, hpost, by rw [ht]; exact hP, hD⟩, hS.F ht⟩) hS.2.2 hd) _ hl hP hD0.self va_S.rf
theorem us_met_r {post : Nat → va_W → Prop} {rt : FieldType} (hrt : (∃ n, rt = .object n) ∨ ∃ t, rt = .array t) (hy : plainName y.cls = true) (hle : (lg_sl av).length ≤ nL)
    (body : ∀ (p : Program) (e : Env) (s : State) (m : MethodId) (args : Array Value) (below : List Frame) (meth : Method) (c : Code) (Q : State → Prop) (A : Nat → Prop), us_kx p s m args meth c cc nL y.cls g A →
      (∀ (r : Nat) (u : va_W) (H : Heap) (locs : List Loc) (pc : Nat) (ls : Array Slot), post r u → decode cc pc = .ok (.areturn, 1) → va_P g.1 vwCl u H → va_D A u → va_S A s.heap H locs → W p l e rm s m args below meth c H locs mc ms Q (F0 m pc ls [.ref r])) →
      ∀ ls : Array Slot, lv_has ls nL (lv_args 0 av) → va_P g.1 vwCl wc s.heap → va_D A wc → va_S A s.heap s.heap [] → W p l e rm s m args below meth c s.heap [] 0 0 Q (F0 m 0 ls [])) :
    Met l y (Cond.code y cc nL (some rt) :: us_tb) rm (va_Pc av (us_pc g wc sz)) (va_Qr (fun (_ : va_W) => True) (fun u r t => post r u ∧ ub_pq g.1 u (va_A wc sz) t) (va_A wc sz)) mc ms (va_A wc sz) := by
  refine Met.ofW (cc := cc) (maxL := nL) (ret := some rt) hy rfl ?_
  intro p e s m args below meth c s₁ B hml hv
  obtain ⟨rfl, hsz, hP, hK, hD0, hN, hZ⟩ := hv
  have hr := B.returns
  have hts := atoms_spec (ws := Cond.code y cc nL (some rt) :: us_tb) B.pre
  have hown : s.vm.findClass y.cls = some m.cls := findClass_of_methodNamed B.named
  have hlocks := B.notSynchronized
  subst hsz
  have hl := lv_entry av (n := nL) hle
  rw [lg_entry_eq]
  exact body p e s m av.toArray below meth c _ (va_A wc s.heap.size) ⟨B.exec, B.bytes, hml, hown, fun w hw => hts w (List.mem_cons_of_mem _ hw), hK, hN, fun q h => Or.inr h, hZ⟩
    (fun r u H locs pc ls hpost hd hP hD hS => W.aret B.exec B.bytes hr hrt (Or.inr ⟨r, rfl⟩) (fun t ht _ => ⟨⟨u, r, rfl, trivial, hpost, by rw [ht]; exact hP, hD⟩, hS.F ht⟩) hS.2.2 hd) _ hl hP hD0.self va_S.rf
end US3
