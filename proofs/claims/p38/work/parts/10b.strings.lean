/-! ===== floats: guards, ends ===== -/
def ub_n64 {β : Type} (r : UInt64) (k : Option β) : Option β := if r &&& 0x7fffffffffffffff ≤ 0x7ff0000000000000 then k else none
theorem ub_n64_some {β : Type} {x : UInt64} {k : Option β} {r : β} (h : ub_n64 x k = some r) : vf_n64 x ∧ k = some r := by
  unfold ub_n64 at h
  split at h
  · exact ⟨by assumption, h⟩
  · cases h
theorem ub_n64_of {β : Type} {x : UInt64} {k : Option β} (h : vf_n64 x) : ub_n64 x k = k := if_pos h
def ub_lt {β : Type} (i n : Nat) (k : Option β) : Option β := if i < n then k else none
theorem ub_lt_some {β : Type} {i n : Nat} {k : Option β} {r : β} (h : ub_lt i n k = some r) : i < n ∧ k = some r := by
  unfold ub_lt at h
  split at h
  · exact ⟨by assumption, h⟩
  · cases h
theorem ub_lt_of {β : Type} {i n : Nat} {k : Option β} (h : i < n) : ub_lt i n k = k := if_pos h
def ub_n32 {β : Type} (r : UInt32) (k : Option β) : Option β := if r &&& 0x7fffffff ≤ 0x7f800000 then k else none
theorem ub_n32_some {β : Type} {x : UInt32} {k : Option β} {r : β} (h : ub_n32 x k = some r) : vf_n32 x ∧ k = some r := by
  unfold ub_n32 at h
  split at h
  · exact ⟨by assumption, h⟩
  · cases h
theorem ub_n32_of {β : Type} {x : UInt32} {k : Option β} (h : vf_n32 x) : ub_n32 x k = k := if_pos h
/-! ===== String constants ===== -/
def ub_len : List Nat := [2, 4, 3, 6, 2, 1, 1, 4, 1, 0]
def ub_byt : List (List Int32) := [[114, 100], [118, 68, 58, 100], [115, 68, 63], [112, 68, 64, 68, 42, 100], [99, 68], [110], [104], [111, 68, 45, 100], [101], []]
def ub_six : List Nat := [71, 73, 75, 77, 79, 81, 83, 85, 87, 89]
def ub_stx : List String := ["rd", "vD:d", "sD?", "pD@D*d", "cD", "n", "h", "oD-d", "e", ""]
def ub_ch (i k : Nat) : Int32 := (ub_byt.getD i []).getD k 0
def ub_em (i : Nat) : Int32 := if ub_len.getD i 0 = 0 then 1 else 0
def ub_Z (adK adV : Nat → Nat) (A : Nat → Prop) (U : State) (H : Heap) : Prop :=
  vk_S 10 ub_len ub_byt adK adV A U H ∧ va_Z "java/lang/String" "COMPACT_STRINGS" "Z" (.int 1) A U H ∧ va_Zq "jdk/internal/util/Preconditions" "SIOOBE_FORMATTER" "Ljava/util/function/BiFunction;" A U H ∧ ∀ i : Nat, i < 10 → vk_R RX3 (ub_six.getD i 0) (ub_stx.getD i "") (adK i) U
def ub_pz (D : va_G) (cI cT : ClassId) (adK adV : Nat → Nat) (ws : va_W) (sz : Nat) (U : State) : Prop := ub_pc D cI cT ws sz U ∧ ub_Z adK adV (va_A ws sz) U U.heap
theorem ub_fbz {av : List Value} {D : va_G} {cI cT : ClassId} {adK adV : Nat → Nat} {ws : va_W} {sz : Nat} : FrameBlind (va_Pc av (ub_pz D cI cT adK adV ws sz)) := fun a U g mk q => by
  obtain ⟨q0, ⟨q1, q2, qK, qD, qN⟩, qZ⟩ := q
  exact ⟨q0, ⟨q1, q2, va_K.moved (u := U) (U := U.calling g mk a) (Vm.Alike.refl U.vm) qK, qD, ub_N.same (u := U) (U := U.calling g mk a) rfl qN⟩, vk_S.moved (u := U) (U := U.calling g mk a) (Vm.Alike.refl U.vm) qZ.1, va_Z.moved (u := U) (U := U.calling g mk a) (Vm.Alike.refl U.vm) qZ.2.1, va_Zq.moved (u := U) (U := U.calling g mk a) (Vm.Alike.refl U.vm) qZ.2.2.1, fun i hi => vk_R.same (u := U) (U := U.calling g mk a) rfl (qZ.2.2.2 i hi)⟩
section UB7
variable {s : State} {H : Heap} {D : va_G} {cI cT : ClassId} {A : Nat → Prop} {wc : va_W} {As : List Value} {adK adV : Nat → Nat} {locs : List Loc}
theorem ub_Z.to {U : State} (Z : ub_Z adK adV A s s.heap) (hS : va_S A s.heap H locs) (hF : ∀ q : Nat, va_A wc H.size q → A q) (hU : U.heap = H) (hW : s.WarmedH U.vm) : ub_Z adK adV (va_A wc H.size) U U.heap := by
  rw [hU]
  exact ⟨((Z.1.kept hS.2.1).narrow hF).moved hW.alike, ((Z.2.1.kept hS.2.1).narrow hF).moved hW.alike, ((Z.2.2.1.kept hS.2.1).narrow hF).moved hW.alike, fun i hi => (Z.2.2.2 i hi).warm hW⟩
theorem ub_preSz (Z : ub_Z adK adV A s s.heap) (hS : va_S A s.heap H locs) (hF : ∀ q : Nat, va_A wc H.size q → A q) (hP : va_P D vwCl wc H) (hD : va_D A wc) (hK : va_K D vwCl [(cI, .int), (cT, .object RX7)] s) (hN : ub_N s) : PreS s H (va_Pc As (ub_pz D cI cT adK adV wc H.size)) As :=
  ⟨ub_fbz, fun U hU hW => ⟨rfl, ⟨by rw [hU], by rw [hU]; exact hP, va_K.moved hW.alike hK, hD.weaken (fun _ _ _ _ => trivial), hN.warm hW⟩, Z.to hS hF hU hW⟩⟩
theorem ub_preVz {C : String} {b : Addr} (Z : ub_Z adK adV A s s.heap) (hS : va_S A s.heap H locs) (hF : ∀ q : Nat, va_A wc H.size q → A q) (hP : va_P D vwCl wc H) (hD : va_D A wc) (hK : va_K D vwCl [(cI, .int), (cT, .object RX7)] s) (hN : ub_N s) (q0 : Nat) {ci : Nat} {q : vw_C} {fs : List Value} (hc : vwCl[ci]? = some q) (hC : q.1 = C) (he : wc[q0]? = some (b, .inr (ci, fs))) : PreV s H C b (va_Pc (.ref b :: As) (ub_pz D cI cT adK adV wc H.size)) As :=
  ⟨ub_fbz, by rw [← hC]; exact va_recv hK hP hc he, fun U hU hW => ⟨rfl, ⟨by rw [hU], by rw [hU]; exact hP, va_K.moved hW.alike hK, hD.weaken (fun _ _ _ _ => trivial), hN.warm hW⟩, Z.to hS hF hU hW⟩⟩
/-- the receiver is a String constant -/
theorem ub_preVk {i : Nat} (hi : i < 10) (Z : ub_Z adK adV A s s.heap) (hS : va_S A s.heap H locs) (hF : ∀ q : Nat, va_A wc H.size q → A q) (hP : va_P D vwCl wc H) (hD : va_D A wc) (hK : va_K D vwCl [(cI, .int), (cT, .object RX7)] s) (hN : ub_N s) : PreV s H "java/lang/String" (adK i) (va_Pc (.ref (adK i) :: As) (ub_pz D cI cT adK adV wc H.size)) As :=
  ⟨ub_fbz, vk_recv Z.1 hi hS, fun U hU hW => ⟨rfl, ⟨by rw [hU], by rw [hU]; exact hP, va_K.moved hW.alike hK, hD.weaken (fun _ _ _ _ => trivial), hN.warm hW⟩, Z.to hS hF hU hW⟩⟩
end UB7
section UB8
variable {p : Program} {l : Launch} {e : Env} {R : Room} {s : State} {m : MethodId} {args : Array Value} {below : List Frame} {meth : Method} {c : Code} {H : Heap} {locs : List Loc} {cells slots : Nat} {Q : State → Prop}
variable {pc : Nat} {ls : Array Slot} {rest st0 : List Value} {a : Array Value} {A : Nat → Prop} {mc ms : Nat} {D : va_G} {ws wc w1 ws' : va_W}
/-- a call that answers a known reference and makes no cell -/
theorem ub_callr {r : Nat} (hr : va_Run p l e R s m args below meth c H locs cells slots mc ms (F0 m pc ls st0) rest (va_Qr (fun (_ : Unit) => True) (fun _ r' t => r' = r ∧ ub_pq D w1 (va_A wc H.size) t) (va_A wc H.size) a) (va_A wc H.size))
    (hP : va_P D vwCl ws H) (hD : va_D A ws) (hS : va_S A s.heap H locs) (hA : ∀ q : Nat, s.heap.size ≤ q → A q) (is : List Nat) (hC : is.map (fun i => ws[i]?) = wc.map some) (hn : va_nd is = true) (hf : w1.map (fun q => q.1) = wc.map (fun q => q.1)) (hws : ub_mg ws is w1 = ws')
    (kk : ∀ (H1 : Heap) (locs1 : List Loc), va_P D vwCl ws' H1 → va_D A ws' → va_S A s.heap H1 locs1 → W p l e R s m args below meth c H1 locs1 (cells + mc) (slots + ms) Q (F0 m (pc + 3) ls (.ref r :: rest))) : W p l e R s m args below meth c H locs cells slots Q (F0 m pc ls st0) := by
  have hF := va_free (wc := wc) hD hS hA is hC
  refine va_callr hr hS (fun q _ h => hF q h) hF (fun u a t H1 locs1 ht hvm hw hB hz1 hk1 hS1 => ?_)
  obtain ⟨ea, hP1, hD1⟩ := hB
  subst ea
  rw [ht] at hP1
  obtain ⟨g1, g2⟩ := ub_back hP hD is hC hn hf hk1 hP1
  rw [hws] at g1 g2
  exact kk H1 locs1 g1 g2 hS1
end UB8
section UB9
variable {l : Launch} {y : MethodName} {ws ws' : List Cond} {rm : Room} {cc : ByteArray} {nL : Nat} {D : va_G} {cI cT : ClassId} {wc w1 : va_W} {sz : Nat} {av : List Value} {mc ms : Nat} {adK adV : Nat → Nat}
/-- an int, with the String constants -/
theorem ub_met_iz {r : Int32} {ret : FieldType} (hy : plainFor y = true) (hw : ws = Cond.code y cc nL (some ret) :: ws') (hle : (lg_sl av).length ≤ nL)
    (body : ∀ (p : Program) (e : Env) (s : State) (m : MethodId) (args : Array Value) (below : List Frame) (meth : Method) (c : Code) (Q : State → Prop) (A : Nat → Prop), ub_kx p s m args meth c cc nL y.cls ws D cI cT A → ub_Z adK adV A s s.heap → 
      (∀ (H : Heap) (locs : List Loc) (pc : Nat) (ls : Array Slot), decode cc pc = .ok (.ireturn, 1) → narrow ret (.int r) = .int r → va_P D vwCl w1 H → va_D A w1 → va_S A s.heap H locs → W p l e rm s m args below meth c H locs mc ms Q (F0 m pc ls [.int r])) →
      ∀ ls : Array Slot, lv_has ls nL (lv_args 0 av) → va_P D vwCl wc s.heap → va_D A wc → va_S A s.heap s.heap [] → W p l e rm s m args below meth c s.heap [] 0 0 Q (F0 m 0 ls [])) :
    Met l y ws rm (va_Pc av (ub_pz D cI cT adK adV wc sz)) (va_Qi (fun (r' : Int32) (_ : Unit) => r' = r) (fun _ t => ub_pq D w1 (va_A wc sz) t) (va_A wc sz)) mc ms (va_A wc sz) := by
  refine ub_ofWF (cc := cc) (maxL := nL) (ret := (some ret)) hy hw ?_
  intro p e s m args below meth c s₁ B hml hv
  obtain ⟨rfl, ⟨hsz, hP, hK, hD0, hN⟩, hZ⟩ := hv
  have hr := B.returns
  have hts := atoms_spec (ws := ws) B.pre
  have hown : s.vm.findClass y.cls = some m.cls := findClass_of_methodNamed B.named
  have hlocks := B.notSynchronized
  subst hsz
  have hl := lv_entry av (n := nL) hle
  rw [lg_entry_eq]
  exact body p e s m av.toArray below meth c _ (va_A wc s.heap.size) ⟨B.exec, B.bytes, hml, hown, hts, hK, hN, fun q h => Or.inr h⟩ hZ
    (fun H locs pc ls hd hnr hP hD hS => W.zret B.exec B.bytes hr hnr (fun t ht _ => ⟨⟨r, (), rfl, rfl, by rw [ht]; exact hP, hD⟩, hS.F ht⟩) hS.2.2 hd) _ hl hP hD0.self va_S.rf
/-- nothing is answered, with the String constants -/
theorem ub_met_vz (hy : plainFor y = true) (hw : ws = Cond.code y cc nL none :: ws') (hle : (lg_sl av).length ≤ nL)
    (body : ∀ (p : Program) (e : Env) (s : State) (m : MethodId) (args : Array Value) (below : List Frame) (meth : Method) (c : Code) (Q : State → Prop) (A : Nat → Prop), ub_kx p s m args meth c cc nL y.cls ws D cI cT A → ub_Z adK adV A s s.heap → 
      (∀ (H : Heap) (locs : List Loc) (pc : Nat) (ls : Array Slot), decode cc pc = .ok (.return_, 1) → va_P D vwCl w1 H → va_D A w1 → va_S A s.heap H locs → W p l e rm s m args below meth c H locs mc ms Q (F0 m pc ls [])) →
      ∀ ls : Array Slot, lv_has ls nL (lv_args 0 av) → va_P D vwCl wc s.heap → va_D A wc → va_S A s.heap s.heap [] → W p l e rm s m args below meth c s.heap [] 0 0 Q (F0 m 0 ls [])) :
    Met l y ws rm (va_Pc av (ub_pz D cI cT adK adV wc sz)) (va_Qv (fun (_ : Unit) => True) (fun _ t => ub_pq D w1 (va_A wc sz) t) (va_A wc sz)) mc ms (va_A wc sz) := by
  refine ub_ofWF (cc := cc) (maxL := nL) (ret := none) hy hw ?_
  intro p e s m args below meth c s₁ B hml hv
  obtain ⟨rfl, ⟨hsz, hP, hK, hD0, hN⟩, hZ⟩ := hv
  have hr := B.returns
  have hts := atoms_spec (ws := ws) B.pre
  have hown : s.vm.findClass y.cls = some m.cls := findClass_of_methodNamed B.named
  have hlocks := B.notSynchronized
  subst hsz
  have hl := lv_entry av (n := nL) hle
  rw [lg_entry_eq]
  exact body p e s m av.toArray below meth c _ (va_A wc s.heap.size) ⟨B.exec, B.bytes, hml, hown, hts, hK, hN, fun q h => Or.inr h⟩ hZ
    (fun H locs pc ls hd hP hD hS => W.vret B.exec B.bytes hr (fun t ht _ => ⟨⟨(), rfl, trivial, by rw [ht]; exact hP, hD⟩, hS.F ht⟩) hS.2.2 hd) _ hl hP hD0.self va_S.rf
/-- a known reference, with the String constants -/
theorem ub_met_rz {r : Nat} {C : String} (hy : plainFor y = true) (hw : ws = Cond.code y cc nL (some (.object C)) :: ws') (hle : (lg_sl av).length ≤ nL)
    (body : ∀ (p : Program) (e : Env) (s : State) (m : MethodId) (args : Array Value) (below : List Frame) (meth : Method) (c : Code) (Q : State → Prop) (A : Nat → Prop), ub_kx p s m args meth c cc nL y.cls ws D cI cT A → ub_Z adK adV A s s.heap → 
      (∀ (H : Heap) (locs : List Loc) (pc : Nat) (ls : Array Slot), decode cc pc = .ok (.areturn, 1) → va_P D vwCl w1 H → va_D A w1 → va_S A s.heap H locs → W p l e rm s m args below meth c H locs mc ms Q (F0 m pc ls [.ref r])) →
      ∀ ls : Array Slot, lv_has ls nL (lv_args 0 av) → va_P D vwCl wc s.heap → va_D A wc → va_S A s.heap s.heap [] → W p l e rm s m args below meth c s.heap [] 0 0 Q (F0 m 0 ls [])) :
    Met l y ws rm (va_Pc av (ub_pz D cI cT adK adV wc sz)) (va_Qr (fun (_ : Unit) => True) (fun _ r' t => r' = r ∧ ub_pq D w1 (va_A wc sz) t) (va_A wc sz)) mc ms (va_A wc sz) := by
  refine ub_ofWF (cc := cc) (maxL := nL) (ret := (some (.object C))) hy hw ?_
  intro p e s m args below meth c s₁ B hml hv
  obtain ⟨rfl, ⟨hsz, hP, hK, hD0, hN⟩, hZ⟩ := hv
  have hr := B.returns
  have hts := atoms_spec (ws := ws) B.pre
  have hown : s.vm.findClass y.cls = some m.cls := findClass_of_methodNamed B.named
  have hlocks := B.notSynchronized
  subst hsz
  have hl := lv_entry av (n := nL) hle
  rw [lg_entry_eq]
  exact body p e s m av.toArray below meth c _ (va_A wc s.heap.size) ⟨B.exec, B.bytes, hml, hown, hts, hK, hN, fun q h => Or.inr h⟩ hZ
    (fun H locs pc ls hd hP hD hS => W.aret B.exec B.bytes hr (Or.inl ⟨_, rfl⟩) (Or.inr ⟨_, rfl⟩) (fun t ht _ => ⟨⟨(), r, rfl, trivial, rfl, by rw [ht]; exact hP, hD⟩, hS.F ht⟩) hS.2.2 hd) _ hl hP hD0.self va_S.rf
/-- a double -/
theorem ub_met_d {r : UInt64} (hy : plainFor y = true) (hw : ws = Cond.code y cc nL (some .double) :: ws') (hle : (lg_sl av).length ≤ nL)
    (body : ∀ (p : Program) (e : Env) (s : State) (m : MethodId) (args : Array Value) (below : List Frame) (meth : Method) (c : Code) (Q : State → Prop) (A : Nat → Prop), ub_kx p s m args meth c cc nL y.cls ws D cI cT A → 
      (∀ (H : Heap) (locs : List Loc) (pc : Nat) (ls : Array Slot), decode cc pc = .ok (.dreturn, 1) → va_P D vwCl w1 H → va_D A w1 → va_S A s.heap H locs → W p l e rm s m args below meth c H locs mc ms Q (F0 m pc ls [.double r])) →
      ∀ ls : Array Slot, lv_has ls nL (lv_args 0 av) → va_P D vwCl wc s.heap → va_D A wc → va_S A s.heap s.heap [] → W p l e rm s m args below meth c s.heap [] 0 0 Q (F0 m 0 ls [])) :
    Met l y ws rm (va_Pc av (ub_pc D cI cT wc sz)) (va_Qd (fun (r' : UInt64) (_ : Unit) => r' = r) (fun _ t => ub_pq D w1 (va_A wc sz) t) (va_A wc sz)) mc ms (va_A wc sz) := by
  refine ub_ofWF (cc := cc) (maxL := nL) (ret := (some .double)) hy hw ?_
  intro p e s m args below meth c s₁ B hml hv
  obtain ⟨rfl, hsz, hP, hK, hD0, hN⟩ := hv
  have hr := B.returns
  have hts := atoms_spec (ws := ws) B.pre
  have hown : s.vm.findClass y.cls = some m.cls := findClass_of_methodNamed B.named
  have hlocks := B.notSynchronized
  subst hsz
  have hl := lv_entry av (n := nL) hle
  rw [lg_entry_eq]
  exact body p e s m av.toArray below meth c _ (va_A wc s.heap.size) ⟨B.exec, B.bytes, hml, hown, hts, hK, hN, fun q h => Or.inr h⟩ 
    (fun H locs pc ls hd hP hD hS => W.dret B.exec B.bytes hr (fun t ht _ => ⟨⟨r, (), rfl, rfl, by rw [ht]; exact hP, hD⟩, hS.F ht⟩) hS.2.2 hd) _ hl hP hD0.self va_S.rf
/-- a float -/
theorem ub_met_f {r : UInt32} (hy : plainFor y = true) (hw : ws = Cond.code y cc nL (some .float) :: ws') (hle : (lg_sl av).length ≤ nL)
    (body : ∀ (p : Program) (e : Env) (s : State) (m : MethodId) (args : Array Value) (below : List Frame) (meth : Method) (c : Code) (Q : State → Prop) (A : Nat → Prop), ub_kx p s m args meth c cc nL y.cls ws D cI cT A → 
      (∀ (H : Heap) (locs : List Loc) (pc : Nat) (ls : Array Slot), decode cc pc = .ok (.freturn, 1) → va_P D vwCl w1 H → va_D A w1 → va_S A s.heap H locs → W p l e rm s m args below meth c H locs mc ms Q (F0 m pc ls [.float r])) →
      ∀ ls : Array Slot, lv_has ls nL (lv_args 0 av) → va_P D vwCl wc s.heap → va_D A wc → va_S A s.heap s.heap [] → W p l e rm s m args below meth c s.heap [] 0 0 Q (F0 m 0 ls [])) :
    Met l y ws rm (va_Pc av (ub_pc D cI cT wc sz)) (va_Qf (fun (r' : UInt32) (_ : Unit) => r' = r) (fun _ t => ub_pq D w1 (va_A wc sz) t) (va_A wc sz)) mc ms (va_A wc sz) := by
  refine ub_ofWF (cc := cc) (maxL := nL) (ret := (some .float)) hy hw ?_
  intro p e s m args below meth c s₁ B hml hv
  obtain ⟨rfl, hsz, hP, hK, hD0, hN⟩ := hv
  have hr := B.returns
  have hts := atoms_spec (ws := ws) B.pre
  have hown : s.vm.findClass y.cls = some m.cls := findClass_of_methodNamed B.named
  have hlocks := B.notSynchronized
  subst hsz
  have hl := lv_entry av (n := nL) hle
  rw [lg_entry_eq]
  exact body p e s m av.toArray below meth c _ (va_A wc s.heap.size) ⟨B.exec, B.bytes, hml, hown, hts, hK, hN, fun q h => Or.inr h⟩ 
    (fun H locs pc ls hd hP hD hS => W.fret B.exec B.bytes hr (fun t ht _ => ⟨⟨r, (), rfl, rfl, by rw [ht]; exact hP, hD⟩, hS.F ht⟩) hS.2.2 hd) _ hl hP hD0.self va_S.rf
/-- an int, with the String constants and the pool -/
theorem ub_met_izp {w1 : ubG → va_W} {K' : Nat → Option ubT} {r : Int32} {ret : FieldType} (hy : plainFor y = true) (hw : ws = Cond.code y cc nL (some ret) :: ws') (hle : (lg_sl av).length ≤ nL)
    (body : ∀ (p : Program) (e : Env) (s : State) (m : MethodId) (args : Array Value) (below : List Frame) (meth : Method) (c : Code) (Q : State → Prop) (A : Nat → Prop), ub_kx p s m args meth c cc nL y.cls ws D cI cT A → ub_Z adK adV A s s.heap → 
      (∀ (G : ubG) (H : Heap) (locs : List Loc) (pc : Nat) (ls : Array Slot), ub_cn G = K' → decode cc pc = .ok (.ireturn, 1) → narrow ret (.int r) = .int r → va_P D vwCl (w1 G) H → va_D A (w1 G) → va_S A s.heap H locs → W p l e rm s m args below meth c H locs mc ms Q (F0 m pc ls [.int r])) →
      ∀ ls : Array Slot, lv_has ls nL (lv_args 0 av) → va_P D vwCl wc s.heap → va_D A wc → va_S A s.heap s.heap [] → W p l e rm s m args below meth c s.heap [] 0 0 Q (F0 m 0 ls [])) :
    Met l y ws rm (va_Pc av (ub_pz D cI cT adK adV wc sz)) (va_Qi (fun (r' : Int32) (_ : ubG) => r' = r) (fun G' t => ub_cn G' = K' ∧ ub_pq D (w1 G') (va_A wc sz) t) (va_A wc sz)) mc ms (va_A wc sz) := by
  refine ub_ofWF (cc := cc) (maxL := nL) (ret := (some ret)) hy hw ?_
  intro p e s m args below meth c s₁ B hml hv
  obtain ⟨rfl, ⟨hsz, hP, hK, hD0, hN⟩, hZ⟩ := hv
  have hr := B.returns
  have hts := atoms_spec (ws := ws) B.pre
  have hown : s.vm.findClass y.cls = some m.cls := findClass_of_methodNamed B.named
  have hlocks := B.notSynchronized
  subst hsz
  have hl := lv_entry av (n := nL) hle
  rw [lg_entry_eq]
  exact body p e s m av.toArray below meth c _ (va_A wc s.heap.size) ⟨B.exec, B.bytes, hml, hown, hts, hK, hN, fun q h => Or.inr h⟩ hZ
    (fun G H locs pc ls hG hd hnr hP hD hS => W.zret B.exec B.bytes hr hnr (fun t ht _ => ⟨⟨r, G, rfl, rfl, hG, by rw [ht]; exact hP, hD⟩, hS.F ht⟩) hS.2.2 hd) _ hl hP hD0.self va_S.rf
end UB9
theorem uvJ0_coder_7d493_1 : Cond.fieldLink RJ0 38 "java/lang/String" "COMPACT_STRINGS" "Z" ∈ wsJ0_coder_7d493 := List.mem_cons_of_mem _ us_m590
theorem uvJ0_coder_7d493_2 : Cond.fieldLink RJ0 15 "java/lang/String" "coder" "B" ∈ wsJ0_coder_7d493 := List.mem_cons_of_mem _ us_m1024
theorem uvJ0_isLatin1_aae02_1 : Cond.fieldLink RJ0 38 "java/lang/String" "COMPACT_STRINGS" "Z" ∈ wsJ0_isLatin1_aae02 := List.mem_cons_of_mem _ us_m590
theorem uvJ0_isLatin1_aae02_2 : Cond.fieldLink RJ0 15 "java/lang/String" "coder" "B" ∈ wsJ0_isLatin1_aae02 := List.mem_cons_of_mem _ us_m1024
theorem uvJ0_length_8abf5_1 : Cond.fieldLink RJ0 9 "java/lang/String" "value" "[B" ∈ wsJ0_length_8abf5 := List.mem_cons_of_mem _ us_m1023
theorem uvJ0_isEmpty_aae02_1 : Cond.fieldLink RJ0 9 "java/lang/String" "value" "[B" ∈ wsJ0_isEmpty_aae02 := List.mem_cons_of_mem _ us_m1023
theorem uvJ0_checkIndex_df160_1 : Cond.fieldLink RJ0 1053 "jdk/internal/util/Preconditions" "SIOOBE_FORMATTER" "Ljava/util/function/BiFunction;" ∈ wsJ0_checkIndex_df160 := List.mem_cons_of_mem _ us_m606
theorem uvJ0_charAt_5068e_1 : Cond.fieldLink RJ0 9 "java/lang/String" "value" "[B" ∈ wsJ0_charAt_5068e := List.mem_cons_of_mem _ us_m1023
theorem uhJ0_coder_7d493 : yJ0_coder_7d493.cls ≠ "java/lang/invoke/MethodHandle" ∧ yJ0_coder_7d493.cls ≠ "java/lang/invoke/VarHandle" ∧ (parseMethodDescriptor yJ0_coder_7d493.desc).map (fun d => d.parameters.length) = some 0 := by decide +kernel
theorem uhJ0_isLatin1_aae02 : yJ0_isLatin1_aae02.cls ≠ "java/lang/invoke/MethodHandle" ∧ yJ0_isLatin1_aae02.cls ≠ "java/lang/invoke/VarHandle" ∧ (parseMethodDescriptor yJ0_isLatin1_aae02.desc).map (fun d => d.parameters.length) = some 0 := by decide +kernel
theorem uhJ0_length_8abf5 : yJ0_length_8abf5.cls ≠ "java/lang/invoke/MethodHandle" ∧ yJ0_length_8abf5.cls ≠ "java/lang/invoke/VarHandle" ∧ (parseMethodDescriptor yJ0_length_8abf5.desc).map (fun d => d.parameters.length) = some 0 := by decide +kernel
theorem uhJ0_isEmpty_aae02 : yJ0_isEmpty_aae02.cls ≠ "java/lang/invoke/MethodHandle" ∧ yJ0_isEmpty_aae02.cls ≠ "java/lang/invoke/VarHandle" ∧ (parseMethodDescriptor yJ0_isEmpty_aae02.desc).map (fun d => d.parameters.length) = some 0 := by decide +kernel
theorem uhJ3_checkIndex_8e157 : yJ3_checkIndex_8e157.cls ≠ "java/lang/invoke/MethodHandle" ∧ yJ3_checkIndex_8e157.cls ≠ "java/lang/invoke/VarHandle" ∧ (parseMethodDescriptor yJ3_checkIndex_8e157.desc).map (fun d => d.parameters.length) = some 3 := by decide +kernel
theorem uhJ0_checkIndex_df160 : yJ0_checkIndex_df160.cls ≠ "java/lang/invoke/MethodHandle" ∧ yJ0_checkIndex_df160.cls ≠ "java/lang/invoke/VarHandle" ∧ (parseMethodDescriptor yJ0_checkIndex_df160.desc).map (fun d => d.parameters.length) = some 2 := by decide +kernel
theorem uhJ1_charAt_3b067 : yJ1_charAt_3b067.cls ≠ "java/lang/invoke/MethodHandle" ∧ yJ1_charAt_3b067.cls ≠ "java/lang/invoke/VarHandle" ∧ (parseMethodDescriptor yJ1_charAt_3b067.desc).map (fun d => d.parameters.length) = some 2 := by decide +kernel
theorem uhJ0_charAt_5068e : yJ0_charAt_5068e.cls ≠ "java/lang/invoke/MethodHandle" ∧ yJ0_charAt_5068e.cls ≠ "java/lang/invoke/VarHandle" ∧ (parseMethodDescriptor yJ0_charAt_5068e.desc).map (fun d => d.parameters.length) = some 1 := by decide +kernel
theorem uhX3_shapeOf : yX3_shapeOf.cls ≠ "java/lang/invoke/MethodHandle" ∧ yX3_shapeOf.cls ≠ "java/lang/invoke/VarHandle" ∧ (parseMethodDescriptor yX3_shapeOf.desc).map (fun d => d.parameters.length) = some 1 := by decide +kernel
set_option maxHeartbeats 4000000 in
set_option maxRecDepth 100000 in
theorem ucJ0_coder_7d493 (l : Launch) (D : va_G) (cI cT : ClassId) {adK adV : Nat → Nat} {i : Nat} (hi : i < 10) {sz : Nat} : Met l yJ0_coder_7d493 wsJ0_coder_7d493 ({ frames := 0, cells := 0, slots := 0, locals := 0 } : Room) (va_Pc [.ref (adK i)] (ub_pz D cI cT adK adV [] sz)) (va_Qi (fun (r' : Int32) (_ : Unit) => r' = 0) (fun _ t => ub_pq D [] (va_A [] sz) t) (va_A [] sz)) 0 0 (va_A [] sz) := by
  refine ub_met_iz (by decide +kernel) rfl (Nat.le_of_ble_eq_true rfl) ?_
  intro p e s m args below meth c Q A K Z hret ls hl hP hD hS
  obtain ⟨hx, hb, hml, hown, hts, hK, hN, hA⟩ := K
  refine va_gets hx hb Z.2.1 hS hown (hts _ uvJ0_coder_7d493_1) (fun _ h9 => h9) dJ0_coder_7d493_0 ?_
  refine lv_if_eq (tgt := 13) hx hb dJ0_coder_7d493_3 (by decide) (fun c => absurd c (by decide)) (fun _ => ?_)
  refine lv_aload_n hx hb dJ0_coder_7d493_6 rfl (lv_at hl 0 rfl) ?_
  refine vk_getf hx hb (Z.1.1 i hi).2.1 hS hown (hts _ uvJ0_coder_7d493_2) (fun _ h9 => h9) dJ0_coder_7d493_7 ?_
  refine lv_goto (tgt := 14) hx hb dJ0_coder_7d493_10 (by decide) ?_
  exact hret _ _ _ ls dJ0_coder_7d493_14 rfl hP hD hS
set_option maxHeartbeats 4000000 in
set_option maxRecDepth 100000 in
theorem ucJ0_isLatin1_aae02 (l : Launch) (D : va_G) (cI cT : ClassId) {adK adV : Nat → Nat} {i : Nat} (hi : i < 10) {sz : Nat} : Met l yJ0_isLatin1_aae02 wsJ0_isLatin1_aae02 ({ frames := 0, cells := 0, slots := 0, locals := 0 } : Room) (va_Pc [.ref (adK i)] (ub_pz D cI cT adK adV [] sz)) (va_Qi (fun (r' : Int32) (_ : Unit) => r' = 1) (fun _ t => ub_pq D [] (va_A [] sz) t) (va_A [] sz)) 0 0 (va_A [] sz) := by
  refine ub_met_iz (by decide +kernel) rfl (Nat.le_of_ble_eq_true rfl) ?_
  intro p e s m args below meth c Q A K Z hret ls hl hP hD hS
  obtain ⟨hx, hb, hml, hown, hts, hK, hN, hA⟩ := K
  refine va_gets hx hb Z.2.1 hS hown (hts _ uvJ0_isLatin1_aae02_1) (fun _ h9 => h9) dJ0_isLatin1_aae02_0 ?_
  refine lv_if_eq (tgt := 17) hx hb dJ0_isLatin1_aae02_3 (by decide) (fun c => absurd c (by decide)) (fun _ => ?_)
  refine lv_aload_n hx hb dJ0_isLatin1_aae02_6 rfl (lv_at hl 0 rfl) ?_
  refine vk_getf hx hb (Z.1.1 i hi).2.1 hS hown (hts _ uvJ0_isLatin1_aae02_2) (fun _ h9 => h9) dJ0_isLatin1_aae02_7 ?_
  refine lv_if_ne (tgt := 17) hx hb dJ0_isLatin1_aae02_10 (by decide) (fun c => absurd rfl c) (fun _ => ?_)
  refine lv_iconst (v := 1) hx hb dJ0_isLatin1_aae02_13 (by decide) ?_
  refine lv_goto (tgt := 18) hx hb dJ0_isLatin1_aae02_14 (by decide) ?_
  exact hret _ _ _ ls dJ0_isLatin1_aae02_18 rfl hP hD hS
theorem ub_len_b : ∀ i : Nat, i < 10 → ub_len.getD i 0 < 2 ^ 31 := by decide
theorem ub_len_s : ∀ i : Nat, i < 10 → nI (ub_len.getD i 0) >>> ((0 : Int32) &&& 31) = nI (ub_len.getD i 0) := by decide
theorem ub_em_s : ∀ i : Nat, i < 10 → (nI (ub_len.getD i 0) = 0 → ub_em i = 1) ∧ (¬ nI (ub_len.getD i 0) = 0 → ub_em i = 0) := by decide
theorem ub_ch_s : ∀ i : Nat, i < 10 → ∀ k : Nat, k < ub_len.getD i 0 → (((ub_byt.getD i []).getD k 0 &&& 255).toUInt32 % 65536).toInt32 = ub_ch i k ∧ narrow .char (.int (ub_ch i k)) = .int (ub_ch i k) := by decide +kernel
set_option maxHeartbeats 4000000 in
set_option maxRecDepth 100000 in
theorem ucJ0_length_8abf5 (l : Launch) (D : va_G) (cI cT : ClassId) {adK adV : Nat → Nat} {i : Nat} (hi : i < 10) {sz : Nat} : Met l yJ0_length_8abf5 wsJ0_length_8abf5 ({ frames := 1, cells := 0, slots := 0, locals := 20 } : Room) (va_Pc [.ref (adK i)] (ub_pz D cI cT adK adV [] sz)) (va_Qi (fun (r' : Int32) (_ : Unit) => r' = nI (ub_len.getD i 0)) (fun _ t => ub_pq D [] (va_A [] sz) t) (va_A [] sz)) 0 0 (va_A [] sz) := by
  refine ub_met_iz (by decide +kernel) rfl (Nat.le_of_ble_eq_true rfl) ?_
  intro p e s m args below meth c Q A K Z hret ls hl hP hD hS
  obtain ⟨hx, hb, hml, hown, hts, hK, hN, hA⟩ := K
  refine lv_aload_n hx hb dJ0_length_8abf5_0 rfl (lv_at hl 0 rfl) ?_
  refine vk_getf hx hb (Z.1.1 i hi).2.2.1 hS hown (hts _ uvJ0_length_8abf5_1) (fun _ h9 => h9) dJ0_length_8abf5_1 ?_
  refine va_tlen hx hb (Z.1.1 i hi).2.2.2 hS (v := nI (ub_len.getD i 0)) rfl dJ0_length_8abf5_4 ?_
  refine lv_aload_n hx hb dJ0_length_8abf5_5 rfl (lv_at hl 0 rfl) ?_
  have hPc : va_P D vwCl ([] : va_W) _ := ub_pickP hP [] rfl
  have hDc : va_D A ([] : va_W) := hD.sub [] (by decide) rfl
  have hFc := va_free (wc := ([] : va_W)) hD hS hA [] rfl
  refine ub_calli (ws' := []) (va_runV (As := []) (rest := [.int (nI (ub_len.getD i 0))]) ⟨hx, hb, hml, hown, hts⟩ (ucJ0_coder_7d493 l D cI cT hi) (cwV 0 hts gJ0_length_8abf5_J0_coder_7d493 rfl rfl rfl ⟨rfl, uhJ0_coder_7d493⟩ ⟨Nat.le_of_ble_eq_true rfl, Nat.le_of_ble_eq_true rfl⟩) (ub_preVk hi Z hS hFc hPc hDc hK hN) rfl rfl hl.1 rfl (lv_room (Nat.le_of_ble_eq_true rfl)) dJ0_length_8abf5_6 ⟨Nat.le_of_ble_eq_true rfl, Nat.le_of_ble_eq_true rfl⟩) hP hD hS hA [] rfl (by decide) rfl rfl (fun H locs hP hD hS => ?_)
  refine lv_ishr hx hb dJ0_length_8abf5_9 ?_
  refine ub_topi (ub_len_s i hi).symm ?_
  exact hret _ _ _ ls dJ0_length_8abf5_10 rfl hP hD hS
set_option maxHeartbeats 4000000 in
set_option maxRecDepth 100000 in
theorem ucJ0_isEmpty_aae02 (l : Launch) (D : va_G) (cI cT : ClassId) {adK adV : Nat → Nat} {i : Nat} (hi : i < 10) {sz : Nat} : Met l yJ0_isEmpty_aae02 wsJ0_isEmpty_aae02 ({ frames := 0, cells := 0, slots := 0, locals := 0 } : Room) (va_Pc [.ref (adK i)] (ub_pz D cI cT adK adV [] sz)) (va_Qi (fun (r' : Int32) (_ : Unit) => r' = ub_em i) (fun _ t => ub_pq D [] (va_A [] sz) t) (va_A [] sz)) 0 0 (va_A [] sz) := by
  refine ub_met_iz (by decide +kernel) rfl (Nat.le_of_ble_eq_true rfl) ?_
  intro p e s m args below meth c Q A K Z hret ls hl hP hD hS
  obtain ⟨hx, hb, hml, hown, hts, hK, hN, hA⟩ := K
  refine lv_aload_n hx hb dJ0_isEmpty_aae02_0 rfl (lv_at hl 0 rfl) ?_
  refine vk_getf hx hb (Z.1.1 i hi).2.2.1 hS hown (hts _ uvJ0_isEmpty_aae02_1) (fun _ h9 => h9) dJ0_isEmpty_aae02_1 ?_
  refine va_tlen hx hb (Z.1.1 i hi).2.2.2 hS (v := nI (ub_len.getD i 0)) rfl dJ0_isEmpty_aae02_4 ?_
  refine lv_if_ne (tgt := 12) hx hb dJ0_isEmpty_aae02_5 (by decide) (fun c => ?_) (fun c => ?_)
  · refine lv_iconst (v := 0) hx hb dJ0_isEmpty_aae02_12 (by decide) ?_
    refine ub_topi ((ub_em_s i hi).2 c) ?_
    exact hret _ _ _ ls dJ0_isEmpty_aae02_13 (by rw [(ub_em_s i hi).2 c]; rfl) hP hD hS
  · refine lv_iconst (v := 1) hx hb dJ0_isEmpty_aae02_8 (by decide) ?_
    refine lv_goto (tgt := 13) hx hb dJ0_isEmpty_aae02_9 (by decide) ?_
    refine ub_topi ((ub_em_s i hi).1 c) ?_
    exact hret _ _ _ ls dJ0_isEmpty_aae02_13 (by rw [(ub_em_s i hi).1 c]; rfl) hP hD hS
set_option maxHeartbeats 4000000 in
set_option maxRecDepth 100000 in
theorem ucJ3_checkIndex_8e157 (l : Launch) (D : va_G) (cI cT : ClassId) {adK adV : Nat → Nat} {k n : Nat} {v : Value} (hv : v = .null ∨ ∃ t : Nat, v = .ref t) (hk : k < n) (hn : n < 2 ^ 31) {sz : Nat} : Met l yJ3_checkIndex_8e157 wsJ3_checkIndex_8e157 ({ frames := 0, cells := 0, slots := 0, locals := 0 } : Room) (va_Pc [.int (nI k), .int (nI n), v] (ub_pz D cI cT adK adV [] sz)) (va_Qi (fun (r' : Int32) (_ : Unit) => r' = nI k) (fun _ t => ub_pq D [] (va_A [] sz) t) (va_A [] sz)) 0 0 (va_A [] sz) := by
  rcases hv with rfl | ⟨t, rfl⟩
  all_goals
    refine ub_met_iz (by decide +kernel) rfl (Nat.le_of_ble_eq_true rfl) ?_
    intro p e s m args below meth c Q A K Z hret ls hl hP hD hS
    obtain ⟨hx, hb, hml, hown, hts, hK, hN, hA⟩ := K
    refine lv_iload_n hx hb dJ3_checkIndex_8e157_0 rfl (lv_at hl 0 rfl) ?_
    refine lv_if_lt (tgt := 9) hx hb dJ3_checkIndex_8e157_1 (by decide) (fun c => absurd c (nI_pos (by omega))) (fun _ => ?_)
    refine lv_iload_n hx hb dJ3_checkIndex_8e157_4 rfl (lv_at hl 0 rfl) ?_
    refine lv_iload_n hx hb dJ3_checkIndex_8e157_5 rfl (lv_at hl 1 rfl) ?_
    refine lv_icmp_lt (tgt := 16) hx hb dJ3_checkIndex_8e157_6 (by decide) (fun _ => ?_) (fun c => absurd (nI_lt hk hn) c)
    refine lv_iload_n hx hb dJ3_checkIndex_8e157_16 rfl (lv_at hl 0 rfl) ?_
    exact hret _ _ _ ls dJ3_checkIndex_8e157_17 rfl hP hD hS
set_option maxHeartbeats 4000000 in
set_option maxRecDepth 100000 in
theorem ucJ0_checkIndex_df160 (l : Launch) (D : va_G) (cI cT : ClassId) {adK adV : Nat → Nat} {k n : Nat} (hk : k < n) (hn : n < 2 ^ 31) {sz : Nat} : Met l yJ0_checkIndex_df160 wsJ0_checkIndex_df160 ({ frames := 1, cells := 0, slots := 0, locals := 22 } : Room) (va_Pc [.int (nI k), .int (nI n)] (ub_pz D cI cT adK adV [] sz)) (va_Qv (fun (_ : Unit) => True) (fun _ t => ub_pq D [] (va_A [] sz) t) (va_A [] sz)) 0 0 (va_A [] sz) := by
  refine ub_met_vz (by decide +kernel) rfl (Nat.le_of_ble_eq_true rfl) ?_
  intro p e s m args below meth c Q A K Z hret ls hl hP hD hS
  obtain ⟨hx, hb, hml, hown, hts, hK, hN, hA⟩ := K
  refine lv_iload_n hx hb dJ0_checkIndex_df160_0 rfl (lv_at hl 0 rfl) ?_
  refine lv_iload_n hx hb dJ0_checkIndex_df160_1 rfl (lv_at hl 1 rfl) ?_
  obtain ⟨v, hv, hZv⟩ : ∃ v : Value, (v = .null ∨ ∃ t : Nat, v = .ref t) ∧ va_Z "jdk/internal/util/Preconditions" "SIOOBE_FORMATTER" "Ljava/util/function/BiFunction;" v A s s.heap := by
    rcases Z.2.2.1 with h | ⟨t, h⟩
    · exact ⟨.null, Or.inl rfl, h⟩
    · exact ⟨.ref t, Or.inr ⟨t, rfl⟩, h⟩
  refine va_gets hx hb hZv hS hown (hts _ uvJ0_checkIndex_df160_1) (fun _ h9 => h9) dJ0_checkIndex_df160_2 ?_
  have hPc : va_P D vwCl ([] : va_W) _ := ub_pickP hP [] rfl
  have hDc : va_D A ([] : va_W) := hD.sub [] (by decide) rfl
  have hFc := va_free (wc := ([] : va_W)) hD hS hA [] rfl
  have hcat : v.category = 1 := by rcases hv with rfl | ⟨t, rfl⟩ <;> rfl
  refine ub_calli (ws' := []) (va_runS (As := [.int (nI k), .int (nI n), v]) (rest := []) ⟨hx, hb, hml, hown, hts⟩ (ucJ3_checkIndex_8e157 l D cI cT hv hk hn) (va_cwS 3 hts gJ0_checkIndex_df160_J3_checkIndex_8e157 rfl rfl rfl uhJ3_checkIndex_8e157 ⟨Nat.le_of_ble_eq_true rfl, Nat.le_of_ble_eq_true rfl⟩) (ub_preSz Z hS hFc hPc hDc hK hN) rfl (by rcases hv with rfl | ⟨t, rfl⟩ <;> rfl) hl.1 (by rcases hv with rfl | ⟨t, rfl⟩ <;> rfl) (by rcases hv with rfl | ⟨t, rfl⟩ <;> exact lv_room (Nat.le_of_ble_eq_true rfl)) dJ0_checkIndex_df160_5 ⟨Nat.le_of_ble_eq_true rfl, Nat.le_of_ble_eq_true rfl⟩) hP hD hS hA [] rfl (by decide) rfl rfl (fun H locs hP hD hS => ?_)
  refine lv_pop hx hb dJ0_checkIndex_df160_8 rfl ?_
  exact hret _ _ _ ls dJ0_checkIndex_df160_9 hP hD hS
set_option maxHeartbeats 4000000 in
set_option maxRecDepth 100000 in
theorem ucJ1_charAt_3b067 (l : Launch) (D : va_G) (cI cT : ClassId) {adK adV : Nat → Nat} {i k : Nat} (hi : i < 10) (hk : k < ub_len.getD i 0) {sz : Nat} : Met l yJ1_charAt_3b067 wsJ1_charAt_3b067 ({ frames := 2, cells := 0, slots := 0, locals := 43 } : Room) (va_Pc [.ref (adV i), .int (nI k)] (ub_pz D cI cT adK adV [] sz)) (va_Qi (fun (r' : Int32) (_ : Unit) => r' = ub_ch i k) (fun _ t => ub_pq D [] (va_A [] sz) t) (va_A [] sz)) 0 0 (va_A [] sz) := by
  refine ub_met_iz (by decide +kernel) rfl (Nat.le_of_ble_eq_true rfl) ?_
  intro p e s m args below meth c Q A K Z hret ls hl hP hD hS
  obtain ⟨hx, hb, hml, hown, hts, hK, hN, hA⟩ := K
  have hL := ub_len_b i hi
  refine lv_iload_n hx hb dJ1_charAt_3b067_0 rfl (lv_at hl 1 rfl) ?_
  refine lv_aload_n hx hb dJ1_charAt_3b067_1 rfl (lv_at hl 0 rfl) ?_
  refine va_tlen hx hb (Z.1.1 i hi).2.2.2 hS (v := nI (ub_len.getD i 0)) rfl dJ1_charAt_3b067_2 ?_
  have hPc : va_P D vwCl ([] : va_W) _ := ub_pickP hP [] rfl
  have hDc : va_D A ([] : va_W) := hD.sub [] (by decide) rfl
  have hFc := va_free (wc := ([] : va_W)) hD hS hA [] rfl
  refine ub_callv (ws' := []) (va_runS (As := [.int (nI k), .int (nI (ub_len.getD i 0))]) (rest := []) ⟨hx, hb, hml, hown, hts⟩ (ucJ0_checkIndex_df160 l D cI cT hk hL) (va_cwS 2 hts gJ1_charAt_3b067_J0_checkIndex_df160 rfl rfl rfl uhJ0_checkIndex_df160 ⟨Nat.le_of_ble_eq_true rfl, Nat.le_of_ble_eq_true rfl⟩) (ub_preSz Z hS hFc hPc hDc hK hN) rfl rfl hl.1 rfl (lv_room (Nat.le_of_ble_eq_true rfl)) dJ1_charAt_3b067_3 ⟨Nat.le_of_ble_eq_true rfl, Nat.le_of_ble_eq_true rfl⟩) hP hD hS hA [] rfl (by decide) rfl rfl (fun H locs hP hD hS => ?_)
  refine lv_aload_n hx hb dJ1_charAt_3b067_6 rfl (lv_at hl 0 rfl) ?_
  refine lv_iload_n hx hb dJ1_charAt_3b067_7 rfl (lv_at hl 1 rfl) ?_
  refine va_tb hx hb (Z.1.1 i hi).2.2.2 hS (i := nI k) (vp_in_nI hk hL) (v := .int ((ub_byt.getD i []).getD k 0)) (by show Value.int _ = _; rw [nI_clamp (by omega)]) dJ1_charAt_3b067_8 ?_
  refine lv_sipush (v := 255) hx hb dJ1_charAt_3b067_9 (by decide) ?_
  refine lv_iand hx hb dJ1_charAt_3b067_12 ?_
  refine lv_i2c (v := ub_ch i k) hx hb dJ1_charAt_3b067_13 (ub_ch_s i hi k hk).1 ?_
  exact hret _ _ _ ls dJ1_charAt_3b067_14 (ub_ch_s i hi k hk).2 hP hD hS
set_option maxHeartbeats 4000000 in
set_option maxRecDepth 100000 in
theorem ucJ0_charAt_5068e (l : Launch) (D : va_G) (cI cT : ClassId) {adK adV : Nat → Nat} {i k : Nat} (hi : i < 10) (hk : k < ub_len.getD i 0) {sz : Nat} : Met l yJ0_charAt_5068e wsJ0_charAt_5068e ({ frames := 3, cells := 0, slots := 0, locals := 64 } : Room) (va_Pc [.ref (adK i), .int (nI k)] (ub_pz D cI cT adK adV [] sz)) (va_Qi (fun (r' : Int32) (_ : Unit) => r' = ub_ch i k) (fun _ t => ub_pq D [] (va_A [] sz) t) (va_A [] sz)) 0 0 (va_A [] sz) := by
  refine ub_met_iz (by decide +kernel) rfl (Nat.le_of_ble_eq_true rfl) ?_
  intro p e s m args below meth c Q A K Z hret ls hl hP hD hS
  obtain ⟨hx, hb, hml, hown, hts, hK, hN, hA⟩ := K
  refine lv_aload_n hx hb dJ0_charAt_5068e_0 rfl (lv_at hl 0 rfl) ?_
  have hPc : va_P D vwCl ([] : va_W) _ := ub_pickP hP [] rfl
  have hDc : va_D A ([] : va_W) := hD.sub [] (by decide) rfl
  have hFc := va_free (wc := ([] : va_W)) hD hS hA [] rfl
  refine ub_calli (ws' := []) (va_runV (As := []) (rest := []) ⟨hx, hb, hml, hown, hts⟩ (ucJ0_isLatin1_aae02 l D cI cT hi) (cwV 0 hts gJ0_charAt_5068e_J0_isLatin1_aae02 rfl rfl rfl ⟨rfl, uhJ0_isLatin1_aae02⟩ ⟨Nat.le_of_ble_eq_true rfl, Nat.le_of_ble_eq_true rfl⟩) (ub_preVk hi Z hS hFc hPc hDc hK hN) rfl rfl hl.1 rfl (lv_room (Nat.le_of_ble_eq_true rfl)) dJ0_charAt_5068e_1 ⟨Nat.le_of_ble_eq_true rfl, Nat.le_of_ble_eq_true rfl⟩) hP hD hS hA [] rfl (by decide) rfl rfl (fun H locs hP hD hS => ?_)
  refine lv_if_eq (tgt := 16) hx hb dJ0_charAt_5068e_4 (by decide) (fun c => absurd c (by decide)) (fun _ => ?_)
  refine lv_aload_n hx hb dJ0_charAt_5068e_7 rfl (lv_at hl 0 rfl) ?_
  refine vk_getf hx hb (Z.1.1 i hi).2.2.1 hS hown (hts _ uvJ0_charAt_5068e_1) (fun _ h9 => h9) dJ0_charAt_5068e_8 ?_
  refine lv_iload_n hx hb dJ0_charAt_5068e_11 rfl (lv_at hl 1 rfl) ?_
  have hPc : va_P D vwCl ([] : va_W) _ := ub_pickP hP [] rfl
  have hDc : va_D A ([] : va_W) := hD.sub [] (by decide) rfl
  have hFc := va_free (wc := ([] : va_W)) hD hS hA [] rfl
  refine ub_calli (ws' := []) (va_runS (As := [.ref (adV i), .int (nI k)]) (rest := []) ⟨hx, hb, hml, hown, hts⟩ (ucJ1_charAt_3b067 l D cI cT hi hk) (va_cwS 2 hts gJ0_charAt_5068e_J1_charAt_3b067 rfl rfl rfl uhJ1_charAt_3b067 ⟨Nat.le_of_ble_eq_true rfl, Nat.le_of_ble_eq_true rfl⟩) (ub_preSz Z hS hFc hPc hDc hK hN) rfl rfl hl.1 rfl (lv_room (Nat.le_of_ble_eq_true rfl)) dJ0_charAt_5068e_12 ⟨Nat.le_of_ble_eq_true rfl, Nat.le_of_ble_eq_true rfl⟩) hP hD hS hA [] rfl (by decide) rfl rfl (fun H locs hP hD hS => ?_)
  exact hret _ _ _ ls dJ0_charAt_5068e_15 (ub_ch_s i hi k hk).2 hP hD hS
theorem ucJ0_charAtV (l : Launch) (D : va_G) (cI cT : ClassId) {adK adV : Nat → Nat} {i : Nat} {x : Int32} (hi : i < 10) (hk : vp_in x (ub_len.getD i 0)) {sz : Nat} : Met l yJ0_charAt_5068e wsJ0_charAt_5068e ({ frames := 3, cells := 0, slots := 0, locals := 64 } : Room) (va_Pc [.ref (adK i), .int x] (ub_pz D cI cT adK adV [] sz)) (va_Qi (fun (r' : Int32) (_ : Unit) => r' = ub_ch i (Int32.toNatClampNeg x)) (fun _ t => ub_pq D [] (va_A [] sz) t) (va_A [] sz)) 0 0 (va_A [] sz) := by
  have hL := ub_len_b i hi
  obtain ⟨j, hj, rfl⟩ := vp_in_of hk hL
  rw [nI_clamp (by omega)]
  exact ucJ0_charAt_5068e l D cI cT hi hj
def ufX3_shapeOf (l1 : Int32) : Nat :=
  if l1 = 99 then 4 else
  if l1 = 100 then 9 else
  if l1 = 101 then 8 else
  if l1 = 102 then 9 else
  if l1 = 103 then 9 else
  if l1 = 104 then 6 else
  if l1 = 105 then 9 else
  if l1 = 106 then 9 else
  if l1 = 107 then 9 else
  if l1 = 108 then 9 else
  if l1 = 109 then 9 else
  if l1 = 110 then 5 else
  if l1 = 111 then 7 else
  if l1 = 112 then 3 else
  if l1 = 113 then 9 else
  if l1 = 114 then 0 else
  if l1 = 115 then 2 else
  if l1 = 116 then 9 else
  if l1 = 117 then 9 else
  if l1 = 118 then 1 else
  9
theorem ub_ite_lt {c : Prop} {i : Decidable c} {a b n : Nat} (ha : a < n) (hb : b < n) : @ite _ c i a b < n := by
  cases i <;> assumption
theorem ufX3_shapeOf_lt (l1 : Int32) : ufX3_shapeOf l1 < 10 := by
  unfold ufX3_shapeOf
  repeat refine ub_ite_lt (by decide) ?_
  decide
set_option maxHeartbeats 4000000 in
set_option maxRecDepth 100000 in
theorem ucX3_shapeOf (l : Launch) (D : va_G) (cI cT : ClassId) {adK adV : Nat → Nat} {h0 z0 z1 : Nat} {num pos l1 : Int32} {i : Nat} (hi : i = ufX3_shapeOf l1) {sz : Nat} : Met l yX3_shapeOf wsX3_shapeOf ({ frames := 0, cells := 0, slots := 0, locals := 0 } : Room) (va_Pc [.ref h0, .int l1] (ub_pz D cI cT adK adV [(h0, .inr (5, [.int num, .ref z0, .ref z1, .int pos]))] sz)) (va_Qr (fun (_ : Unit) => True) (fun _ r' t => r' = adK i ∧ ub_pq D [(h0, .inr (5, [.int num, .ref z0, .ref z1, .int pos]))] (va_A [(h0, .inr (5, [.int num, .ref z0, .ref z1, .int pos]))] sz) t) (va_A [(h0, .inr (5, [.int num, .ref z0, .ref z1, .int pos]))] sz)) 0 0 (va_A [(h0, .inr (5, [.int num, .ref z0, .ref z1, .int pos]))] sz) := by
  subst hi
  refine ub_met_rz (by decide +kernel) rfl (Nat.le_of_ble_eq_true rfl) ?_
  intro p e s m args below meth c Q A K Z hret ls hl hP hD hS
  obtain ⟨hx, hb, hml, hown, hts, hK, hN, hA⟩ := K
  refine lv_iload_n hx hb dX3_shapeOf_0 rfl (lv_at hl 1 rfl) ?_
  by_cases c0 : l1 = 99
  · refine ub_tableIn (x := l1) (k := 99) (off := 107) (tgt := 108) hx hb dX3_shapeOf_1 c0 (by decide) (by decide) (by decide) (by decide) ?_
    subst c0
    refine va_ldcS hx hb hown (Z.2.2.2 4 (by decide)) dX3_shapeOf_108 ?_
    exact hret _ _ _ ls dX3_shapeOf_110 hP hD hS
  by_cases c1 : l1 = 100
  · refine ub_tableIn (x := l1) (k := 100) (off := 122) (tgt := 123) hx hb dX3_shapeOf_1 c1 (by decide) (by decide) (by decide) (by decide) ?_
    subst c1
    refine va_ldcS hx hb hown (Z.2.2.2 9 (by decide)) dX3_shapeOf_123 ?_
    exact hret _ _ _ ls dX3_shapeOf_125 hP hD hS
  by_cases c2 : l1 = 101
  · refine ub_tableIn (x := l1) (k := 101) (off := 119) (tgt := 120) hx hb dX3_shapeOf_1 c2 (by decide) (by decide) (by decide) (by decide) ?_
    subst c2
    refine va_ldcS hx hb hown (Z.2.2.2 8 (by decide)) dX3_shapeOf_120 ?_
    exact hret _ _ _ ls dX3_shapeOf_122 hP hD hS
  by_cases c3 : l1 = 102
  · refine ub_tableIn (x := l1) (k := 102) (off := 122) (tgt := 123) hx hb dX3_shapeOf_1 c3 (by decide) (by decide) (by decide) (by decide) ?_
    subst c3
    refine va_ldcS hx hb hown (Z.2.2.2 9 (by decide)) dX3_shapeOf_123 ?_
    exact hret _ _ _ ls dX3_shapeOf_125 hP hD hS
  by_cases c4 : l1 = 103
  · refine ub_tableIn (x := l1) (k := 103) (off := 122) (tgt := 123) hx hb dX3_shapeOf_1 c4 (by decide) (by decide) (by decide) (by decide) ?_
    subst c4
    refine va_ldcS hx hb hown (Z.2.2.2 9 (by decide)) dX3_shapeOf_123 ?_
    exact hret _ _ _ ls dX3_shapeOf_125 hP hD hS
  by_cases c5 : l1 = 104
  · refine ub_tableIn (x := l1) (k := 104) (off := 113) (tgt := 114) hx hb dX3_shapeOf_1 c5 (by decide) (by decide) (by decide) (by decide) ?_
    subst c5
    refine va_ldcS hx hb hown (Z.2.2.2 6 (by decide)) dX3_shapeOf_114 ?_
    exact hret _ _ _ ls dX3_shapeOf_116 hP hD hS
  by_cases c6 : l1 = 105
  · refine ub_tableIn (x := l1) (k := 105) (off := 122) (tgt := 123) hx hb dX3_shapeOf_1 c6 (by decide) (by decide) (by decide) (by decide) ?_
    subst c6
    refine va_ldcS hx hb hown (Z.2.2.2 9 (by decide)) dX3_shapeOf_123 ?_
    exact hret _ _ _ ls dX3_shapeOf_125 hP hD hS
  by_cases c7 : l1 = 106
  · refine ub_tableIn (x := l1) (k := 106) (off := 122) (tgt := 123) hx hb dX3_shapeOf_1 c7 (by decide) (by decide) (by decide) (by decide) ?_
    subst c7
    refine va_ldcS hx hb hown (Z.2.2.2 9 (by decide)) dX3_shapeOf_123 ?_
    exact hret _ _ _ ls dX3_shapeOf_125 hP hD hS
  by_cases c8 : l1 = 107
  · refine ub_tableIn (x := l1) (k := 107) (off := 122) (tgt := 123) hx hb dX3_shapeOf_1 c8 (by decide) (by decide) (by decide) (by decide) ?_
    subst c8
    refine va_ldcS hx hb hown (Z.2.2.2 9 (by decide)) dX3_shapeOf_123 ?_
    exact hret _ _ _ ls dX3_shapeOf_125 hP hD hS
  by_cases c9 : l1 = 108
  · refine ub_tableIn (x := l1) (k := 108) (off := 122) (tgt := 123) hx hb dX3_shapeOf_1 c9 (by decide) (by decide) (by decide) (by decide) ?_
    subst c9
    refine va_ldcS hx hb hown (Z.2.2.2 9 (by decide)) dX3_shapeOf_123 ?_
    exact hret _ _ _ ls dX3_shapeOf_125 hP hD hS
  by_cases c10 : l1 = 109
  · refine ub_tableIn (x := l1) (k := 109) (off := 122) (tgt := 123) hx hb dX3_shapeOf_1 c10 (by decide) (by decide) (by decide) (by decide) ?_
    subst c10
    refine va_ldcS hx hb hown (Z.2.2.2 9 (by decide)) dX3_shapeOf_123 ?_
    exact hret _ _ _ ls dX3_shapeOf_125 hP hD hS
  by_cases c11 : l1 = 110
  · refine ub_tableIn (x := l1) (k := 110) (off := 110) (tgt := 111) hx hb dX3_shapeOf_1 c11 (by decide) (by decide) (by decide) (by decide) ?_
    subst c11
    refine va_ldcS hx hb hown (Z.2.2.2 5 (by decide)) dX3_shapeOf_111 ?_
    exact hret _ _ _ ls dX3_shapeOf_113 hP hD hS
  by_cases c12 : l1 = 111
  · refine ub_tableIn (x := l1) (k := 111) (off := 116) (tgt := 117) hx hb dX3_shapeOf_1 c12 (by decide) (by decide) (by decide) (by decide) ?_
    subst c12
    refine va_ldcS hx hb hown (Z.2.2.2 7 (by decide)) dX3_shapeOf_117 ?_
    exact hret _ _ _ ls dX3_shapeOf_119 hP hD hS
  by_cases c13 : l1 = 112
  · refine ub_tableIn (x := l1) (k := 112) (off := 104) (tgt := 105) hx hb dX3_shapeOf_1 c13 (by decide) (by decide) (by decide) (by decide) ?_
    subst c13
    refine va_ldcS hx hb hown (Z.2.2.2 3 (by decide)) dX3_shapeOf_105 ?_
    exact hret _ _ _ ls dX3_shapeOf_107 hP hD hS
  by_cases c14 : l1 = 113
  · refine ub_tableIn (x := l1) (k := 113) (off := 122) (tgt := 123) hx hb dX3_shapeOf_1 c14 (by decide) (by decide) (by decide) (by decide) ?_
    subst c14
    refine va_ldcS hx hb hown (Z.2.2.2 9 (by decide)) dX3_shapeOf_123 ?_
    exact hret _ _ _ ls dX3_shapeOf_125 hP hD hS
  by_cases c15 : l1 = 114
  · refine ub_tableIn (x := l1) (k := 114) (off := 95) (tgt := 96) hx hb dX3_shapeOf_1 c15 (by decide) (by decide) (by decide) (by decide) ?_
    subst c15
    refine va_ldcS hx hb hown (Z.2.2.2 0 (by decide)) dX3_shapeOf_96 ?_
    exact hret _ _ _ ls dX3_shapeOf_98 hP hD hS
  by_cases c16 : l1 = 115
  · refine ub_tableIn (x := l1) (k := 115) (off := 101) (tgt := 102) hx hb dX3_shapeOf_1 c16 (by decide) (by decide) (by decide) (by decide) ?_
    subst c16
    refine va_ldcS hx hb hown (Z.2.2.2 2 (by decide)) dX3_shapeOf_102 ?_
    exact hret _ _ _ ls dX3_shapeOf_104 hP hD hS
  by_cases c17 : l1 = 116
  · refine ub_tableIn (x := l1) (k := 116) (off := 122) (tgt := 123) hx hb dX3_shapeOf_1 c17 (by decide) (by decide) (by decide) (by decide) ?_
    subst c17
    refine va_ldcS hx hb hown (Z.2.2.2 9 (by decide)) dX3_shapeOf_123 ?_
    exact hret _ _ _ ls dX3_shapeOf_125 hP hD hS
  by_cases c18 : l1 = 117
  · refine ub_tableIn (x := l1) (k := 117) (off := 122) (tgt := 123) hx hb dX3_shapeOf_1 c18 (by decide) (by decide) (by decide) (by decide) ?_
    subst c18
    refine va_ldcS hx hb hown (Z.2.2.2 9 (by decide)) dX3_shapeOf_123 ?_
    exact hret _ _ _ ls dX3_shapeOf_125 hP hD hS
  by_cases c19 : l1 = 118
  · refine ub_tableIn (x := l1) (k := 118) (off := 98) (tgt := 99) hx hb dX3_shapeOf_1 c19 (by decide) (by decide) (by decide) (by decide) ?_
    subst c19
    refine va_ldcS hx hb hown (Z.2.2.2 1 (by decide)) dX3_shapeOf_99 ?_
    exact hret _ _ _ ls dX3_shapeOf_101 hP hD hS
  have e9 : ufX3_shapeOf l1 = 9 := by
    unfold ufX3_shapeOf
    simp only [c0, c1, c2, c3, c4, c5, c6, c7, c8, c9, c10, c11, c12, c13, c14, c15, c16, c17, c18, c19, if_false, ite_false, reduceIte]
  rw [e9] at hret
  refine lv_tableOut (tgt := 123) hx hb dX3_shapeOf_1 (ub_tableOut (fun j h1 h2 z => by
      rcases (show j = (99 : Int) ∨ j = (100 : Int) ∨ j = (101 : Int) ∨ j = (102 : Int) ∨ j = (103 : Int) ∨ j = (104 : Int) ∨ j = (105 : Int) ∨ j = (106 : Int) ∨ j = (107 : Int) ∨ j = (108 : Int) ∨ j = (109 : Int) ∨ j = (110 : Int) ∨ j = (111 : Int) ∨ j = (112 : Int) ∨ j = (113 : Int) ∨ j = (114 : Int) ∨ j = (115 : Int) ∨ j = (116 : Int) ∨ j = (117 : Int) ∨ j = (118 : Int) by omega) with rfl | rfl | rfl | rfl | rfl | rfl | rfl | rfl | rfl | rfl | rfl | rfl | rfl | rfl | rfl | rfl | rfl | rfl | rfl | rfl
      · exact c0 (Int32.toInt_inj.mp (z.trans (by decide)))
      · exact c1 (Int32.toInt_inj.mp (z.trans (by decide)))
      · exact c2 (Int32.toInt_inj.mp (z.trans (by decide)))
      · exact c3 (Int32.toInt_inj.mp (z.trans (by decide)))
      · exact c4 (Int32.toInt_inj.mp (z.trans (by decide)))
      · exact c5 (Int32.toInt_inj.mp (z.trans (by decide)))
      · exact c6 (Int32.toInt_inj.mp (z.trans (by decide)))
      · exact c7 (Int32.toInt_inj.mp (z.trans (by decide)))
      · exact c8 (Int32.toInt_inj.mp (z.trans (by decide)))
      · exact c9 (Int32.toInt_inj.mp (z.trans (by decide)))
      · exact c10 (Int32.toInt_inj.mp (z.trans (by decide)))
      · exact c11 (Int32.toInt_inj.mp (z.trans (by decide)))
      · exact c12 (Int32.toInt_inj.mp (z.trans (by decide)))
      · exact c13 (Int32.toInt_inj.mp (z.trans (by decide)))
      · exact c14 (Int32.toInt_inj.mp (z.trans (by decide)))
      · exact c15 (Int32.toInt_inj.mp (z.trans (by decide)))
      · exact c16 (Int32.toInt_inj.mp (z.trans (by decide)))
      · exact c17 (Int32.toInt_inj.mp (z.trans (by decide)))
      · exact c18 (Int32.toInt_inj.mp (z.trans (by decide)))
      · exact c19 (Int32.toInt_inj.mp (z.trans (by decide))))) (by decide) ?_
  refine va_ldcS hx hb hown (Z.2.2.2 9 (by decide)) dX3_shapeOf_123 ?_
  exact hret _ _ _ ls dX3_shapeOf_125 hP hD hS
