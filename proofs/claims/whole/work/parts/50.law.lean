/-! ===== the law: the world of its loop ===== -/
def ulC (cI cT : ClassId) (h0 : Nat) (ad : Nat → Nat) (z : Option Nat) (lr : Int32) (ld : Int32) (hn : Int32) (hf : Int32) (ll : Int32) (lc : Nat → Int32) (T : ubT) (tr : ubT) (on0 : Int32) (ps0 : Int32) (ok0 : Nat → Int32) (om0 : Nat → Int32) (tl : Int32) (tc : Nat → Int32) (G : ubG) : va_W := [(h0, .inr (8, [.ref (ad 5), .ref (ad 28), .ref (ad 1), .ref (ad 26), .ref (ad 23), .ref (ad 3), va_rf z, .int lr, .int ld])), ((ad 1), .inr (1, [.int hn, .int hf, .ref (ad 2)])), ((ad 2), .inl (cT, 9, .inr (.inr (.inr (.inr (ub_rw G)))))), ((ad 3), .inr (2, [.int ll, .ref (ad 4)])), ((ad 4), .inl (cI, 128, .inl lc)), ((ad 5), .inr (7, [.ref (ad 16), .ref (ad 6), .ref (ad 10), .ref (ad 15), .int T.1, .int T.2.1, .int T.2.2.1, .int T.2.2.2.1, .int T.2.2.2.2.1, .int T.2.2.2.2.2.1, .int T.2.2.2.2.2.2.1, .int T.2.2.2.2.2.2.2.1])), ((ad 6), .inr (4, [.int T.2.2.2.2.2.2.2.2.1, .ref (ad 8), .ref (ad 7), .ref (ad 9)])), ((ad 7), .inl (cI, 16, .inl T.2.2.2.2.2.2.2.2.2.1)), ((ad 8), .inl (cI, 16, .inl T.2.2.2.2.2.2.2.2.2.2.1)), ((ad 9), .inl (cI, 16, .inl T.2.2.2.2.2.2.2.2.2.2.2.1)), ((ad 10), .inr (0, [.int T.2.2.2.2.2.2.2.2.2.2.2.2.1, .int T.2.2.2.2.2.2.2.2.2.2.2.2.2.1, .ref (ad 13), .ref (ad 12), .ref (ad 11), .ref (ad 14)])), ((ad 11), .inl (cI, 20, .inl T.2.2.2.2.2.2.2.2.2.2.2.2.2.2.1)), ((ad 12), .inl (cI, 20, .inl T.2.2.2.2.2.2.2.2.2.2.2.2.2.2.2.1)), ((ad 13), .inl (cI, 20, .inl T.2.2.2.2.2.2.2.2.2.2.2.2.2.2.2.2.1)), ((ad 14), .inl (cI, 20, .inl T.2.2.2.2.2.2.2.2.2.2.2.2.2.2.2.2.2.1)), ((ad 15), .inl (cI, 24, .inl T.2.2.2.2.2.2.2.2.2.2.2.2.2.2.2.2.2.2.1)), ((ad 16), .inr (5, [.int T.2.2.2.2.2.2.2.2.2.2.2.2.2.2.2.2.2.2.2.1, .ref (ad 21), .ref (ad 19), .ref (ad 22), .ref (ad 17), .ref (ad 20), .ref (ad 18)])), ((ad 17), .inl (cI, 12, .inl T.2.2.2.2.2.2.2.2.2.2.2.2.2.2.2.2.2.2.2.2.1)), ((ad 18), .inl (cI, 12, .inl T.2.2.2.2.2.2.2.2.2.2.2.2.2.2.2.2.2.2.2.2.2.1)), ((ad 19), .inl (cI, 12, .inl T.2.2.2.2.2.2.2.2.2.2.2.2.2.2.2.2.2.2.2.2.2.2.1)), ((ad 20), .inl (cI, 12, .inl T.2.2.2.2.2.2.2.2.2.2.2.2.2.2.2.2.2.2.2.2.2.2.2.1)), ((ad 21), .inl (cI, 12, .inl T.2.2.2.2.2.2.2.2.2.2.2.2.2.2.2.2.2.2.2.2.2.2.2.2.1)), ((ad 22), .inl (cI, 12, .inl T.2.2.2.2.2.2.2.2.2.2.2.2.2.2.2.2.2.2.2.2.2.2.2.2.2)), ((ad 23), .inr (3, [.int on0, .ref (ad 24), .ref (ad 25), .int ps0])), ((ad 24), .inl (cI, 60, .inl ok0)), ((ad 25), .inl (cI, 180, .inl om0)), ((ad 26), .inr (6, [.int tl, .ref (ad 27)])), ((ad 27), .inl (cI, 60, .inl tc)), ((ad 28), .inr (7, [.ref (ad 39), .ref (ad 29), .ref (ad 33), .ref (ad 38), .int tr.1, .int tr.2.1, .int tr.2.2.1, .int tr.2.2.2.1, .int tr.2.2.2.2.1, .int tr.2.2.2.2.2.1, .int tr.2.2.2.2.2.2.1, .int tr.2.2.2.2.2.2.2.1])), ((ad 29), .inr (4, [.int tr.2.2.2.2.2.2.2.2.1, .ref (ad 31), .ref (ad 30), .ref (ad 32)])), ((ad 30), .inl (cI, 16, .inl tr.2.2.2.2.2.2.2.2.2.1)), ((ad 31), .inl (cI, 16, .inl tr.2.2.2.2.2.2.2.2.2.2.1)), ((ad 32), .inl (cI, 16, .inl tr.2.2.2.2.2.2.2.2.2.2.2.1)), ((ad 33), .inr (0, [.int tr.2.2.2.2.2.2.2.2.2.2.2.2.1, .int tr.2.2.2.2.2.2.2.2.2.2.2.2.2.1, .ref (ad 36), .ref (ad 35), .ref (ad 34), .ref (ad 37)])), ((ad 34), .inl (cI, 20, .inl tr.2.2.2.2.2.2.2.2.2.2.2.2.2.2.1)), ((ad 35), .inl (cI, 20, .inl tr.2.2.2.2.2.2.2.2.2.2.2.2.2.2.2.1)), ((ad 36), .inl (cI, 20, .inl tr.2.2.2.2.2.2.2.2.2.2.2.2.2.2.2.2.1)), ((ad 37), .inl (cI, 20, .inl tr.2.2.2.2.2.2.2.2.2.2.2.2.2.2.2.2.2.1)), ((ad 38), .inl (cI, 24, .inl tr.2.2.2.2.2.2.2.2.2.2.2.2.2.2.2.2.2.2.1)), ((ad 39), .inr (5, [.int tr.2.2.2.2.2.2.2.2.2.2.2.2.2.2.2.2.2.2.2.1, .ref (ad 44), .ref (ad 42), .ref (ad 45), .ref (ad 40), .ref (ad 43), .ref (ad 41)])), ((ad 40), .inl (cI, 12, .inl tr.2.2.2.2.2.2.2.2.2.2.2.2.2.2.2.2.2.2.2.2.1)), ((ad 41), .inl (cI, 12, .inl tr.2.2.2.2.2.2.2.2.2.2.2.2.2.2.2.2.2.2.2.2.2.1)), ((ad 42), .inl (cI, 12, .inl tr.2.2.2.2.2.2.2.2.2.2.2.2.2.2.2.2.2.2.2.2.2.2.1)), ((ad 43), .inl (cI, 12, .inl tr.2.2.2.2.2.2.2.2.2.2.2.2.2.2.2.2.2.2.2.2.2.2.2.1)), ((ad 44), .inl (cI, 12, .inl tr.2.2.2.2.2.2.2.2.2.2.2.2.2.2.2.2.2.2.2.2.2.2.2.2.1)), ((ad 45), .inl (cI, 12, .inl tr.2.2.2.2.2.2.2.2.2.2.2.2.2.2.2.2.2.2.2.2.2.2.2.2.2))]
def ulM (cI : ClassId) (m0 : Nat) (md : Nat → Nat) (fl0 : Int32) (ch0 : Int32) (wy0 : Int32) (dt0 : Int32) (is0 : Int32) (tn0 : Int32) (he0 : Int32) (en0 : Int32) (ln0 : Int32) (iw0 : Int32) (id0 : Int32) (bf0 : Nat → Int32) (pa0 : Nat → Int32) (v0 : Nat → Int32) (kp0 : Nat → Int32) (sv0 : Nat → Int32) (tx0 : Nat → Int32) (li0 : Nat → Int32) : va_W := [(m0, .inr (9, [.int fl0, .int ch0, .int wy0, .int dt0, .int is0, .ref (md 7), .ref (md 1), .ref (md 5), .ref (md 2), .ref (md 4), .ref (md 6), .ref (md 3), .int tn0, .int he0, .int en0, .int ln0, .int iw0, .int id0])), ((md 1), .inl (cI, 235, .inl bf0)), ((md 2), .inl (cI, 235, .inl kp0)), ((md 3), .inl (cI, 130, .inl li0)), ((md 4), .inl (cI, 1880, .inl pa0)), ((md 5), .inl (cI, 235, .inl sv0)), ((md 6), .inl (cI, 60, .inl tx0)), ((md 7), .inl (cI, 235, .inl v0))]
/-- the kept state on both sides: none, or a tower of its own -/
def ulS (cI : ClassId) (z : Option Nat) (X : va_W) (is0 : Int32) (sv0 : Nat → Int32) (cnt : Nat) : Prop :=
  (z = none ∧ X = [] ∧ is0 = 0) ∨ (∃ (a : Nat → Nat) (S : ubT) (g : Nat → Nat), z = some (a 0) ∧ X = ub_tw cI a S ∧ is0 = 1 ∧ sv0 = um_nv g ∧ um_C g S ∧ um_I g cnt)
theorem ulS_mono {cI : ClassId} {z : Option Nat} {X : va_W} {is0 : Int32} {sv0 : Nat → Int32} {c d : Nat} (hcd : c ≤ d) (hd : d ≤ 2 ^ 20) (h : ulS cI z X is0 sv0 c) : ulS cI z X is0 sv0 d := by
  rcases h with h | ⟨a, S, g, h1, h2, h3, h4, h5, h6⟩
  · exact Or.inl h
  · exact Or.inr ⟨a, S, g, h1, h2, h3, h4, h5, um_I_up hcd hd h6⟩
/-- the class' objects and the reference's hold the same -/
def ulR (cI : ClassId) (cnt : Nat) (z : Option Nat) (X : va_W) (lr ld hn hf ll : Int32) (lc : Nat → Int32) (T : ubT) (tl : Int32) (tc : Nat → Int32) (G : ubG) (ch0 wy0 dt0 is0 tn0 ln0 : Int32) (pa0 v0 sv0 tx0 li0 : Nat → Int32) : Prop :=
  ∃ (f past : Nat → Nat) (n h q t : Nat) (g : Nat → Nat), hn = nI n ∧ hf = nI h ∧ ll = nI q ∧ tl = nI t ∧ ch0 = nI n ∧ tn0 = nI t ∧ ln0 = nI q ∧ pa0 = um_nv past ∧ v0 = um_nv f ∧ um_I f cnt ∧ um_C f T ∧ um_H cnt (ub_cn G) h n past ∧ um_RS lr ld wy0 dt0 ∧ um_X t g tc tx0 ∧ um_L q lc li0 ∧ ulS cI z X is0 sv0 cnt
theorem ulP0 {fx fc fr Y : va_W} (h : fx.Perm (fc ++ fr)) : (fx ++ Y).Perm (fc ++ (fr ++ Y)) := by
  rw [← List.append_assoc]
  exact h.append_right Y
/-- cells of the class, the rows of the history left -/
theorem ulP1 {fx fc fr Y Z : va_W} (h : fx.Perm (fc ++ fr)) : ((fx ++ Y) ++ Z).Perm (fc ++ ((fr ++ Y) ++ Z)) := ulP0 (ulP0 h)
/-- cells of the class, the rows of the history too -/
theorem ulP3 {fx fc fr Y Z : va_W} (h : fx.Perm (fc ++ fr)) : ((fx ++ Y) ++ Z).Perm ((fc ++ Z) ++ (fr ++ Y)) := ub_permP (ulP0 h)
/-- cells of the reference -/
theorem ulP2 {fx fm fc fr Y Z : va_W} (h : fm.Perm (fc ++ fr)) : ((fx ++ (fm ++ Y)) ++ Z).Perm (fc ++ (fr ++ (Y ++ (fx ++ Z)))) := by
  have e1 : ((fx ++ (fm ++ Y)) ++ Z).Perm ((fm ++ Y) ++ (fx ++ Z)) := by
    rw [List.append_assoc]
    exact List.perm_append_comm_assoc fx (fm ++ Y) Z
  refine e1.trans ?_
  have e2 := h.append_right (Y ++ (fx ++ Z))
  simp only [List.append_assoc] at e2 ⊢
  exact e2
/-- cells of the class and the kept state's -/
theorem ulP4 {fx fc fr M X Z : va_W} (h : fx.Perm (fc ++ fr)) : ((fx ++ (M ++ X)) ++ Z).Perm ((fc ++ X) ++ (fr ++ (M ++ Z))) := by
  have e1 : ((fx ++ (M ++ X)) ++ Z).Perm ((fx ++ (X ++ M)) ++ Z) := (List.perm_append_comm.append_left fx).append_right Z
  refine e1.trans ?_
  have e2 : ((fx ++ (X ++ M)) ++ Z).Perm (((fc ++ fr) ++ (X ++ M)) ++ Z) := (h.append_right (X ++ M)).append_right Z
  refine e2.trans ?_
  simp only [List.append_assoc]
  exact List.Perm.append_left fc (List.perm_append_comm_assoc fr X (M ++ Z))
theorem ul_rc {n : Nat} (h : n ≤ 600000) : n ≤ room_1.cells := h
theorem ul_rs {n : Nat} (h : n ≤ 7302250) : n ≤ room_1.slots := h
section UL50
variable {p : Program} {l : Launch} {e : Env} {s : State} {m : MethodId} {args : Array Value} {below : List Frame} {meth : Method} {c : Code} {Q : State → Prop} {D : va_G} {cI cT : ClassId} {A : Nat → Prop} {b L : Nat} {xs : Nat → Int32} {h0 m0 : Nat} {ad md : Nat → Nat} {i cells slots cnt : Nat} {adK adV : Nat → Nat}
theorem ul_ld1 {locs : List Loc} {H : Heap} {ls : Array Slot} {pc : Nat} {st : List Value} (hx : p.tables.exec = Jvm.exec) (hb : c.code = cL_law) (hX : va_X b L xs s s.heap) (hbl : b < s.heap.size) (hbA : ¬ A b) (hS : va_S A s.heap H locs) (hl : lv_has ls 8 [(3, .int (nI i)), (2, .ref m0), (1, .ref h0), (0, .ref b)]) (hi : i + 4 ≤ L) (hL : L ≤ 2048)
    (d0 : decode cL_law pc = .ok (.aload_n 0, 1)) (d1 : decode cL_law (pc + 1) = .ok (.iload_n 3, 1)) (d2 : decode cL_law (pc + 1 + 1) = .ok (.iconst 1, 1)) (d3 : decode cL_law (pc + 1 + 1 + 1) = .ok (.iadd, 1)) (d4 : decode cL_law (pc + 1 + 1 + 1 + 1) = .ok (.iaload, 1))
    (kk : W p l e room_1 s m args below meth c H locs cells slots Q (F0 m (pc + 5) ls (.int (xs (i + 1)) :: st))) : W p l e room_1 s m args below meth c H locs cells slots Q (F0 m pc ls st) := by
  refine lv_aload_n hx hb d0 rfl (lv_at hl 3 rfl) ?_
  refine lv_iload_n hx hb d1 rfl (lv_at hl 0 rfl) ?_
  refine lv_iconst (v := 1) hx hb d2 (by decide) ?_
  refine lv_iadd hx hb d3 ?_
  rw [show (1 : Int32) = nI 1 from rfl, nI_add]
  refine va_sld hx hb hX hbl hbA hS (vp_in_nI (by omega) (by omega)) d4 ?_
  rw [nI_clamp (by omega)]
  exact kk
theorem ul_ld2 {locs : List Loc} {H : Heap} {ls : Array Slot} {pc : Nat} {st : List Value} (hx : p.tables.exec = Jvm.exec) (hb : c.code = cL_law) (hX : va_X b L xs s s.heap) (hbl : b < s.heap.size) (hbA : ¬ A b) (hS : va_S A s.heap H locs) (hl : lv_has ls 8 [(3, .int (nI i)), (2, .ref m0), (1, .ref h0), (0, .ref b)]) (hi : i + 4 ≤ L) (hL : L ≤ 2048)
    (d0 : decode cL_law pc = .ok (.aload_n 0, 1)) (d1 : decode cL_law (pc + 1) = .ok (.iload_n 3, 1)) (d2 : decode cL_law (pc + 1 + 1) = .ok (.iconst 2, 1)) (d3 : decode cL_law (pc + 1 + 1 + 1) = .ok (.iadd, 1)) (d4 : decode cL_law (pc + 1 + 1 + 1 + 1) = .ok (.iaload, 1))
    (kk : W p l e room_1 s m args below meth c H locs cells slots Q (F0 m (pc + 5) ls (.int (xs (i + 2)) :: st))) : W p l e room_1 s m args below meth c H locs cells slots Q (F0 m pc ls st) := by
  refine lv_aload_n hx hb d0 rfl (lv_at hl 3 rfl) ?_
  refine lv_iload_n hx hb d1 rfl (lv_at hl 0 rfl) ?_
  refine lv_iconst (v := 2) hx hb d2 (by decide) ?_
  refine lv_iadd hx hb d3 ?_
  rw [show (2 : Int32) = nI 2 from rfl, nI_add]
  refine va_sld hx hb hX hbl hbA hS (vp_in_nI (by omega) (by omega)) d4 ?_
  rw [nI_clamp (by omega)]
  exact kk
theorem ul_ld3 {locs : List Loc} {H : Heap} {ls : Array Slot} {pc : Nat} {st : List Value} (hx : p.tables.exec = Jvm.exec) (hb : c.code = cL_law) (hX : va_X b L xs s s.heap) (hbl : b < s.heap.size) (hbA : ¬ A b) (hS : va_S A s.heap H locs) (hl : lv_has ls 8 [(3, .int (nI i)), (2, .ref m0), (1, .ref h0), (0, .ref b)]) (hi : i + 4 ≤ L) (hL : L ≤ 2048)
    (d0 : decode cL_law pc = .ok (.aload_n 0, 1)) (d1 : decode cL_law (pc + 1) = .ok (.iload_n 3, 1)) (d2 : decode cL_law (pc + 1 + 1) = .ok (.iconst 3, 1)) (d3 : decode cL_law (pc + 1 + 1 + 1) = .ok (.iadd, 1)) (d4 : decode cL_law (pc + 1 + 1 + 1 + 1) = .ok (.iaload, 1))
    (kk : W p l e room_1 s m args below meth c H locs cells slots Q (F0 m (pc + 5) ls (.int (xs (i + 3)) :: st))) : W p l e room_1 s m args below meth c H locs cells slots Q (F0 m pc ls st) := by
  refine lv_aload_n hx hb d0 rfl (lv_at hl 3 rfl) ?_
  refine lv_iload_n hx hb d1 rfl (lv_at hl 0 rfl) ?_
  refine lv_iconst (v := 3) hx hb d2 (by decide) ?_
  refine lv_iadd hx hb d3 ?_
  rw [show (3 : Int32) = nI 3 from rfl, nI_add]
  refine va_sld hx hb hX hbl hbA hS (vp_in_nI (by omega) (by omega)) d4 ?_
  rw [nI_clamp (by omega)]
  exact kk
def ulGo (p : Program) (l : Launch) (e : Env) (s : State) (m : MethodId) (args : Array Value) (below : List Frame) (meth : Method) (c : Code) (Q : State → Prop) (D : va_G) (cI cT : ClassId) (A : Nat → Prop) (b : Nat) (h0 m0 : Nat) (ad md : Nat → Nat) (i cells slots cnt pc : Nat) : Prop :=
  ∀ (X : va_W) (z : Option Nat) (lr : Int32) (ld : Int32) (hn : Int32) (hf : Int32) (ll : Int32) (lc : Nat → Int32) (T : ubT) (tr : ubT) (on0 : Int32) (ps0 : Int32) (ok0 : Nat → Int32) (om0 : Nat → Int32) (tl : Int32) (tc : Nat → Int32) (G : ubG) (fl0 : Int32) (ch0 : Int32) (wy0 : Int32) (dt0 : Int32) (is0 : Int32) (tn0 : Int32) (he0 : Int32) (en0 : Int32) (ln0 : Int32) (iw0 : Int32) (id0 : Int32) (bf0 : Nat → Int32) (pa0 : Nat → Int32) (v0 : Nat → Int32) (kp0 : Nat → Int32) (sv0 : Nat → Int32) (tx0 : Nat → Int32) (li0 : Nat → Int32) (H : Heap) (locs : List Loc) (ls : Array Slot), ulR cI cnt z X lr ld hn hf ll lc T tl tc G ch0 wy0 dt0 is0 tn0 ln0 pa0 v0 sv0 tx0 li0 → va_P D vwCl (((ulC cI cT h0 ad z lr ld hn hf ll lc T tr on0 ps0 ok0 om0 tl tc G) ++ ((ulM cI m0 md fl0 ch0 wy0 dt0 is0 tn0 he0 en0 ln0 iw0 id0 bf0 pa0 v0 kp0 sv0 tx0 li0) ++ X)) ++ ub_pool cI G) H → va_D A (((ulC cI cT h0 ad z lr ld hn hf ll lc T tr on0 ps0 ok0 om0 tl tc G) ++ ((ulM cI m0 md fl0 ch0 wy0 dt0 is0 tn0 he0 en0 ln0 iw0 id0 bf0 pa0 v0 kp0 sv0 tx0 li0) ++ X)) ++ ub_pool cI G) → va_S A s.heap H locs → lv_has ls 8 [(3, .int (nI i)), (2, .ref m0), (1, .ref h0), (0, .ref b)] → W p l e room_1 s m args below meth c H locs cells slots Q (F0 m pc ls [])
end UL50
