/-! ===== the object as a state ===== -/
def uoC (cI cT : ClassId) (h0 : Nat) (ad : Nat → Nat) (z : Option Nat) (lr : Int32) (ld : Int32) (hn : Int32) (hf : Int32) (ll : Int32) (lc : Nat → Int32) (T : ubT) (tr : ubT) (on0 : Int32) (ps0 : Int32) (ok0 : Nat → Int32) (om0 : Nat → Int32) (tl : Int32) (tc : Nat → Int32) (G : ubG) : va_W := [(h0, .inr (10, [.ref (ad 5), .ref (ad 28), .ref (ad 1), .ref (ad 26), .ref (ad 23), .ref (ad 3), va_rf z, .int lr, .int ld])), ((ad 1), .inr (3, [.int hn, .int hf, .ref (ad 2)])), ((ad 2), .inl (cT, 9, .inr (.inr (.inr (.inr (ub_rw G)))))), ((ad 3), .inr (4, [.int ll, .ref (ad 4)])), ((ad 4), .inl (cI, 128, .inl lc)), ((ad 5), .inr (9, [.ref (ad 16), .ref (ad 6), .ref (ad 10), .ref (ad 15), .int T.1, .int T.2.1, .int T.2.2.1, .int T.2.2.2.1, .int T.2.2.2.2.1, .int T.2.2.2.2.2.1, .int T.2.2.2.2.2.2.1, .int T.2.2.2.2.2.2.2.1])), ((ad 6), .inr (6, [.int T.2.2.2.2.2.2.2.2.1, .ref (ad 8), .ref (ad 7), .ref (ad 9)])), ((ad 7), .inl (cI, 16, .inl T.2.2.2.2.2.2.2.2.2.1)), ((ad 8), .inl (cI, 16, .inl T.2.2.2.2.2.2.2.2.2.2.1)), ((ad 9), .inl (cI, 16, .inl T.2.2.2.2.2.2.2.2.2.2.2.1)), ((ad 10), .inr (2, [.int T.2.2.2.2.2.2.2.2.2.2.2.2.1, .int T.2.2.2.2.2.2.2.2.2.2.2.2.2.1, .ref (ad 13), .ref (ad 12), .ref (ad 11), .ref (ad 14)])), ((ad 11), .inl (cI, 20, .inl T.2.2.2.2.2.2.2.2.2.2.2.2.2.2.1)), ((ad 12), .inl (cI, 20, .inl T.2.2.2.2.2.2.2.2.2.2.2.2.2.2.2.1)), ((ad 13), .inl (cI, 20, .inl T.2.2.2.2.2.2.2.2.2.2.2.2.2.2.2.2.1)), ((ad 14), .inl (cI, 20, .inl T.2.2.2.2.2.2.2.2.2.2.2.2.2.2.2.2.2.1)), ((ad 15), .inl (cI, 24, .inl T.2.2.2.2.2.2.2.2.2.2.2.2.2.2.2.2.2.2.1)), ((ad 16), .inr (7, [.int T.2.2.2.2.2.2.2.2.2.2.2.2.2.2.2.2.2.2.2.1, .ref (ad 21), .ref (ad 19), .ref (ad 22), .ref (ad 17), .ref (ad 20), .ref (ad 18)])), ((ad 17), .inl (cI, 12, .inl T.2.2.2.2.2.2.2.2.2.2.2.2.2.2.2.2.2.2.2.2.1)), ((ad 18), .inl (cI, 12, .inl T.2.2.2.2.2.2.2.2.2.2.2.2.2.2.2.2.2.2.2.2.2.1)), ((ad 19), .inl (cI, 12, .inl T.2.2.2.2.2.2.2.2.2.2.2.2.2.2.2.2.2.2.2.2.2.2.1)), ((ad 20), .inl (cI, 12, .inl T.2.2.2.2.2.2.2.2.2.2.2.2.2.2.2.2.2.2.2.2.2.2.2.1)), ((ad 21), .inl (cI, 12, .inl T.2.2.2.2.2.2.2.2.2.2.2.2.2.2.2.2.2.2.2.2.2.2.2.2.1)), ((ad 22), .inl (cI, 12, .inl T.2.2.2.2.2.2.2.2.2.2.2.2.2.2.2.2.2.2.2.2.2.2.2.2.2)), ((ad 23), .inr (5, [.int on0, .ref (ad 24), .ref (ad 25), .int ps0])), ((ad 24), .inl (cI, 60, .inl ok0)), ((ad 25), .inl (cI, 180, .inl om0)), ((ad 26), .inr (8, [.int tl, .ref (ad 27)])), ((ad 27), .inl (cI, 60, .inl tc)), ((ad 28), .inr (9, [.ref (ad 39), .ref (ad 29), .ref (ad 33), .ref (ad 38), .int tr.1, .int tr.2.1, .int tr.2.2.1, .int tr.2.2.2.1, .int tr.2.2.2.2.1, .int tr.2.2.2.2.2.1, .int tr.2.2.2.2.2.2.1, .int tr.2.2.2.2.2.2.2.1])), ((ad 29), .inr (6, [.int tr.2.2.2.2.2.2.2.2.1, .ref (ad 31), .ref (ad 30), .ref (ad 32)])), ((ad 30), .inl (cI, 16, .inl tr.2.2.2.2.2.2.2.2.2.1)), ((ad 31), .inl (cI, 16, .inl tr.2.2.2.2.2.2.2.2.2.2.1)), ((ad 32), .inl (cI, 16, .inl tr.2.2.2.2.2.2.2.2.2.2.2.1)), ((ad 33), .inr (2, [.int tr.2.2.2.2.2.2.2.2.2.2.2.2.1, .int tr.2.2.2.2.2.2.2.2.2.2.2.2.2.1, .ref (ad 36), .ref (ad 35), .ref (ad 34), .ref (ad 37)])), ((ad 34), .inl (cI, 20, .inl tr.2.2.2.2.2.2.2.2.2.2.2.2.2.2.1)), ((ad 35), .inl (cI, 20, .inl tr.2.2.2.2.2.2.2.2.2.2.2.2.2.2.2.1)), ((ad 36), .inl (cI, 20, .inl tr.2.2.2.2.2.2.2.2.2.2.2.2.2.2.2.2.1)), ((ad 37), .inl (cI, 20, .inl tr.2.2.2.2.2.2.2.2.2.2.2.2.2.2.2.2.2.1)), ((ad 38), .inl (cI, 24, .inl tr.2.2.2.2.2.2.2.2.2.2.2.2.2.2.2.2.2.2.1)), ((ad 39), .inr (7, [.int tr.2.2.2.2.2.2.2.2.2.2.2.2.2.2.2.2.2.2.2.1, .ref (ad 44), .ref (ad 42), .ref (ad 45), .ref (ad 40), .ref (ad 43), .ref (ad 41)])), ((ad 40), .inl (cI, 12, .inl tr.2.2.2.2.2.2.2.2.2.2.2.2.2.2.2.2.2.2.2.2.1)), ((ad 41), .inl (cI, 12, .inl tr.2.2.2.2.2.2.2.2.2.2.2.2.2.2.2.2.2.2.2.2.2.1)), ((ad 42), .inl (cI, 12, .inl tr.2.2.2.2.2.2.2.2.2.2.2.2.2.2.2.2.2.2.2.2.2.2.1)), ((ad 43), .inl (cI, 12, .inl tr.2.2.2.2.2.2.2.2.2.2.2.2.2.2.2.2.2.2.2.2.2.2.2.1)), ((ad 44), .inl (cI, 12, .inl tr.2.2.2.2.2.2.2.2.2.2.2.2.2.2.2.2.2.2.2.2.2.2.2.2.1)), ((ad 45), .inl (cI, 12, .inl tr.2.2.2.2.2.2.2.2.2.2.2.2.2.2.2.2.2.2.2.2.2.2.2.2.2))]
/-- what a machine holds: its state, the states that can be undone, the snapshot, the reason, its detail, the line -/
abbrev uS : Type := (Nat → Nat) × List (Nat → Nat) × Option (Nat → Nat) × Int32 × Int32 × List Nat
def uo_S (cI : ClassId) (z : Option Nat) (X : va_W) (sv : Option (Nat → Nat)) (k : Nat) : Prop :=
  (z = none ∧ X = [] ∧ sv = none) ∨ (∃ (a : Nat → Nat) (S : ubT) (f : Nat → Nat), z = some (a 0) ∧ X = ub_tw cI a S ∧ sv = some f ∧ um_C f S ∧ um_I f k)
theorem uo_S_mono {cI : ClassId} {z : Option Nat} {X : va_W} {sv : Option (Nat → Nat)} {c d : Nat} (hcd : c ≤ d) (hd : d ≤ 2 ^ 20) (h : uo_S cI z X sv c) : uo_S cI z X sv d := by
  rcases h with h | ⟨a, S, f, h1, h2, h3, h4, h5⟩
  · exact Or.inl h
  · exact Or.inr ⟨a, S, f, h1, h2, h3, h4, um_I_up hcd hd h5⟩
def uo_W (g : us_G) (h0 k : Nat) (f : Nat → Nat) (hist : List (Nat → Nat)) (sv : Option (Nat → Nat)) (lr ld : Int32) (L : List Nat) (W : va_W) : Prop :=
  ∃ (ad : Nat → Nat) (X : va_W) (z : Option Nat) (hf : Nat) (T tr : ubT) (on0 ps0 : Int32) (ok0 om0 tc lc : Nat → Int32) (G : ubG),
    W = ((uoC g.2.1 g.2.2.1 h0 ad z lr ld (nI hist.length) (nI hf) (nI L.length) lc T tr on0 ps0 ok0 om0 0 tc G ++ X) ++ ub_pool g.2.1 G) ∧ um_I f k ∧ um_C f T ∧ uH k (ub_cn G) hf hist ∧ ut_L L.length lc L ∧ lr ≠ 0 ∧ uo_S g.2.1 z X sv k
def uo_R (g : us_G) (h0 k : Nat) (S : uS) (W : va_W) : Prop := uo_W g h0 k S.1 S.2.1 S.2.2.1 S.2.2.2.1 S.2.2.2.2.1 S.2.2.2.2.2 W
theorem uo_W_mono {g : us_G} {h0 c d : Nat} {f : Nat → Nat} {hist : List (Nat → Nat)} {sv : Option (Nat → Nat)} {lr ld : Int32} {L : List Nat} {W : va_W} (hcd : c ≤ d) (hd : d ≤ 2 ^ 20) (h : uo_W g h0 c f hist sv lr ld L W) : uo_W g h0 d f hist sv lr ld L W := by
  obtain ⟨ad, X, z, hf, T, tr, on0, ps0, ok0, om0, tc, lc, G, h1, h2, h3, h4, h5, h6, h7⟩ := h
  exact ⟨ad, X, z, hf, T, tr, on0, ps0, ok0, om0, tc, lc, G, h1, um_I_up hcd hd h2, h3, uH_mono hcd hd h4, h5, h6, uo_S_mono hcd hd h7⟩
theorem uo_R_mono {g : us_G} {h0 c d : Nat} {S : uS} {W : va_W} (hcd : c ≤ d) (hd : d ≤ 2 ^ 20) (h : uo_R g h0 c S W) : uo_R g h0 d S W := uo_W_mono hcd hd h
theorem us_AP {W wc fr : va_W} {sz : Nat} (hp : W.Perm (wc ++ fr)) : ∀ q, va_A wc sz q → va_A W sz q := by
  rintro q (⟨k, e, hk⟩ | hq)
  · have h1 : (q, e) ∈ W := hp.symm.subset (List.mem_append_left _ (List.mem_of_getElem? hk))
    obtain ⟨j, hj⟩ := List.getElem?_of_mem h1
    exact Or.inl ⟨j, e, hj⟩
  · exact Or.inr hq
theorem us_frame {S0 : Type} {P0 : Int32 → S0 → Prop} {B : S0 → State → Prop} {w1 : S0 → va_W} {C : S0 → Prop} {post : Int32 → va_W → Prop} {l : Launch} {y : MethodName} {ws : List Cond} {rm : Room} {mc ms : Nat} {av : List Value} {g : us_G} {wc W fr : va_W} {sz : Nat}
    (h : Met l y ws rm (va_Pc av (ub_pc g.1 g.2.1 g.2.2.1 wc sz)) (va_Qi P0 B (va_A wc sz)) mc ms (va_A wc sz)) (hB : ∀ u t, B u t → C u ∧ ub_pq g.1 (w1 u) (va_A wc sz) t) (hp : W.Perm (wc ++ fr)) (hpost : ∀ r u, P0 r u → C u → ∃ W1 : va_W, W1.Perm (w1 u ++ fr) ∧ post r W1) :
    Met l y ws rm (va_Pc av (us_pc g W sz)) (va_Qi post (fun u t => ub_pq g.1 u (va_A W sz) t) (va_A W sz)) mc ms (va_A W sz) := by
  refine us_conseq h ?_ ?_ (us_AP hp)
  · rintro a U ⟨rfl, hU⟩
    obtain ⟨h1, h2, h3, h4, h5⟩ := hU.ub
    obtain ⟨hPc, hDc⟩ := ub_subP h2 h4 hp
    exact ⟨rfl, h1, hPc, h3, hDc, h5⟩
  · rintro a st oc t ⟨rfl, hU⟩ ⟨⟨r, u, e1, e2, e3⟩, hF1, hF2⟩
    obtain ⟨h1, h2, h3, h4, h5⟩ := hU.ub
    obtain ⟨hC, hP1, hD1⟩ := hB u t e3
    subst h1
    obtain ⟨g1, g2⟩ := ub_joinP (H := st.heap) (H1 := t.heap) h2 h4.self hp (us_AP hp) hF2 hP1 hD1
    obtain ⟨W1, p1, p2⟩ := hpost r u e2 hC
    exact ⟨⟨r, W1, e1, p2, ub_P_perm p1.symm g1, ub_D_perm p1.symm g2⟩, hF1, fun q hq hn => hF2 q hq (fun z => hn (us_AP hp q z))⟩
theorem us_framed {S0 : Type} {P0 : UInt64 → S0 → Prop} {B : S0 → State → Prop} {w1 : S0 → va_W} {C : S0 → Prop} {post : UInt64 → va_W → Prop} {l : Launch} {y : MethodName} {ws : List Cond} {rm : Room} {mc ms : Nat} {av : List Value} {g : us_G} {wc W fr : va_W} {sz : Nat}
    (h : Met l y ws rm (va_Pc av (ub_pc g.1 g.2.1 g.2.2.1 wc sz)) (va_Qd P0 B (va_A wc sz)) mc ms (va_A wc sz)) (hB : ∀ u t, B u t → C u ∧ ub_pq g.1 (w1 u) (va_A wc sz) t) (hp : W.Perm (wc ++ fr)) (hpost : ∀ r u, P0 r u → C u → ∃ W1 : va_W, W1.Perm (w1 u ++ fr) ∧ post r W1) :
    Met l y ws rm (va_Pc av (us_pc g W sz)) (va_Qd post (fun u t => ub_pq g.1 u (va_A W sz) t) (va_A W sz)) mc ms (va_A W sz) := by
  refine us_conseq h ?_ ?_ (us_AP hp)
  · rintro a U ⟨rfl, hU⟩
    obtain ⟨h1, h2, h3, h4, h5⟩ := hU.ub
    obtain ⟨hPc, hDc⟩ := ub_subP h2 h4 hp
    exact ⟨rfl, h1, hPc, h3, hDc, h5⟩
  · rintro a st oc t ⟨rfl, hU⟩ ⟨⟨r, u, e1, e2, e3⟩, hF1, hF2⟩
    obtain ⟨h1, h2, h3, h4, h5⟩ := hU.ub
    obtain ⟨hC, hP1, hD1⟩ := hB u t e3
    subst h1
    obtain ⟨g1, g2⟩ := ub_joinP (H := st.heap) (H1 := t.heap) h2 h4.self hp (us_AP hp) hF2 hP1 hD1
    obtain ⟨W1, p1, p2⟩ := hpost r u e2 hC
    exact ⟨⟨r, W1, e1, p2, ub_P_perm p1.symm g1, ub_D_perm p1.symm g2⟩, hF1, fun q hq hn => hF2 q hq (fun z => hn (us_AP hp q z))⟩
theorem us_framef {S0 : Type} {P0 : UInt32 → S0 → Prop} {B : S0 → State → Prop} {w1 : S0 → va_W} {C : S0 → Prop} {post : UInt32 → va_W → Prop} {l : Launch} {y : MethodName} {ws : List Cond} {rm : Room} {mc ms : Nat} {av : List Value} {g : us_G} {wc W fr : va_W} {sz : Nat}
    (h : Met l y ws rm (va_Pc av (ub_pc g.1 g.2.1 g.2.2.1 wc sz)) (va_Qf P0 B (va_A wc sz)) mc ms (va_A wc sz)) (hB : ∀ u t, B u t → C u ∧ ub_pq g.1 (w1 u) (va_A wc sz) t) (hp : W.Perm (wc ++ fr)) (hpost : ∀ r u, P0 r u → C u → ∃ W1 : va_W, W1.Perm (w1 u ++ fr) ∧ post r W1) :
    Met l y ws rm (va_Pc av (us_pc g W sz)) (va_Qf post (fun u t => ub_pq g.1 u (va_A W sz) t) (va_A W sz)) mc ms (va_A W sz) := by
  refine us_conseq h ?_ ?_ (us_AP hp)
  · rintro a U ⟨rfl, hU⟩
    obtain ⟨h1, h2, h3, h4, h5⟩ := hU.ub
    obtain ⟨hPc, hDc⟩ := ub_subP h2 h4 hp
    exact ⟨rfl, h1, hPc, h3, hDc, h5⟩
  · rintro a st oc t ⟨rfl, hU⟩ ⟨⟨r, u, e1, e2, e3⟩, hF1, hF2⟩
    obtain ⟨h1, h2, h3, h4, h5⟩ := hU.ub
    obtain ⟨hC, hP1, hD1⟩ := hB u t e3
    subst h1
    obtain ⟨g1, g2⟩ := ub_joinP (H := st.heap) (H1 := t.heap) h2 h4.self hp (us_AP hp) hF2 hP1 hD1
    obtain ⟨W1, p1, p2⟩ := hpost r u e2 hC
    exact ⟨⟨r, W1, e1, p2, ub_P_perm p1.symm g1, ub_D_perm p1.symm g2⟩, hF1, fun q hq hn => hF2 q hq (fun z => hn (us_AP hp q z))⟩
theorem uo_P0 {fx fc fr Y : va_W} (h : fx.Perm (fc ++ fr)) : (fx ++ Y).Perm (fc ++ (fr ++ Y)) := by
  rw [← List.append_assoc]
  exact h.append_right Y
theorem uo_P1 {fx fc fr Y Z : va_W} (h : fx.Perm (fc ++ fr)) : ((fx ++ Y) ++ Z).Perm (fc ++ ((fr ++ Y) ++ Z)) := uo_P0 (uo_P0 h)
theorem uo_P3 {fx fc fr Y Z : va_W} (h : fx.Perm (fc ++ fr)) : ((fx ++ Y) ++ Z).Perm ((fc ++ Z) ++ (fr ++ Y)) := ub_permP (uo_P0 h)
theorem uo_P4 {fx fc fr X Z : va_W} (h : fx.Perm (fc ++ fr)) : ((fx ++ X) ++ Z).Perm ((fc ++ X) ++ (fr ++ Z)) := by
  refine ((h.append_right X).append_right Z).trans ?_
  simp only [List.append_assoc]
  exact List.Perm.append_left fc (List.perm_append_comm_assoc fr X Z)
