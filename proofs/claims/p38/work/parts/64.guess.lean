/-! ===== the guess by parts ===== -/
def ug_b (W G : Nat → Nat) : Nat → Nat
  | 0 => 0
  | j + 1 => if 0 < G (3 - j) ∧ (ug_b W G j = 0 ∨ ¬ (G (3 - j) * W (ug_b W G j - 1) < G (ug_b W G j - 1) * W (3 - j) ∨ (G (3 - j) * W (ug_b W G j - 1) = G (ug_b W G j - 1) * W (3 - j) ∧ G (3 - j) < G (ug_b W G j - 1)))) then 3 - j + 1 else ug_b W G j
theorem ug_bs {W G : Nat → Nat} {j : Nat} : ug_b W G (j + 1) = if 0 < G (3 - j) ∧ (ug_b W G j = 0 ∨ ¬ (G (3 - j) * W (ug_b W G j - 1) < G (ug_b W G j - 1) * W (3 - j) ∨ (G (3 - j) * W (ug_b W G j - 1) = G (ug_b W G j - 1) * W (3 - j) ∧ G (3 - j) < G (ug_b W G j - 1)))) then 3 - j + 1 else ug_b W G j := rfl
theorem ug_inv {W G : Nat → Nat} (hG : ∀ q, G q ≤ W q) : ∀ j, j ≤ 4 → (ug_b W G j = 0 ∧ ∀ q, 4 - j ≤ q → q < 4 → G q = 0) ∨ (∃ p, 4 - j ≤ p ∧ p < 4 ∧ ug_b W G j = p + 1 ∧ um_best W G (fun q => 4 - j ≤ q ∧ q < 4 ∧ 0 < G q) p)
  | 0, _ => Or.inl ⟨rfl, fun q h1 h2 => by omega⟩
  | j + 1, hj => by
    have hW : ∀ q, (4 - j ≤ q ∧ q < 4 ∧ 0 < G q) → 0 < W q := fun q hq => Nat.lt_of_lt_of_le hq.2.2 (hG q)
    rw [ug_b]
    rcases ug_inv hG j (by omega) with ⟨e, h0⟩ | ⟨p, hp, hp4, e, hb⟩
    · rw [e]
      by_cases hg : 0 < G (3 - j)
      · rw [if_pos ⟨hg, Or.inl rfl⟩]
        refine Or.inr ⟨3 - j, by omega, by omega, rfl, ⟨by omega, by omega, hg⟩, fun q hq hne => ?_⟩
        have := h0 q (by omega) hq.2.1
        omega
      · rw [if_neg (fun z => hg z.1)]
        refine Or.inl ⟨rfl, fun q h1 h2 => ?_⟩
        by_cases e2 : q = 3 - j
        · rw [e2]
          omega
        · exact h0 q (by omega) h2
    · rw [e, Nat.add_sub_cancel]
      by_cases hg : 0 < G (3 - j)
      · have k := um_best_more hW (Nat.lt_of_lt_of_le hg (hG _)) hb
        have hCD : ∀ q, ((4 - j ≤ q ∧ q < 4 ∧ 0 < G q) ∨ q = 3 - j) ↔ (4 - (j + 1) ≤ q ∧ q < 4 ∧ 0 < G q) := fun q => by
          constructor
          · rintro (h | h)
            · exact ⟨by omega, h.2.1, h.2.2⟩
            · subst h
              exact ⟨by omega, by omega, hg⟩
          · intro h
            by_cases hqi : q = 3 - j
            · exact Or.inr hqi
            · exact Or.inl ⟨by omega, h.2.1, h.2.2⟩
        by_cases hc : G (3 - j) * W p < G p * W (3 - j) ∨ (G (3 - j) * W p = G p * W (3 - j) ∧ G (3 - j) < G p)
        · rw [if_neg (fun z => by
            rcases z.2 with z | z
            · omega
            · exact z hc)]
          have hbt : um_bt W G (3 - j) p = false := by
            cases h : um_bt W G (3 - j) p
            · rfl
            · rw [um_bt_iff] at h
              generalize G (3 - j) * W p = x at *
              generalize G p * W (3 - j) = y at *
              omega
          exact Or.inr ⟨p, by omega, hp4, rfl, um_best_congr hCD (k.2 hbt)⟩
        · rw [if_pos ⟨hg, Or.inr hc⟩]
          have hbt : um_bt W G (3 - j) p = true := by
            rw [um_bt_iff]
            generalize G (3 - j) * W p = x at *
            generalize G p * W (3 - j) = y at *
            omega
          exact Or.inr ⟨3 - j, by omega, by omega, rfl, um_best_congr hCD (k.1 hbt)⟩
      · rw [if_neg (fun z => hg z.1)]
        refine Or.inr ⟨p, by omega, hp4, rfl, um_best_congr (fun q => ?_) hb⟩
        constructor
        · intro h
          exact ⟨by omega, h.2.1, h.2.2⟩
        · intro h
          refine ⟨?_, h.2.1, h.2.2⟩
          by_cases hqi : q = 3 - j
          · rw [hqi] at h
            omega
          · omega
theorem ug_same {P : Nat → Nat} {n H : Nat} : um_gI (ug_b (um_gW P n) (um_gG P n H) 4) = um_guess P n H := by
  unfold um_guess
  congr 1
  have hG : ∀ q, um_gG P n H q ≤ um_gW P n q := fun q => um_gG_le
  rcases um_gp_inv hG 4 with ⟨e, h0⟩ | ⟨p, hp, e, hb⟩
  · rcases ug_inv hG 4 (Nat.le_refl 4) with ⟨g, -⟩ | ⟨p, -, hp, g, hb⟩
    · rw [e, g]
    · have := h0 p hp
      have := hb.1.2.2
      omega
  · rcases ug_inv hG 4 (Nat.le_refl 4) with ⟨g, h0⟩ | ⟨p2, -, hp2, g, hb2⟩
    · have := h0 p (by omega) hp
      have := hb.1.2
      omega
    · rw [e, g]
      have := um_best_one hb (um_best_congr (D := fun q => q < 4 ∧ 0 < um_gG P n H q) (fun q => ⟨fun h => h.2, fun h => ⟨by omega, h⟩⟩) hb2)
      rw [this]
theorem ug_b_le {W G : Nat → Nat} : ∀ j, ug_b W G j ≤ 4
  | 0 => Nat.zero_le 4
  | j + 1 => by
    have := ug_b_le (W := W) (G := G) j
    rw [ug_b]
    split <;> omega
theorem ug_up {a : Nat → Int32} {b : Nat → Nat → Bool} {P i : Nat} {x : Int32} (h : ∀ p, p < 4 → a p = nI (um_cnt (b p) i)) (hx : x = nI (um_cnt (b P) i + um_b2n (b P i))) (hne : ∀ p, p ≠ P → b p i = false) : ∀ p, p < 4 → upd a P x p = nI (um_cnt (b p) (i + 1)) := by
  intro p hp
  rw [um_cnt_s]
  by_cases e : p = P
  · rw [e, um_upd_at, hx]
  · rw [um_upd_other e, h p hp, hne p e]
    rfl
theorem ug_dn : ∀ j, j < 4 → (3 : Int32) - nI j = nI (3 - j) ∧ ¬ nI (3 - j) < 0 ∧ nI (3 - j) + -1 = 3 - nI (j + 1) := by decide +kernel
theorem us_le12 {b : Nat → Bool} {n : Nat} (h : n ≤ 12) : um_cnt b n < 13 := Nat.lt_of_le_of_lt um_cnt_le (by omega)
theorem ug_sub_ge {a b : Nat} (ha : a < 2 ^ 30) (hb : b < 2 ^ 30) : (0 : Int32) ≤ nI a - nI b ↔ b ≤ a := by
  have h := um_sub_lt0 ha hb
  constructor
  · intro z
    apply Nat.le_of_not_lt
    intro y
    exact absurd (h.mpr y) (Int32.not_lt.mpr z)
  · intro z
    exact Int32.not_lt.mp (fun y => by have := h.mp y; omega)
theorem us_hL_guess : yL_guess.cls ≠ "java/lang/invoke/MethodHandle" ∧ yL_guess.cls ≠ "java/lang/invoke/VarHandle" ∧ (parseMethodDescriptor yL_guess.desc).map (fun d => d.parameters.length) = some 2 := by decide +kernel
set_option maxHeartbeats 4000000 in
set_option maxRecDepth 100000 in
theorem ul_guess (l : Launch) (g : us_G) {sz : Nat} {h0 k : Nat} {f : Nat → Nat} {hist : List (Nat → Nat)} {sv : Option (Nat → Nat)} {lr ld : Int32} {L : List Nat} {Wo : va_W} (hR : uo_W g h0 k f hist sv lr ld L Wo) {t : Nat} (ht : t < 24) : Met l yL_guess wsL_guess ({ frames := 4, cells := 2, slots := 8, locals := 87 } : Room) (va_Pc [.ref h0, .int (nI t)] (us_pc g Wo sz)) (va_Qi (fun (r : Int32) (u : va_W) => r = um_guess (um_pa f) (f 0) (f (211 + t)) ∧ uo_W g h0 k f hist sv lr ld L u) (fun u t => ub_pq g.1 u (va_A Wo sz) t) (va_A Wo sz)) 2 8 (va_A Wo sz) := by
  refine us_met_i (y := yL_guess) (cc := cL_guess) (nL := 7) (av := [.ref h0, .int (nI t)]) (post := (fun (r : Int32) (u : va_W) => r = um_guess (um_pa f) (f 0) (f (211 + t)) ∧ uo_W g h0 k f hist sv lr ld L u)) (by decide +kernel) (Nat.le_of_ble_eq_true rfl) fun p e s m args below meth c Q A K hret ls hl hP hD hS => ?_
  obtain ⟨hx, hb, hml, hown, hts, hK, hN, hA, hZ⟩ := K
  have hl : lv_has ls 7 [(0, .ref h0), (1, .int (nI t))] := hl
  have hI := (uo_W_len hR).2
  have q1 : f 0 ≤ 12 := hI.2.1
  have q2 : f 1 ≤ 16 := hI.2.2.1
  have hP4 : ∀ r, r < f 0 → um_pa f r < 4 := fun r hr => (hI.2.2.2.2.2.2.2.2.2.1 r (by omega)).1
  have hH := um_I_set hI ht
  refine lv_iconst (v := 4) hx hb dL_guess_0 (by decide) ?_
  refine us_newi (g := g) (N := 4) hx hb (hts _ us_m115) hK hP hD hS hA (by decide) (by decide) (by decide) (by show 0 + 1 ≤ 2; omega) (by show 0 + 4 ≤ 8; omega) dL_guess_1 (fun q2 H hP hD hS => ?_)
  have hP : va_P g.1 vwCl ([(q2, .inl (g.2.1, 4, .inl (fun _ => 0)))] ++ Wo) H := ub_P_perm List.perm_append_comm hP
  have hD : va_D A ([(q2, .inl (g.2.1, 4, .inl (fun _ => 0)))] ++ Wo) := ub_D_perm List.perm_append_comm hD
  refine lv_astore_n (lv' := [(2, .ref q2), (0, .ref h0), (1, .int (nI t))]) hx hb dL_guess_3 rfl hl (by decide) rfl (fun ls hl => ?_)
  refine lv_iconst (v := 4) hx hb dL_guess_4 (by decide) ?_
  refine us_newi (g := g) (N := 4) hx hb (hts _ us_m115) hK hP hD hS hA (by decide) (by decide) (by decide) (by show (0 + 1) + 1 ≤ 2; omega) (by show (0 + 4) + 4 ≤ 8; omega) dL_guess_5 (fun q3 H hP hD hS => ?_)
  have hP : va_P g.1 vwCl ([(q2, .inl (g.2.1, 4, .inl (fun _ => 0))), (q3, .inl (g.2.1, 4, .inl (fun _ => 0)))] ++ Wo) H := ub_P_perm us_pn hP
  have hD : va_D A ([(q2, .inl (g.2.1, 4, .inl (fun _ => 0))), (q3, .inl (g.2.1, 4, .inl (fun _ => 0)))] ++ Wo) := ub_D_perm us_pn hD
  refine W.widen (k := 2) (n := 8) (by omega) (by omega) ?_
  refine lv_astore_n (lv' := [(3, .ref q3), (2, .ref q2), (0, .ref h0), (1, .int (nI t))]) hx hb dL_guess_7 rfl hl (by decide) rfl (fun ls hl => ?_)
  refine lv_iconst (v := 0) hx hb dL_guess_8 (by decide) ?_
  refine lv_istore (lv' := [(4, .int 0), (3, .ref q3), (2, .ref q2), (0, .ref h0), (1, .int (nI t))]) hx hb dL_guess_9 hl (by decide) rfl (fun ls hl => ?_)
  have loop2 : ∀ (q i : Nat) (a2 : Nat → Int32) (a3 : Nat → Int32) (Wo : va_W) (H : Heap) (locs : List Loc) (ls : Array Slot), 4 = i + q → (∀ p, p < 4 → a2 p = nI (um_gG (um_pa f) (f 0) (f (211 + t)) p)) → (∀ p, p < 4 → a3 p = nI (um_gW (um_pa f) (f 0) p)) → uo_W g h0 k f hist sv lr ld L Wo → lv_has ls 7 [(5, .int (3 - nI i)), (4, .int (um_gI (ug_b (um_gW (um_pa f) (f 0)) (um_gG (um_pa f) (f 0) (f (211 + t))) i))), (0, .ref h0), (1, .int (nI t)), (2, .ref q2), (3, .ref q3)] → va_P g.1 vwCl ([(q2, .inl (g.2.1, 4, .inl a2)), (q3, .inl (g.2.1, 4, .inl a3))] ++ Wo) H → va_D A ([(q2, .inl (g.2.1, 4, .inl a2)), (q3, .inl (g.2.1, 4, .inl a3))] ++ Wo) → va_S A s.heap H locs → W p l e ({ frames := 4, cells := 2, slots := 8, locals := 87 } : Room) s m args below meth c H locs 2 8 Q (F0 m 70 ls []) := by
    intro q
    induction q with
    | zero =>
      intro i a2 a3 Wo H locs ls hiq g2 g3 hR hl hP hD hS
      obtain rfl : i = 4 := by omega
      refine lv_iload hx hb dL_guess_70 (lv_at hl 0 rfl) ?_
      refine lv_if_lt (tgt := 153) hx hb dL_guess_72 (by decide) (fun _ => ?_) (fun cc => absurd (show (3 : Int32) - nI 4 < 0 by decide) cc)
      refine lv_iload hx hb dL_guess_153 (lv_at hl 1 rfl) ?_
      have hP : va_P g.1 vwCl Wo H := us_dropP hP
      have hD : va_D A Wo := us_dropD hD
      exact hret _ _ H locs _ ls ⟨ug_same, hR⟩ dL_guess_155 rfl hP hD hS
    | succ q ih =>
      intro i a2 a3 Wo H locs ls hiq g2 g3 hR hl hP hD hS
      have hi4 : i < 4 := by omega
      obtain ⟨z1, z2, z3⟩ := ug_dn i hi4
      rw [z1] at hl
      have hWl : ∀ p, (um_gW (um_pa f) (f 0)) p < 13 := fun p => us_le12 q1
      have hGl : ∀ p, (um_gG (um_pa f) (f 0) (f (211 + t))) p < 13 := fun p => us_le12 q1
      have hb4 := ug_b_le (W := um_gW (um_pa f) (f 0)) (G := um_gG (um_pa f) (f 0) (f (211 + t))) i
      have hstep := ug_bs (W := um_gW (um_pa f) (f 0)) (G := um_gG (um_pa f) (f 0) (f (211 + t))) (j := i)
      generalize ug_b (um_gW (um_pa f) (f 0)) (um_gG (um_pa f) (f 0) (f (211 + t))) i = b at *
      have J126 : ∀ (by0 : Int32) (Wo : va_W) (H : Heap) (locs : List Loc) (ls : Array Slot), ((0 : Int32) ≤ by0 ↔ (b = 0 ∨ ¬ (um_gG (um_pa f) (f 0) (f (211 + t)) (3 - i) * um_gW (um_pa f) (f 0) (b - 1) < um_gG (um_pa f) (f 0) (f (211 + t)) (b - 1) * um_gW (um_pa f) (f 0) (3 - i) ∨ (um_gG (um_pa f) (f 0) (f (211 + t)) (3 - i) * um_gW (um_pa f) (f 0) (b - 1) = um_gG (um_pa f) (f 0) (f (211 + t)) (b - 1) * um_gW (um_pa f) (f 0) (3 - i) ∧ um_gG (um_pa f) (f 0) (f (211 + t)) (3 - i) < um_gG (um_pa f) (f 0) (f (211 + t)) (b - 1))))) → uo_W g h0 k f hist sv lr ld L Wo → lv_has ls 7 [(6, .int by0), (5, .int (nI (3 - i))), (4, .int (um_gI b)), (0, .ref h0), (1, .int (nI t)), (2, .ref q2), (3, .ref q3)] → va_P g.1 vwCl ([(q2, .inl (g.2.1, 4, .inl a2)), (q3, .inl (g.2.1, 4, .inl a3))] ++ Wo) H → va_D A ([(q2, .inl (g.2.1, 4, .inl a2)), (q3, .inl (g.2.1, 4, .inl a3))] ++ Wo) → va_S A s.heap H locs → W p l e ({ frames := 4, cells := 2, slots := 8, locals := 87 } : Room) s m args below meth c H locs 2 8 Q (F0 m 126 ls []) := by
        intro by0 Wo H locs ls hby hR hl hP hD hS
        refine lv_aload_n hx hb dL_guess_126 rfl (lv_at hl 5 rfl) ?_
        refine lv_iload hx hb dL_guess_127 (lv_at hl 1 rfl) ?_
        refine va_iald hx hb hK hP 0 0 rfl rfl (i := nI (3 - i)) (vp_in_nI (by omega) (by decide)) dL_guess_129 ?_
        refine us_topi (x := nI (um_gG (um_pa f) (f 0) (f (211 + t)) (3 - i))) (by rw [nI_clamp (by omega)]; exact g2 _ (by omega)) ?_
        by_cases hg : 0 < um_gG (um_pa f) (f 0) (f (211 + t)) (3 - i)
        · refine lv_if_le (tgt := 143) hx hb dL_guess_130 (by decide) (fun cc => absurd cc (fun z => absurd ((nI_leI (by have := hGl (3 - i); omega) (by decide) (b := 0)).mp z) (by omega))) (fun _ => ?_)
          refine lv_iload hx hb dL_guess_133 (lv_at hl 0 rfl) ?_
          by_cases hc : (0 : Int32) ≤ by0
          · refine lv_if_lt (tgt := 143) hx hb dL_guess_135 (by decide) (fun cc => absurd cc (Int32.not_lt.mpr hc)) (fun _ => ?_)
            refine lv_iload hx hb dL_guess_138 (lv_at hl 1 rfl) ?_
            refine lv_goto (tgt := 145) hx hb dL_guess_140 (by decide) ?_
            have e9 : ug_b (um_gW (um_pa f) (f 0)) (um_gG (um_pa f) (f 0) (f (211 + t))) (i + 1) = 3 - i + 1 := hstep.trans (if_pos ⟨hg, hby.mp hc⟩)
            refine lv_istore (lv' := [(4, .int (nI (3 - i))), (6, .int by0), (5, .int (nI (3 - i))), (0, .ref h0), (1, .int (nI t)), (2, .ref q2), (3, .ref q3)]) hx hb dL_guess_145 hl (by decide) rfl (fun ls hl => ?_)
            refine lv_iinc (v := nI (3 - i) + (-1)) (lv' := [(5, .int (nI (3 - i) + (-1))), (4, .int (nI (3 - i))), (6, .int by0), (0, .ref h0), (1, .int (nI t)), (2, .ref q2), (3, .ref q3)]) hx hb dL_guess_147 hl (k := 2) rfl rfl (by decide) rfl (fun ls hl => ?_)
            refine lv_goto (tgt := 70) hx hb dL_guess_150 (by decide) ?_
            rw [z3] at hl
            exact ih (i + 1) a2 a3 Wo _ _ ls (by omega) g2 g3 hR (lv_sub (l' := [(5, .int (3 - nI (i + 1))), (4, .int (um_gI (ug_b (um_gW (um_pa f) (f 0)) (um_gG (um_pa f) (f 0) (f (211 + t))) (i + 1)))), (0, .ref h0), (1, .int (nI t)), (2, .ref q2), (3, .ref q3)]) hl [0, 1, 3, 4, 5, 6] (by rw [e9]; rfl)) hP hD hS
          · refine lv_if_lt (tgt := 143) hx hb dL_guess_135 (by decide) (fun _ => ?_) (fun cc => absurd (Int32.not_le.mp hc) cc)
            refine lv_iload hx hb dL_guess_143 (lv_at hl 2 rfl) ?_
            have e9 : ug_b (um_gW (um_pa f) (f 0)) (um_gG (um_pa f) (f 0) (f (211 + t))) (i + 1) = b := hstep.trans (if_neg (fun z => hc (hby.mpr z.2)))
            refine lv_istore (lv' := [(4, .int (um_gI b)), (6, .int by0), (5, .int (nI (3 - i))), (0, .ref h0), (1, .int (nI t)), (2, .ref q2), (3, .ref q3)]) hx hb dL_guess_145 hl (by decide) rfl (fun ls hl => ?_)
            refine lv_iinc (v := nI (3 - i) + (-1)) (lv' := [(5, .int (nI (3 - i) + (-1))), (4, .int (um_gI b)), (6, .int by0), (0, .ref h0), (1, .int (nI t)), (2, .ref q2), (3, .ref q3)]) hx hb dL_guess_147 hl (k := 2) rfl rfl (by decide) rfl (fun ls hl => ?_)
            refine lv_goto (tgt := 70) hx hb dL_guess_150 (by decide) ?_
            rw [z3] at hl
            exact ih (i + 1) a2 a3 Wo _ _ ls (by omega) g2 g3 hR (lv_sub (l' := [(5, .int (3 - nI (i + 1))), (4, .int (um_gI (ug_b (um_gW (um_pa f) (f 0)) (um_gG (um_pa f) (f 0) (f (211 + t))) (i + 1)))), (0, .ref h0), (1, .int (nI t)), (2, .ref q2), (3, .ref q3)]) hl [0, 1, 3, 4, 5, 6] (by rw [e9]; rfl)) hP hD hS
        · refine lv_if_le (tgt := 143) hx hb dL_guess_130 (by decide) (fun _ => ?_) (fun cc => absurd ((nI_leI (by have := hGl (3 - i); omega) (by decide) (b := 0)).mpr (by omega)) cc)
          refine lv_iload hx hb dL_guess_143 (lv_at hl 2 rfl) ?_
          have e9 : ug_b (um_gW (um_pa f) (f 0)) (um_gG (um_pa f) (f 0) (f (211 + t))) (i + 1) = b := hstep.trans (if_neg (fun z => hg z.1))
          refine lv_istore (lv' := [(4, .int (um_gI b)), (6, .int by0), (5, .int (nI (3 - i))), (0, .ref h0), (1, .int (nI t)), (2, .ref q2), (3, .ref q3)]) hx hb dL_guess_145 hl (by decide) rfl (fun ls hl => ?_)
          refine lv_iinc (v := nI (3 - i) + (-1)) (lv' := [(5, .int (nI (3 - i) + (-1))), (4, .int (um_gI b)), (6, .int by0), (0, .ref h0), (1, .int (nI t)), (2, .ref q2), (3, .ref q3)]) hx hb dL_guess_147 hl (k := 2) rfl rfl (by decide) rfl (fun ls hl => ?_)
          refine lv_goto (tgt := 70) hx hb dL_guess_150 (by decide) ?_
          rw [z3] at hl
          exact ih (i + 1) a2 a3 Wo _ _ ls (by omega) g2 g3 hR (lv_sub (l' := [(5, .int (3 - nI (i + 1))), (4, .int (um_gI (ug_b (um_gW (um_pa f) (f 0)) (um_gG (um_pa f) (f 0) (f (211 + t))) (i + 1)))), (0, .ref h0), (1, .int (nI t)), (2, .ref q2), (3, .ref q3)]) hl [0, 1, 3, 4, 5, 6] (by rw [e9]; rfl)) hP hD hS
      refine lv_iload hx hb dL_guess_70 (lv_at hl 0 rfl) ?_
      refine lv_if_lt (tgt := 153) hx hb dL_guess_72 (by decide) (fun cc => absurd cc z2) (fun _ => ?_)
      refine lv_iload hx hb dL_guess_75 (lv_at hl 1 rfl) ?_
      by_cases hb0 : b = 0
      · have e4 : um_gI b = -1015 := by rw [hb0]; rfl
        have h4 : ¬ (0 : Int32) ≤ um_gI b := by rw [e4]; decide
        refine lv_if_ge (tgt := 84) hx hb dL_guess_77 (by decide) (fun cc => absurd cc h4) (fun _ => ?_)
        refine lv_iconst (v := 1) hx hb dL_guess_80 (by decide) ?_
        refine lv_goto (tgt := 103) hx hb dL_guess_81 (by decide) ?_
        refine lv_istore (lv' := [(6, .int 1), (5, .int (nI (3 - i))), (4, .int (um_gI b)), (0, .ref h0), (1, .int (nI t)), (2, .ref q2), (3, .ref q3)]) hx hb dL_guess_103 hl (by decide) rfl (fun ls hl => ?_)
        refine lv_iload hx hb dL_guess_105 (lv_at hl 0 rfl) ?_
        refine lv_if_eq (tgt := 115) hx hb dL_guess_107 (by decide) (fun cc => absurd cc (show ¬ (1 : Int32) = 0 by decide)) (fun _ => ?_)
        refine lv_iload hx hb dL_guess_110 (lv_at hl 0 rfl) ?_
        refine lv_goto (tgt := 124) hx hb dL_guess_112 (by decide) ?_
        refine lv_istore (lv' := [(6, .int 1), (5, .int (nI (3 - i))), (4, .int (um_gI b)), (0, .ref h0), (1, .int (nI t)), (2, .ref q2), (3, .ref q3)]) hx hb dL_guess_124 hl (by decide) rfl (fun ls hl => ?_)
        exact J126 1 Wo _ _ ls (⟨fun _ => Or.inl hb0, fun _ => by decide⟩) hR (lv_sub hl [0, 1, 2, 3, 4, 5, 6] rfl) hP hD hS
      · have e4 : um_gI b = nI (b - 1) := if_neg hb0
        have h4 : (0 : Int32) ≤ um_gI b := by rw [e4]; exact nI_pos' (by omega)
        refine lv_if_ge (tgt := 84) hx hb dL_guess_77 (by decide) (fun _ => ?_) (fun cc => absurd h4 cc)
        refine lv_aload_n hx hb dL_guess_84 rfl (lv_at hl 4 rfl) ?_
        refine lv_iload hx hb dL_guess_85 (lv_at hl 0 rfl) ?_
        refine va_iald hx hb hK hP 0 0 rfl rfl (i := nI (3 - i)) (vp_in_nI (by omega) (by decide)) dL_guess_87 ?_
        refine us_topi (x := nI (um_gG (um_pa f) (f 0) (f (211 + t)) (3 - i))) (by rw [nI_clamp (by omega)]; exact g2 _ (by omega)) ?_
        refine lv_aload_n hx hb dL_guess_88 rfl (lv_at hl 5 rfl) ?_
        refine lv_iload hx hb dL_guess_89 (lv_at hl 1 rfl) ?_
        refine us_topi (x := nI (b - 1)) e4 ?_
        refine va_iald hx hb hK hP 1 0 rfl rfl (i := nI (b - 1)) (vp_in_nI (by omega) (by decide)) dL_guess_91 ?_
        refine us_topi (x := nI (um_gW (um_pa f) (f 0) (b - 1))) (by rw [nI_clamp (by omega)]; exact g3 _ (by omega)) ?_
        refine lv_imul hx hb dL_guess_92 ?_
        refine us_topi (x := nI (um_gG (um_pa f) (f 0) (f (211 + t)) (3 - i) * um_gW (um_pa f) (f 0) (b - 1))) (pk_mul _ _) ?_
        refine lv_aload_n hx hb dL_guess_93 rfl (lv_at hl 4 rfl) ?_
        refine lv_iload hx hb dL_guess_94 (lv_at hl 1 rfl) ?_
        refine us_topi (x := nI (b - 1)) e4 ?_
        refine va_iald hx hb hK hP 0 0 rfl rfl (i := nI (b - 1)) (vp_in_nI (by omega) (by decide)) dL_guess_96 ?_
        refine us_topi (x := nI (um_gG (um_pa f) (f 0) (f (211 + t)) (b - 1))) (by rw [nI_clamp (by omega)]; exact g2 _ (by omega)) ?_
        refine lv_aload_n hx hb dL_guess_97 rfl (lv_at hl 5 rfl) ?_
        refine lv_iload hx hb dL_guess_98 (lv_at hl 0 rfl) ?_
        refine va_iald hx hb hK hP 1 0 rfl rfl (i := nI (3 - i)) (vp_in_nI (by omega) (by decide)) dL_guess_100 ?_
        refine us_topi (x := nI (um_gW (um_pa f) (f 0) (3 - i))) (by rw [nI_clamp (by omega)]; exact g3 _ (by omega)) ?_
        refine lv_imul hx hb dL_guess_101 ?_
        refine us_topi (x := nI (um_gG (um_pa f) (f 0) (f (211 + t)) (b - 1) * um_gW (um_pa f) (f 0) (3 - i))) (pk_mul _ _) ?_
        refine lv_isub hx hb dL_guess_102 ?_
        have b1 := Nat.mul_le_mul (Nat.le_of_lt (hGl (3 - i))) (Nat.le_of_lt (hWl (b - 1)))
        have b2 := Nat.mul_le_mul (Nat.le_of_lt (hGl (b - 1))) (Nat.le_of_lt (hWl (3 - i)))
        have b3 := hGl (3 - i)
        have b4 := hGl (b - 1)
        refine lv_istore (lv' := [(6, .int ((nI (um_gG (um_pa f) (f 0) (f (211 + t)) (3 - i) * um_gW (um_pa f) (f 0) (b - 1))) - (nI (um_gG (um_pa f) (f 0) (f (211 + t)) (b - 1) * um_gW (um_pa f) (f 0) (3 - i))))), (5, .int (nI (3 - i))), (4, .int (um_gI b)), (0, .ref h0), (1, .int (nI t)), (2, .ref q2), (3, .ref q3)]) hx hb dL_guess_103 hl (by decide) rfl (fun ls hl => ?_)
        refine lv_iload hx hb dL_guess_105 (lv_at hl 0 rfl) ?_
        by_cases hxy : um_gG (um_pa f) (f 0) (f (211 + t)) (3 - i) * um_gW (um_pa f) (f 0) (b - 1) = um_gG (um_pa f) (f 0) (f (211 + t)) (b - 1) * um_gW (um_pa f) (f 0) (3 - i)
        · refine lv_if_eq (tgt := 115) hx hb dL_guess_107 (by decide) (fun _ => ?_) (fun cc => absurd ((um_sub_eq0 (by omega) (by omega)).mpr hxy) cc)
          refine lv_aload_n hx hb dL_guess_115 rfl (lv_at hl 5 rfl) ?_
          refine lv_iload hx hb dL_guess_116 (lv_at hl 1 rfl) ?_
          refine va_iald hx hb hK hP 0 0 rfl rfl (i := nI (3 - i)) (vp_in_nI (by omega) (by decide)) dL_guess_118 ?_
          refine us_topi (x := nI (um_gG (um_pa f) (f 0) (f (211 + t)) (3 - i))) (by rw [nI_clamp (by omega)]; exact g2 _ (by omega)) ?_
          refine lv_aload_n hx hb dL_guess_119 rfl (lv_at hl 5 rfl) ?_
          refine lv_iload hx hb dL_guess_120 (lv_at hl 2 rfl) ?_
          refine us_topi (x := nI (b - 1)) e4 ?_
          refine va_iald hx hb hK hP 0 0 rfl rfl (i := nI (b - 1)) (vp_in_nI (by omega) (by decide)) dL_guess_122 ?_
          refine us_topi (x := nI (um_gG (um_pa f) (f 0) (f (211 + t)) (b - 1))) (by rw [nI_clamp (by omega)]; exact g2 _ (by omega)) ?_
          refine lv_isub hx hb dL_guess_123 ?_
          refine lv_istore (lv' := [(6, .int ((nI (um_gG (um_pa f) (f 0) (f (211 + t)) (3 - i))) - (nI (um_gG (um_pa f) (f 0) (f (211 + t)) (b - 1))))), (5, .int (nI (3 - i))), (4, .int (um_gI b)), (0, .ref h0), (1, .int (nI t)), (2, .ref q2), (3, .ref q3)]) hx hb dL_guess_124 hl (by decide) rfl (fun ls hl => ?_)
          exact J126 (nI (um_gG (um_pa f) (f 0) (f (211 + t)) (3 - i)) - nI (um_gG (um_pa f) (f 0) (f (211 + t)) (b - 1))) Wo _ _ ls (⟨fun z => Or.inr (fun y => by have := (ug_sub_ge (by omega) (by omega)).mp z; omega), fun z => (ug_sub_ge (by omega) (by omega)).mpr (by rcases z with z | z; exact absurd z hb0; omega)⟩) hR (lv_sub hl [0, 1, 2, 3, 4, 5, 6] rfl) hP hD hS
        · refine lv_if_eq (tgt := 115) hx hb dL_guess_107 (by decide) (fun cc => absurd cc (fun z => hxy ((um_sub_eq0 (by omega) (by omega)).mp z))) (fun _ => ?_)
          refine lv_iload hx hb dL_guess_110 (lv_at hl 0 rfl) ?_
          refine lv_goto (tgt := 124) hx hb dL_guess_112 (by decide) ?_
          refine lv_istore (lv' := [(6, .int ((nI (um_gG (um_pa f) (f 0) (f (211 + t)) (3 - i) * um_gW (um_pa f) (f 0) (b - 1))) - (nI (um_gG (um_pa f) (f 0) (f (211 + t)) (b - 1) * um_gW (um_pa f) (f 0) (3 - i))))), (5, .int (nI (3 - i))), (4, .int (um_gI b)), (0, .ref h0), (1, .int (nI t)), (2, .ref q2), (3, .ref q3)]) hx hb dL_guess_124 hl (by decide) rfl (fun ls hl => ?_)
          exact J126 (nI (um_gG (um_pa f) (f 0) (f (211 + t)) (3 - i) * um_gW (um_pa f) (f 0) (b - 1)) - nI (um_gG (um_pa f) (f 0) (f (211 + t)) (b - 1) * um_gW (um_pa f) (f 0) (3 - i))) Wo _ _ ls (⟨fun z => Or.inr (fun y => by have := (ug_sub_ge (by omega) (by omega)).mp z; omega), fun z => (ug_sub_ge (by omega) (by omega)).mpr (by rcases z with z | z; exact absurd z hb0; omega)⟩) hR (lv_sub hl [0, 1, 2, 3, 4, 5, 6] rfl) hP hD hS
  have loop1 : ∀ (q i : Nat) (a2 : Nat → Int32) (a3 : Nat → Int32) (Wo : va_W) (H : Heap) (locs : List Loc) (ls : Array Slot), f 0 = i + q → (∀ p, p < 4 → a2 p = nI (um_cnt (fun r => decide (um_pa f r = p) && (f (211 + t)).testBit r) i)) → (∀ p, p < 4 → a3 p = nI (um_cnt (fun r => decide (um_pa f r = p)) i)) → uo_W g h0 k f hist sv lr ld L Wo → lv_has ls 7 [(4, .int (nI i)), (0, .ref h0), (1, .int (nI t)), (2, .ref q2), (3, .ref q3)] → va_P g.1 vwCl ([(q2, .inl (g.2.1, 4, .inl a2)), (q3, .inl (g.2.1, 4, .inl a3))] ++ Wo) H → va_D A ([(q2, .inl (g.2.1, 4, .inl a2)), (q3, .inl (g.2.1, 4, .inl a3))] ++ Wo) → va_S A s.heap H locs → W p l e ({ frames := 4, cells := 2, slots := 8, locals := 87 } : Room) s m args below meth c H locs 2 8 Q (F0 m 11 ls []) := by
    intro q
    induction q with
    | zero =>
      intro i a2 a3 Wo H locs ls hiq g2 g3 hR hl hP hD hS
      refine lv_iload hx hb dL_guess_11 (lv_at hl 0 rfl) ?_
      refine lv_aload_n hx hb dL_guess_13 rfl (lv_at hl 1 rfl) ?_
      refine lv_iconst (v := 0) hx hb dL_guess_14 (by decide) ?_
      have hpm : List.Perm (([(q2, .inl (g.2.1, 4, .inl a2)), (q3, .inl (g.2.1, 4, .inl a3))] ++ Wo) : va_W) (Wo ++ [(q2, .inl (g.2.1, 4, .inl a2)), (q3, .inl (g.2.1, 4, .inl a3))]) := List.perm_append_comm
      have hFc := ub_freeP hD hS hA hpm
      obtain ⟨hPc, hDc⟩ := ub_subP hP hD hpm
      refine us_calli (va_runV (As := [.int 0]) (rest := [.int (nI i)]) ⟨hx, hb, hml, hown, hts⟩ (uo_account l g hR (x := 0)) (cwV 1 hts gu_RL_34 rfl rfl rfl ⟨rfl, uhX8_account⟩ ⟨Nat.le_of_ble_eq_true rfl, Nat.le_of_ble_eq_true rfl⟩) (us_preO hR hZ hS hFc hPc hDc hK hN) rfl rfl hl.1 rfl (lv_room (Nat.le_of_ble_eq_true rfl)) dL_guess_15 ⟨Nat.le_of_ble_eq_true rfl, Nat.le_of_ble_eq_true rfl⟩) hP hD hS hA hpm (fun r Wo1 H locs hpost hP hD hS => ?_)
      have hP : va_P g.1 vwCl ([(q2, .inl (g.2.1, 4, .inl a2)), (q3, .inl (g.2.1, 4, .inl a3))] ++ Wo1) H := ub_P_perm List.perm_append_comm hP
      have hD : va_D A ([(q2, .inl (g.2.1, 4, .inl a2)), (q3, .inl (g.2.1, 4, .inl a3))] ++ Wo1) := ub_D_perm List.perm_append_comm hD
      obtain ⟨hr, hR⟩ := hpost
      have er : r = nI (f 0) := by rw [hr]; rfl
      rw [er]
      have ei : i = f 0 := by omega
      refine lv_icmp_ge (tgt := 62) hx hb dL_guess_18 (by decide) (fun _ => ?_) (fun cc => absurd (nI_le (by omega) (by omega)) cc)
      refine lv_sipush (v := (-1015)) hx hb dL_guess_62 (by decide) ?_
      refine lv_istore (lv' := [(4, .int (-1015)), (0, .ref h0), (1, .int (nI t)), (2, .ref q2), (3, .ref q3)]) hx hb dL_guess_65 hl (by decide) rfl (fun ls hl => ?_)
      refine lv_iconst (v := 3) hx hb dL_guess_67 (by decide) ?_
      refine lv_istore (lv' := [(5, .int 3), (4, .int (-1015)), (0, .ref h0), (1, .int (nI t)), (2, .ref q2), (3, .ref q3)]) hx hb dL_guess_68 hl (by decide) rfl (fun ls hl => ?_)
      rw [ei] at g2 g3
      exact loop2 4 0 a2 a3 Wo1 _ _ ls (by omega) g2 g3 hR (lv_sub hl [0, 1, 2, 3, 4, 5] rfl) hP hD hS
    | succ q ih =>
      intro i a2 a3 Wo H locs ls hiq g2 g3 hR hl hP hD hS
      refine lv_iload hx hb dL_guess_11 (lv_at hl 0 rfl) ?_
      refine lv_aload_n hx hb dL_guess_13 rfl (lv_at hl 1 rfl) ?_
      refine lv_iconst (v := 0) hx hb dL_guess_14 (by decide) ?_
      have hpm : List.Perm (([(q2, .inl (g.2.1, 4, .inl a2)), (q3, .inl (g.2.1, 4, .inl a3))] ++ Wo) : va_W) (Wo ++ [(q2, .inl (g.2.1, 4, .inl a2)), (q3, .inl (g.2.1, 4, .inl a3))]) := List.perm_append_comm
      have hFc := ub_freeP hD hS hA hpm
      obtain ⟨hPc, hDc⟩ := ub_subP hP hD hpm
      refine us_calli (va_runV (As := [.int 0]) (rest := [.int (nI i)]) ⟨hx, hb, hml, hown, hts⟩ (uo_account l g hR (x := 0)) (cwV 1 hts gu_RL_34 rfl rfl rfl ⟨rfl, uhX8_account⟩ ⟨Nat.le_of_ble_eq_true rfl, Nat.le_of_ble_eq_true rfl⟩) (us_preO hR hZ hS hFc hPc hDc hK hN) rfl rfl hl.1 rfl (lv_room (Nat.le_of_ble_eq_true rfl)) dL_guess_15 ⟨Nat.le_of_ble_eq_true rfl, Nat.le_of_ble_eq_true rfl⟩) hP hD hS hA hpm (fun r Wo2 H locs hpost hP hD hS => ?_)
      have hP : va_P g.1 vwCl ([(q2, .inl (g.2.1, 4, .inl a2)), (q3, .inl (g.2.1, 4, .inl a3))] ++ Wo2) H := ub_P_perm List.perm_append_comm hP
      have hD : va_D A ([(q2, .inl (g.2.1, 4, .inl a2)), (q3, .inl (g.2.1, 4, .inl a3))] ++ Wo2) := ub_D_perm List.perm_append_comm hD
      obtain ⟨hr, hR⟩ := hpost
      have er : r = nI (f 0) := by rw [hr]; rfl
      rw [er]
      refine lv_icmp_ge (tgt := 62) hx hb dL_guess_18 (by decide) (fun cc => absurd cc (nI_ge (by omega) (by omega))) (fun _ => ?_)
      refine lv_aload_n hx hb dL_guess_21 rfl (lv_at hl 4 rfl) ?_
      refine lv_aload_n hx hb dL_guess_22 rfl (lv_at hl 1 rfl) ?_
      refine lv_iload hx hb dL_guess_23 (lv_at hl 0 rfl) ?_
      refine lv_iconst (v := 0) hx hb dL_guess_25 (by decide) ?_
      have hp4 := hP4 i (by omega)
      have c2 : um_cnt (fun r => decide (um_pa f r = um_pa f i) && (f (211 + t)).testBit r) i < 13 := us_le12 (by omega)
      have c3 : um_cnt (fun r => decide (um_pa f r = um_pa f i)) i < 13 := us_le12 (by omega)
      have hpm : List.Perm (([(q2, .inl (g.2.1, 4, .inl a2)), (q3, .inl (g.2.1, 4, .inl a3))] ++ Wo2) : va_W) (Wo2 ++ [(q2, .inl (g.2.1, 4, .inl a2)), (q3, .inl (g.2.1, 4, .inl a3))]) := List.perm_append_comm
      have hFc := ub_freeP hD hS hA hpm
      obtain ⟨hPc, hDc⟩ := ub_subP hP hD hpm
      refine us_calli (va_runV (As := [.int (nI i), .int 0]) (rest := [.ref q3]) ⟨hx, hb, hml, hown, hts⟩ (uo_ropeOf l g hR (x := (nI i)) (v := 0)) (cwV 2 hts gu_RL_100 rfl rfl rfl ⟨rfl, uhX8_ropeOf⟩ ⟨Nat.le_of_ble_eq_true rfl, Nat.le_of_ble_eq_true rfl⟩) (us_preO hR hZ hS hFc hPc hDc hK hN) rfl rfl hl.1 rfl (lv_room (Nat.le_of_ble_eq_true rfl)) dL_guess_26 ⟨Nat.le_of_ble_eq_true rfl, Nat.le_of_ble_eq_true rfl⟩) hP hD hS hA hpm (fun r Wo3 H locs hpost hP hD hS => ?_)
      have hP : va_P g.1 vwCl ([(q2, .inl (g.2.1, 4, .inl a2)), (q3, .inl (g.2.1, 4, .inl a3))] ++ Wo3) H := ub_P_perm List.perm_append_comm hP
      have hD : va_D A ([(q2, .inl (g.2.1, 4, .inl a2)), (q3, .inl (g.2.1, 4, .inl a3))] ++ Wo3) := ub_D_perm List.perm_append_comm hD
      obtain ⟨hr, hR⟩ := hpost
      have er : r = nI (um_pa f i) := hr.trans (uw_ropeOf (i := 0) hI (by omega) (by decide))
      rw [er]
      refine lv_dup2_11 hx hb dL_guess_29 rfl rfl ?_
      refine va_iald hx hb hK hP 1 0 rfl rfl (i := nI (um_pa f i)) (vp_in_nI hp4 (by decide)) dL_guess_30 ?_
      refine us_topi (x := nI (um_cnt (fun r => decide (um_pa f r = um_pa f i)) i)) (by rw [nI_clamp (by omega)]; exact g3 _ hp4) ?_
      refine lv_iconst (v := 1) hx hb dL_guess_31 (by decide) ?_
      refine lv_iadd hx hb dL_guess_32 ?_
      refine us_topi (x := nI (um_cnt (fun r => decide (um_pa f r = um_pa f i)) i + 1)) (nI_1 _) ?_
      refine va_iast hx hb hK hP hD hS 1 0 rfl rfl (i := nI (um_pa f i)) (vp_in_nI hp4 (by decide)) dL_guess_33 (fun H locs hP hD hS => ?_)
      rw [nI_clamp (show um_pa f i < 2 ^ 31 by omega)] at hP hD
      have hP : va_P g.1 vwCl ([(q2, .inl (g.2.1, 4, .inl a2)), (q3, .inl (g.2.1, 4, .inl (upd a3 (um_pa f i) (nI (um_cnt (fun r => decide (um_pa f r = um_pa f i)) i + 1)))))] ++ Wo3) H := hP
      have hD : va_D A ([(q2, .inl (g.2.1, 4, .inl a2)), (q3, .inl (g.2.1, 4, .inl (upd a3 (um_pa f i) (nI (um_cnt (fun r => decide (um_pa f r = um_pa f i)) i + 1)))))] ++ Wo3) := hD
      refine lv_aload_n hx hb dL_guess_34 rfl (lv_at hl 3 rfl) ?_
      refine lv_aload_n hx hb dL_guess_35 rfl (lv_at hl 1 rfl) ?_
      refine lv_iload hx hb dL_guess_36 (lv_at hl 0 rfl) ?_
      refine lv_iconst (v := 0) hx hb dL_guess_38 (by decide) ?_
      have hpm : List.Perm (([(q2, .inl (g.2.1, 4, .inl a2)), (q3, .inl (g.2.1, 4, .inl (upd a3 (um_pa f i) (nI (um_cnt (fun r => decide (um_pa f r = um_pa f i)) i + 1)))))] ++ Wo3) : va_W) (Wo3 ++ [(q2, .inl (g.2.1, 4, .inl a2)), (q3, .inl (g.2.1, 4, .inl (upd a3 (um_pa f i) (nI (um_cnt (fun r => decide (um_pa f r = um_pa f i)) i + 1)))))]) := List.perm_append_comm
      have hFc := ub_freeP hD hS hA hpm
      obtain ⟨hPc, hDc⟩ := ub_subP hP hD hpm
      refine us_calli (va_runV (As := [.int (nI i), .int 0]) (rest := [.ref q2]) ⟨hx, hb, hml, hown, hts⟩ (uo_ropeOf l g hR (x := (nI i)) (v := 0)) (cwV 2 hts gu_RL_100 rfl rfl rfl ⟨rfl, uhX8_ropeOf⟩ ⟨Nat.le_of_ble_eq_true rfl, Nat.le_of_ble_eq_true rfl⟩) (us_preO hR hZ hS hFc hPc hDc hK hN) rfl rfl hl.1 rfl (lv_room (Nat.le_of_ble_eq_true rfl)) dL_guess_39 ⟨Nat.le_of_ble_eq_true rfl, Nat.le_of_ble_eq_true rfl⟩) hP hD hS hA hpm (fun r Wo4 H locs hpost hP hD hS => ?_)
      have hP : va_P g.1 vwCl ([(q2, .inl (g.2.1, 4, .inl a2)), (q3, .inl (g.2.1, 4, .inl (upd a3 (um_pa f i) (nI (um_cnt (fun r => decide (um_pa f r = um_pa f i)) i + 1)))))] ++ Wo4) H := ub_P_perm List.perm_append_comm hP
      have hD : va_D A ([(q2, .inl (g.2.1, 4, .inl a2)), (q3, .inl (g.2.1, 4, .inl (upd a3 (um_pa f i) (nI (um_cnt (fun r => decide (um_pa f r = um_pa f i)) i + 1)))))] ++ Wo4) := ub_D_perm List.perm_append_comm hD
      obtain ⟨hr, hR⟩ := hpost
      have er : r = nI (um_pa f i) := hr.trans (uw_ropeOf (i := 0) hI (by omega) (by decide))
      rw [er]
      refine lv_dup2_11 hx hb dL_guess_42 rfl rfl ?_
      refine va_iald hx hb hK hP 0 0 rfl rfl (i := nI (um_pa f i)) (vp_in_nI hp4 (by decide)) dL_guess_43 ?_
      refine us_topi (x := nI (um_cnt (fun r => decide (um_pa f r = um_pa f i) && (f (211 + t)).testBit r) i)) (by rw [nI_clamp (by omega)]; exact g2 _ hp4) ?_
      refine lv_aload_n hx hb dL_guess_44 rfl (lv_at hl 1 rfl) ?_
      refine lv_iload_n hx hb dL_guess_45 rfl (lv_at hl 2 rfl) ?_
      have hpm : List.Perm (([(q2, .inl (g.2.1, 4, .inl a2)), (q3, .inl (g.2.1, 4, .inl (upd a3 (um_pa f i) (nI (um_cnt (fun r => decide (um_pa f r = um_pa f i)) i + 1)))))] ++ Wo4) : va_W) (Wo4 ++ [(q2, .inl (g.2.1, 4, .inl a2)), (q3, .inl (g.2.1, 4, .inl (upd a3 (um_pa f i) (nI (um_cnt (fun r => decide (um_pa f r = um_pa f i)) i + 1)))))]) := List.perm_append_comm
      have hFc := ub_freeP hD hS hA hpm
      obtain ⟨hPc, hDc⟩ := ub_subP hP hD hpm
      refine us_calli (va_runV (As := [.int (nI t)]) (rest := [.int (nI (um_cnt (fun r => decide (um_pa f r = um_pa f i) && (f (211 + t)).testBit r) i)), .int (nI (um_pa f i)), .ref q2]) ⟨hx, hb, hml, hown, hts⟩ (uo_answered l g hR (x := (nI t))) (cwV 1 hts gu_RL_103 rfl rfl rfl ⟨rfl, uhX8_answered⟩ ⟨Nat.le_of_ble_eq_true rfl, Nat.le_of_ble_eq_true rfl⟩) (us_preO hR hZ hS hFc hPc hDc hK hN) rfl rfl hl.1 rfl (lv_room (Nat.le_of_ble_eq_true rfl)) dL_guess_46 ⟨Nat.le_of_ble_eq_true rfl, Nat.le_of_ble_eq_true rfl⟩) hP hD hS hA hpm (fun r Wo5 H locs hpost hP hD hS => ?_)
      have hP : va_P g.1 vwCl ([(q2, .inl (g.2.1, 4, .inl a2)), (q3, .inl (g.2.1, 4, .inl (upd a3 (um_pa f i) (nI (um_cnt (fun r => decide (um_pa f r = um_pa f i)) i + 1)))))] ++ Wo5) H := ub_P_perm List.perm_append_comm hP
      have hD : va_D A ([(q2, .inl (g.2.1, 4, .inl a2)), (q3, .inl (g.2.1, 4, .inl (upd a3 (um_pa f i) (nI (um_cnt (fun r => decide (um_pa f r = um_pa f i)) i + 1)))))] ++ Wo5) := ub_D_perm List.perm_append_comm hD
      obtain ⟨hr, hR⟩ := hpost
      have er : r = nI (f (211 + t)) := hr.trans (uw_answered ht)
      rw [er]
      refine lv_iload hx hb dL_guess_49 (lv_at hl 0 rfl) ?_
      refine lv_ishr hx hb dL_guess_51 ?_
      refine lv_iconst (v := 1) hx hb dL_guess_52 (by decide) ?_
      refine lv_iand hx hb dL_guess_53 ?_
      refine us_topi (x := nI (um_b2n ((f (211 + t)).testBit i))) (um_bit1 (by omega) (by omega)) ?_
      refine lv_iadd hx hb dL_guess_54 ?_
      refine us_topi (x := nI (um_cnt (fun r => decide (um_pa f r = um_pa f i) && (f (211 + t)).testBit r) i + um_b2n ((f (211 + t)).testBit i))) (nI_add _ _) ?_
      refine va_iast hx hb hK hP hD hS 0 0 rfl rfl (i := nI (um_pa f i)) (vp_in_nI hp4 (by decide)) dL_guess_55 (fun H locs hP hD hS => ?_)
      rw [nI_clamp (show um_pa f i < 2 ^ 31 by omega)] at hP hD
      have hP : va_P g.1 vwCl ([(q2, .inl (g.2.1, 4, .inl (upd a2 (um_pa f i) (nI (um_cnt (fun r => decide (um_pa f r = um_pa f i) && (f (211 + t)).testBit r) i + um_b2n ((f (211 + t)).testBit i)))))), (q3, .inl (g.2.1, 4, .inl (upd a3 (um_pa f i) (nI (um_cnt (fun r => decide (um_pa f r = um_pa f i)) i + 1)))))] ++ Wo5) H := hP
      have hD : va_D A ([(q2, .inl (g.2.1, 4, .inl (upd a2 (um_pa f i) (nI (um_cnt (fun r => decide (um_pa f r = um_pa f i) && (f (211 + t)).testBit r) i + um_b2n ((f (211 + t)).testBit i)))))), (q3, .inl (g.2.1, 4, .inl (upd a3 (um_pa f i) (nI (um_cnt (fun r => decide (um_pa f r = um_pa f i)) i + 1)))))] ++ Wo5) := hD
      refine lv_iinc (v := nI i + 1) (lv' := [(4, .int (nI i + 1)), (0, .ref h0), (1, .int (nI t)), (2, .ref q2), (3, .ref q3)]) hx hb dL_guess_56 hl (k := 0) rfl rfl (by decide) rfl (fun ls hl => ?_)
      refine lv_goto (tgt := 11) hx hb dL_guess_59 (by decide) ?_
      rw [nI_1] at hl
      exact ih (i + 1) (upd a2 (um_pa f i) (nI (um_cnt (fun r => decide (um_pa f r = um_pa f i) && (f (211 + t)).testBit r) i + um_b2n ((f (211 + t)).testBit i)))) (upd a3 (um_pa f i) (nI (um_cnt (fun r => decide (um_pa f r = um_pa f i)) i + 1))) Wo5 _ _ ls (by omega) (ug_up (b := fun p => fun r => decide (um_pa f r = p) && (f (211 + t)).testBit r) g2 (by rw [decide_eq_true rfl, Bool.true_and]) (fun p hp => by rw [decide_eq_false (fun z => hp z.symm), Bool.false_and])) (ug_up (b := fun p => fun r => decide (um_pa f r = p)) g3 (by rw [decide_eq_true rfl]; rfl) (fun p hp => decide_eq_false (fun z => hp z.symm))) hR (lv_sub hl [0, 1, 2, 3, 4] rfl) hP hD hS
  exact loop1 (f 0) 0 (fun _ => 0) (fun _ => 0) Wo _ _ ls (by omega) (fun p hp => rfl) (fun p hp => rfl) hR (lv_sub hl [0, 3, 4, 2, 1] rfl) hP hD hS

