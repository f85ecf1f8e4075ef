/-! ===== texts: all their orders, on either side ===== -/
section UM45
variable {t : Nat} {g : Nat → Nat} {tc tx : Nat → Int32}
def um_kn (c : Nat) : Prop := c = 114 ∨ c = 118 ∨ c = 115 ∨ c = 112 ∨ c = 99 ∨ c = 110 ∨ c = 104 ∨ c = 111 ∨ c = 101
theorem um_od_le {p : Nat} : p ≤ (um_od g t p).2.1 ∧ (um_od g t p).2.1 ≤ p + 20 ∧ ((um_od g t p).1 = true → p + 1 ≤ (um_od g t p).2.1) := by
  have h1 := um_rd_le (t := t) (g := g) (p := p + 1)
  have h2 := um_rD_le (t := t) (g := g) (p := p + 1)
  have h3 := um_rd_le (t := t) (g := g) (p := (um_rD g t (p + 1)).2.1 + 1)
  have h4 := um_rq_le (t := t) (g := g) (p := (um_rD g t (p + 1)).2.1)
  have h5 := um_rD_le (t := t) (g := g) (p := (um_rD g t (p + 1)).2.1 + 1)
  have h6 := um_rd_le (t := t) (g := g) (p := (um_rD g t ((um_rD g t (p + 1)).2.1 + 1)).2.1 + 1)
  unfold um_od
  repeat' split
  all_goals dsimp only
  all_goals first
    | exact ⟨by omega, by omega, fun _ => by omega⟩
    | exact ⟨by omega, by omega, fun h => absurd h (by decide)⟩
theorem um_od_kn {p : Nat} (h : (um_od g t p).1 = true) : um_kn (um_sg g t p) := by
  unfold um_kn
  unfold um_od at h
  by_cases k114 : um_sg g t p = 114
  · omega
  · rw [if_neg k114] at h
    by_cases k118 : um_sg g t p = 118
    · omega
    · rw [if_neg k118] at h
      by_cases k115 : um_sg g t p = 115
      · omega
      · rw [if_neg k115] at h
        by_cases k112 : um_sg g t p = 112
        · omega
        · rw [if_neg k112] at h
          by_cases k99 : um_sg g t p = 99
          · omega
          · rw [if_neg k99] at h
            by_cases k110 : um_sg g t p = 110
            · omega
            · rw [if_neg k110] at h
              by_cases k104 : um_sg g t p = 104
              · omega
              · rw [if_neg k104] at h
                by_cases k111 : um_sg g t p = 111
                · omega
                · rw [if_neg k111] at h
                  by_cases k101 : um_sg g t p = 101
                  · omega
                  · rw [if_neg k101] at h
                    exact absurd (show false = true from h) (by decide)
theorem um_readOrder {p num : Nat} (hX : um_X t g tc tx) (hp : p < 2 ^ 16) (hn : num < 60) (kd : Nat → Int32) (N : Nat → Nat) :
    ∃ (kd' : Nat → Int32) (N' : Nat → Nat), ufX3_readOrder (nI num) (nI p) kd (um_nv N) (nI t) tc = some (nI (um_b2n (um_od g t p).1), nI (num + um_b2n (um_od g t p).1), nI (um_od g t p).2.1, kd', um_nv N') ∧
      (∀ j, j ≠ num → kd' j = kd j) ∧ (∀ j, (j < 3 * num ∨ 3 * num + 3 ≤ j) → N' j = N j) ∧ ((um_od g t p).1 = true → kd' num = nI (um_sg g t p) ∧ um_ar N' num (um_sg g t p) (um_od g t p).2.2.1 (um_od g t p).2.2.2.1 (um_od g t p).2.2.2.2) := by
  have hcc := um_codeAt (p := p) hX (by omega)
  have e3 : nI num * 3 = nI (3 * num) := by
    rw [show (3 : Int32) = nI 3 from rfl, pk_mul, Nat.mul_comm]
  have go : ∀ (c i : Nat), um_sg g t p = c → 0 < c → c < 128 → i < 10 → ufX3_shapeOf (nI c) = i → ub_em i = 0 → (∀ kd : Nat → Int32, um_roK num kd N c (um_od g t p) (ulX3_readOrder_51 (nI num) kd (nI t) tc i ub_F (nI p) (um_nv N) (nI (3 * num)) (nI 0))) →
      ∃ (kd' : Nat → Int32) (N' : Nat → Nat), ufX3_readOrder (nI num) (nI p) kd (um_nv N) (nI t) tc = some (nI (um_b2n (um_od g t p).1), nI (num + um_b2n (um_od g t p).1), nI (um_od g t p).2.1, kd', um_nv N') ∧
      (∀ j, j ≠ num → kd' j = kd j) ∧ (∀ j, (j < 3 * num ∨ 3 * num + 3 ≤ j) → N' j = N j) ∧ ((um_od g t p).1 = true → kd' num = nI (um_sg g t p) ∧ um_ar N' num (um_sg g t p) (um_od g t p).2.2.1 (um_od g t p).2.2.2.1 (um_od g t p).2.2.2.2) := by
    intro c i hs h0 hc hi hsh hem hro
    have ec : um_cc g t p = nI c := (um_cc_eq hX h0 (by omega)).mpr hs
    obtain ⟨N', e, h1, h2⟩ := hro (upd kd num (nI c))
    refine ⟨upd kd num (nI c), N', ?_, fun j hj => ?_, h1, fun hk => ⟨?_, by rw [hs]; exact h2 hk⟩⟩
    · unfold ufX3_readOrder ub_lt
      rw [hcc, um_b1, um_nm, ec, hsh, if_pos hi, if_pos hem, um_b1, um_putI hn (by decide), um_b1, e3]
      exact e
    · unfold upd
      exact if_neg hj
    · unfold upd
      rw [if_pos rfl, hs]
  by_cases k114 : um_sg g t p = 114
  · exact go 114 0 k114 (by decide) (by decide) (by decide) rfl rfl (fun kd => um_ro_r hX hp k114 hn)
  · skip
    by_cases k118 : um_sg g t p = 118
    · exact go 118 1 k118 (by decide) (by decide) (by decide) rfl rfl (fun kd => um_ro_v hX hp k118 hn)
    · skip
      by_cases k115 : um_sg g t p = 115
      · exact go 115 2 k115 (by decide) (by decide) (by decide) rfl rfl (fun kd => um_ro_s hX hp k115 hn)
      · skip
        by_cases k112 : um_sg g t p = 112
        · exact go 112 3 k112 (by decide) (by decide) (by decide) rfl rfl (fun kd => um_ro_p hX hp k112 hn)
        · skip
          by_cases k99 : um_sg g t p = 99
          · exact go 99 4 k99 (by decide) (by decide) (by decide) rfl rfl (fun kd => um_ro_c hX hp k99 hn)
          · skip
            by_cases k110 : um_sg g t p = 110
            · exact go 110 5 k110 (by decide) (by decide) (by decide) rfl rfl (fun kd => um_ro_n hX hp k110 hn)
            · skip
              by_cases k104 : um_sg g t p = 104
              · exact go 104 6 k104 (by decide) (by decide) (by decide) rfl rfl (fun kd => um_ro_h hX hp k104 hn)
              · skip
                by_cases k111 : um_sg g t p = 111
                · exact go 111 7 k111 (by decide) (by decide) (by decide) rfl rfl (fun kd => um_ro_o hX hp k111 hn)
                · skip
                  by_cases k101 : um_sg g t p = 101
                  · exact go 101 8 k101 (by decide) (by decide) (by decide) rfl rfl (fun kd => um_ro_e hX hp k101 hn)
                  · skip
                    have kn : ∀ c, 0 < c → c < 2 ^ 20 → um_sg g t p ≠ c → ¬ um_cc g t p = nI c := fun c h1 h2 h3 z => h3 ((um_cc_eq hX h1 h2).mp z)
                    have j114 : ¬ um_cc g t p = (114 : Int32) := kn 114 (by decide) (by decide) k114
                    have j118 : ¬ um_cc g t p = (118 : Int32) := kn 118 (by decide) (by decide) k118
                    have j115 : ¬ um_cc g t p = (115 : Int32) := kn 115 (by decide) (by decide) k115
                    have j112 : ¬ um_cc g t p = (112 : Int32) := kn 112 (by decide) (by decide) k112
                    have j99 : ¬ um_cc g t p = (99 : Int32) := kn 99 (by decide) (by decide) k99
                    have j110 : ¬ um_cc g t p = (110 : Int32) := kn 110 (by decide) (by decide) k110
                    have j104 : ¬ um_cc g t p = (104 : Int32) := kn 104 (by decide) (by decide) k104
                    have j111 : ¬ um_cc g t p = (111 : Int32) := kn 111 (by decide) (by decide) k111
                    have j101 : ¬ um_cc g t p = (101 : Int32) := kn 101 (by decide) (by decide) k101
                    have esh : ufX3_shapeOf (um_cc g t p) = 9 := by
                      unfold ufX3_shapeOf
                      simp only [j114, j118, j115, j112, j99, j110, j104, j111, j101, if_false, ite_self]
                    have eo : um_od g t p = (false, p, 0, 0, 0) := by
                      unfold um_od
                      rw [if_neg k114, if_neg k118, if_neg k115, if_neg k112, if_neg k99, if_neg k110, if_neg k104, if_neg k111, if_neg k101]
                    refine ⟨kd, N, ?_, fun _ _ => rfl, fun _ _ => rfl, fun h => ?_⟩
                    · unfold ufX3_readOrder ub_lt
                      rw [hcc, um_b1, um_nm, esh, if_pos (by decide), if_neg (by decide), eo]
                      rfl
                    · rw [eo] at h
                      exact absurd (show false = true from h) (by decide)
/-- the orders of a text from p on: the fault position, or none, and what was read -/
def um_pr (g : Nat → Nat) (t : Nat) : Nat → Nat → Option Nat × List (Nat × Nat × Nat × Nat)
  | 0, p => (some p, [])
  | k + 1, p =>
    if (um_od g t p).1 then
      (if (um_od g t p).2.1 < t then
        (if um_sg g t (um_od g t p).2.1 = 59 then ((um_pr g t k ((um_od g t p).2.1 + 1)).1, (um_sg g t p, (um_od g t p).2.2) :: (um_pr g t k ((um_od g t p).2.1 + 1)).2)
        else (some (um_od g t p).2.1, [(um_sg g t p, (um_od g t p).2.2)]))
      else (none, [(um_sg g t p, (um_od g t p).2.2)]))
    else (some (um_od g t p).2.1, [])
def um_fq (o : Option Nat) : Int32 := match o with
  | none => -1
  | some q => nI q
/-- the class' rows hold the orders, from the place n on -/
def um_st (kd : Nat → Int32) (N : Nat → Nat) : Nat → List (Nat × Nat × Nat × Nat) → Prop
  | _, [] => True
  | n, (c, a, b, d) :: L => kd n = nI c ∧ um_ar N n c a b d ∧ um_kn c ∧ um_st kd N (n + 1) L
theorem um_read12 (hX : um_X t g tc tx) : ∀ (k fuel p n : Nat) (kd : Nat → Int32) (N : Nat → Nat), p ≤ t → t + 2 ≤ p + 2 * k → 2 * n ≤ p → k < fuel →
    ∃ (num' pos' : Int32) (kd' : Nat → Int32) (N' : Nat → Nat), ulX3_read_12 (nI t) tc fuel (nI n) (nI p) kd (um_nv N) (nI n) = some (um_fq (um_pr g t k p).1, num', pos', kd', um_nv N') ∧
      (∀ q, (um_pr g t k p).1 = some q → q < 2 ^ 20) ∧
      ((um_pr g t k p).1 = none → num' = nI (n + (um_pr g t k p).2.length) ∧ n + (um_pr g t k p).2.length ≤ 31 ∧ (∀ j, j < n → kd' j = kd j) ∧ (∀ j, j < 3 * n → N' j = N j) ∧ um_st kd' N' n (um_pr g t k p).2)
  | 0, _, p, _, _, _, h1, h2, _, _ => by omega
  | k + 1, 0, _, _, _, _, _, _, _, h => absurd h (Nat.not_lt_zero _)
  | k + 1, fuel + 1, p, n, kd, N, h1, h2, h3, hk => by
    have h60 := hX.1
    have hle := um_od_le (g := g) (t := t) (p := p)
    obtain ⟨kd1, N1, e, i1, i2, i3⟩ := um_readOrder (p := p) (num := n) hX (by omega) (by omega) kd N
    rw [ulX3_read_12, if_neg (show ¬ (60 : Int32) ≤ nI n from nI_ge (a := n) (b := 60) (by omega) (by decide)), e, um_b5, um_pr]
    cases ho : (um_od g t p).1
    · refine ⟨nI (n + um_b2n false), nI (um_od g t p).2.1, kd1, N1, ?_, fun q hq => ?_, fun hq => ?_⟩
      · rw [if_pos (show nI (um_b2n false) = (0 : Int32) from rfl), if_neg (show ¬ (false = true) by decide)]
        rfl
      · rw [if_neg (show ¬ (false = true) by decide)] at hq
        have := Option.some.inj hq
        omega
      · rw [if_neg (show ¬ (false = true) by decide)] at hq
        cases hq
    · rw [if_neg (show ¬ nI (um_b2n true) = (0 : Int32) by decide), if_pos (show true = true from rfl)]
      obtain ⟨j1, j2⟩ := i3 ho
      have hkn := um_od_kn ho
      have hge := hle.2.2 ho
      by_cases hlt : (um_od g t p).2.1 < t
      · rw [if_pos (nI_lt hlt (by omega)), if_pos hlt, show (59 : Int32) = nI 59 from rfl, um_readSign hX (by omega) (by decide) (by decide), um_b2]
        by_cases hs : um_sg g t (um_od g t p).2.1 = 59
        · have em : um_rm 59 g t (um_od g t p).2.1 = (true, (um_od g t p).2.1 + 1, 0) := if_pos hs
          rw [em]
          dsimp only
          rw [if_neg (show ¬ nI (um_b2n true) = (0 : Int32) by decide), if_pos hs]
          obtain ⟨num', pos', kd', N', f1, f2, f3⟩ := um_read12 hX k fuel ((um_od g t p).2.1 + 1) (n + 1) kd1 N1 (by omega) (by omega) (by omega) (by omega)
          refine ⟨num', pos', kd', N', ?_, f2, fun hq => ?_⟩
          · rw [nI_1]
            exact f1
          · obtain ⟨g1, g2, g3, g4, g5⟩ := f3 hq
            refine ⟨?_, ?_, fun j hj => ?_, fun j hj => ?_, ?_, ?_, hkn, g5⟩
            · rw [g1, List.length_cons, show n + 1 + (um_pr g t k ((um_od g t p).2.1 + 1)).2.length = n + ((um_pr g t k ((um_od g t p).2.1 + 1)).2.length + 1) by omega]
            · rw [List.length_cons]
              omega
            · rw [g3 j (by omega), i1 j (by omega)]
            · rw [g4 j (by omega), i2 j (by omega)]
            · rw [g3 n (by omega)]
              exact j1
            · obtain ⟨a1, a2, a3⟩ := j2
              exact ⟨fun h => by rw [g4 _ (by omega)]; exact a1 h, fun h => by rw [g4 _ (by omega)]; exact a2 h, fun h => by rw [g4 _ (by omega)]; exact a3 h⟩
        · have em : um_rm 59 g t (um_od g t p).2.1 = (false, (um_od g t p).2.1, 0) := if_neg hs
          rw [em]
          dsimp only
          rw [if_pos (show nI (um_b2n false) = (0 : Int32) from rfl), if_neg hs]
          exact ⟨_, _, _, _, rfl, (fun q hq => by have := Option.some.inj hq; omega), fun hq => by cases hq⟩
      · rw [if_neg (nI_nlt (by omega) (by omega)), if_neg hlt]
        refine ⟨nI (n + um_b2n true), nI (um_od g t p).2.1, kd1, N1, rfl, (fun q hq => by cases hq), fun _ => ⟨rfl, ?_, fun j hj => i1 j (by omega), fun j hj => i2 j (by omega), j1, j2, hkn, trivial⟩⟩
        show n + 1 ≤ 31
        omega
/-- the reference reads a text, doing nothing -/
def um_nx (t : Nat) (tx : Nat → Int32) (isD : Int32) (fuel : Nat) (cnt : Int32) (r : Option (Int32 × Int32 × Int32 × Int32 × Int32 × (Nat → Int32))) : Option (Int32 × Int32 × Int32 × Int32 × Int32 × Int32 × (Nat → Int32)) :=
  ub_b6 r fun d' fl' h' iw' w' v' => ulX9_orders_16 (nI t) isD tx fuel d' fl' h' iw' w' v' cnt
theorem um_pass1 (hX : um_X t g tc tx) {d w : Int32} {v : Nat → Int32} : ∀ (k fuel p : Nat) (cnt : Int32), p ≤ t → t + 2 ≤ p + 2 * k → 2 * k < fuel →
    ∃ (cnt' : Int32) (h' : Nat), um_nx t tx 0 fuel cnt (um_go d 0 0 w v (um_sg g t p) (um_od g t p)) = some (cnt', d, 0, nI h', nI (um_b2n (um_pr g t k p).1.isSome), w, v) ∧ (∀ q, (um_pr g t k p).1 = some q → h' = q)
  | 0, _, p, _, h1, h2, _ => by omega
  | k + 1, fuel, p, cnt, h1, h2, hk => by
    obtain ⟨fu, rfl⟩ : ∃ fu, fuel = fu + 1 + 1 := ⟨fuel - 2, by omega⟩
    have h60 := hX.1
    have hle := um_od_le (g := g) (t := t) (p := p)
    unfold um_nx um_go
    rw [um_pr]
    cases ho : (um_od g t p).1
    · rw [if_neg (show ¬ (false = true) by decide), if_neg (show ¬ (false = true) by decide), um_b6, ulX9_orders_16, if_neg (by decide)]
      exact ⟨cnt, _, rfl, fun q hq => Option.some.inj hq⟩
    · have hge := hle.2.2 ho
      rw [if_pos (show true = true from rfl), if_pos (show true = true from rfl), if_pos rfl, um_b6, ulX9_orders_16, if_pos (show nI 0 = (0 : Int32) from rfl), if_pos rfl]
      by_cases hlt : (um_od g t p).2.1 < t
      · rw [if_neg (nI_ge hlt (by omega)), if_pos hlt, show (59 : Int32) = nI 59 from rfl, um_markM hX (by omega) (by decide) (by decide), um_b2]
        by_cases hs : um_sg g t (um_od g t p).2.1 = 59
        · have em : um_rm 59 g t (um_od g t p).2.1 = (true, (um_od g t p).2.1 + 1, 0) := if_pos hs
          rw [em]
          dsimp only
          rw [if_pos (show nI (um_b2n (!true)) = (0 : Int32) from rfl), if_pos hs]
          obtain ⟨cnt', h', e, hq⟩ := um_pass1 hX (d := d) (w := w) (v := v) k (fu + 1) ((um_od g t p).2.1 + 1) (cnt + 1) (by omega) (by omega) (by omega)
          refine ⟨cnt', h', ?_, hq⟩
          rw [← e, show (0 : Int32) = nI 0 from rfl, um_orderM hX (by omega) (by decide)]
          rfl
        · have em : um_rm 59 g t (um_od g t p).2.1 = (false, (um_od g t p).2.1, 0) := if_neg hs
          rw [em]
          dsimp only
          rw [if_neg (show ¬ nI (um_b2n (!false)) = (0 : Int32) by decide), if_neg hs, ulX9_orders_16, if_neg (show ¬ nI (um_b2n (!false)) = (0 : Int32) by decide)]
          exact ⟨_, _, rfl, fun q hq => Option.some.inj hq⟩
      · rw [if_pos (nI_le (by omega) (by omega)), if_neg hlt]
        exact ⟨_, _, rfl, fun q hq => by cases hq⟩
end UM45
