/-! ===== run: the class and the reference do alike ===== -/
section UM47
variable {t : Nat} {g : Nat → Nat} {tc tx : Nat → Int32}
theorem um_fq_ne {q : Nat} (h : q < 2 ^ 20) : ¬ um_fq (some q) = (-1 : Int32) := by
  show ¬ nI q = (-1 : Int32)
  intro z
  have h1 := nI_pos (n := q) (by omega)
  rw [z] at h1
  exact h1 (by decide)
theorem um_exec (hX : um_X t g tc tx) {hf n num c0 : Nat} {K : Nat → Option ubT} {T0 : ubT} {f0 N : Nat → Nat} {pos tl : Int32} {kd : Nat → Int32} (hh : hf < 9) (hn : n ≤ 8) (hK : K hf = some T0) (hC0 : um_C f0 T0) (hI0 : um_I f0 c0) (hnum : num ≤ 31) :
    ∀ (k p i fu fuel c : Nat) (lr ld w d : Int32) (f : Nat → Nat) (la : Nat) (ph pr ps rd rh rr rs rg oa od oi om op ou : Nat → Nat), p ≤ t → t + 2 ≤ p + 2 * k → (um_pr g t k p).1 = none → um_st kd N i (um_pr g t k p).2 → i + (um_pr g t k p).2.length = num → (um_pr g t k p).2.length < fu → 2 * k < fuel → um_I f c → c + (um_pr g t k p).2.length ≤ 2 ^ 20 → um_D f la ph pr ps rd rh rr rs rg oa od oi om op ou → um_RS lr ld w d →
    ∃ (b : Nat) (lr' ld' w' d' fl' h' : Int32) (f' : Nat → Nat) (la' : Nat) (ph' pr' ps' rd' rh' rr' rs' rg' oa' od' oi' om' op' ou' : Nat → Nat), um_nx t tx 1 fuel (nI (i + 1)) (um_go d 0 1 w (um_nv f) (um_sg g t p) (um_od g t p)) = some (nI b, d', fl', h', nI 0, w', um_nv f') ∧
      ((fl' = 0 ∧ b = num ∧ um_I f' (c + (um_pr g t k p).2.length) ∧ um_D f' la' ph' pr' ps' rd' rh' rr' rs' rg' oa' od' oi' om' op' ou' ∧ um_RS lr' ld' w' d' ∧ ulX8_run_44 (nI hf) (nI n) K (nI num) pos kd (um_nv N) tl fu ld lr (nI (f 5)) (nI (f 4)) (nI (f 3)) (nI (f 7)) (nI (f 2)) (nI (f 6)) (nI (f 10)) (nI (f 8)) (nI (f 1)) (um_nv ph) (um_nv pr) (um_nv ps) (nI la) (nI (f 9)) (um_nv rd) (um_nv rh) (um_nv rr) (um_nv rs) (um_nv rg) (nI (f 0)) (um_nv oa) (um_nv od) (um_nv oi) (um_nv om) (um_nv op) (um_nv ou) (nI i) = some (nI num, ld', lr', nI ((hf + 1) % 9), nI (um_inc8 n), K, nI (f' 5), nI (f' 4), nI (f' 3), nI (f' 7), nI (f' 2), nI (f' 6), nI (f' 10), nI (f' 8), nI (f' 1), um_nv ph', um_nv pr', um_nv ps', nI la', nI (f' 9), um_nv rd', um_nv rh', um_nv rr', um_nv rs', um_nv rg', nI (f' 0), um_nv oa', um_nv od', um_nv oi', um_nv om', um_nv op', um_nv ou', nI num, pos, kd, um_nv N, tl)) ∨ (fl' ≠ 0 ∧ 1 ≤ b ∧ b ≤ num ∧ um_D f0 la' ph' pr' ps' rd' rh' rr' rs' rg' oa' od' oi' om' op' ou' ∧ ulX8_run_44 (nI hf) (nI n) K (nI num) pos kd (um_nv N) tl fu ld lr (nI (f 5)) (nI (f 4)) (nI (f 3)) (nI (f 7)) (nI (f 2)) (nI (f 6)) (nI (f 10)) (nI (f 8)) (nI (f 1)) (um_nv ph) (um_nv pr) (um_nv ps) (nI la) (nI (f 9)) (um_nv rd) (um_nv rh) (um_nv rr) (um_nv rs) (um_nv rg) (nI (f 0)) (um_nv oa) (um_nv od) (um_nv oi) (um_nv om) (um_nv op) (um_nv ou) (nI i) = some (-1014, nI (b - 1), 7, nI hf, nI n, va_up K hf (some T0), nI (f0 5), nI (f0 4), nI (f0 3), nI (f0 7), nI (f0 2), nI (f0 6), nI (f0 10), nI (f0 8), nI (f0 1), um_nv ph', um_nv pr', um_nv ps', nI la', nI (f0 9), um_nv rd', um_nv rh', um_nv rr', um_nv rs', um_nv rg', nI (f0 0), um_nv oa', um_nv od', um_nv oi', um_nv om', um_nv op', um_nv ou', nI num, pos, kd, um_nv N, tl)))
  | 0, p, _, _, _, _, _, _, _, _, _, _, _, _, _, _, _, _, _, _, _, _, _, _, _, _, h1, h2, _, _, _, _, _, _, _, _, _ => by omega
  | k + 1, p, i, fu, fuel, c, lr, ld, w, d, f, la, ph, pr, ps, rd, rh, rr, rs, rg, oa, od, oi, om, op, ou, h1, h2, hpr, hst, hlen, hfu, hfuel, hI, hc, hT, hR => by
    obtain ⟨fue, rfl⟩ : ∃ fue, fuel = fue + 1 + 1 := ⟨fuel - 2, by omega⟩
    have h60 := hX.1
    have hle := um_od_le (g := g) (t := t) (p := p)
    rw [um_pr] at hpr hst hlen hfu hc ⊢
    cases ho : (um_od g t p).1
    · rw [ho, if_neg (show ¬ (false = true) by decide)] at hpr
      cases hpr
    · have hge := hle.2.2 ho
      rw [ho, if_pos (show true = true from rfl)] at hpr hst hlen hfu hc
      rw [if_pos (show true = true from rfl)]
      -- the order itself, on either side
      have key : ∀ rest : List (Nat × Nat × Nat × Nat), um_st kd N i ((um_sg g t p, (um_od g t p).2.2) :: rest) → i < num → c + 1 ≤ 2 ^ 20 →
          ∃ (y z fl lr' ld' w' d' : Int32) (f' : Nat → Nat) (la' : Nat) (ph' pr' ps' rd' rh' rr' rs' rg' oa' od' oi' om' op' ou' : Nat → Nat), ufX8_carryOut ld lr (nI (f 5)) (nI (f 4)) (nI (f 3)) (nI (f 7)) (nI (f 2)) (nI (f 6)) (nI (f 10)) (nI (f 8)) (nI (f 1)) (um_nv ph) (um_nv pr) (um_nv ps) (nI la) (nI (f 9)) (um_nv rd) (um_nv rh) (um_nv rr) (um_nv rs) (um_nv rg) (nI (f 0)) (um_nv oa) (um_nv od) (um_nv oi) (um_nv om) (um_nv op) (um_nv ou) kd (um_nv N) (nI i) = some (y, ld', lr', nI (f' 5), nI (f' 4), nI (f' 3), nI (f' 7), nI (f' 2), nI (f' 6), nI (f' 10), nI (f' 8), nI (f' 1), um_nv ph', um_nv pr', um_nv ps', nI la', nI (f' 9), um_nv rd', um_nv rh', um_nv rr', um_nv rs', um_nv rg', nI (f' 0), um_nv oa', um_nv od', um_nv oi', um_nv om', um_nv op', um_nv ou') ∧ ufX9_does d 0 w (um_nv f) (nI (um_sg g t p)) (nI (um_od g t p).2.2.1) (nI (um_od g t p).2.2.2.1) (nI (um_od g t p).2.2.2.2) = some (z, d', fl, w', um_nv f') ∧ um_RS lr' ld' w' d' ∧ um_I f' (c + 1) ∧ um_D f' la' ph' pr' ps' rd' rh' rr' rs' rg' oa' od' oi' om' op' ou' ∧ um_E y z fl f f' ∧ um_st kd N (i + 1) rest := by
        intro rest hs hi hc1
        obtain ⟨g1, g2, g3, g4⟩ := hs
        obtain ⟨y, z, fl, lr', ld', w', d', f', la', ph', pr', ps', rd', rh', rr', rs', rg', oa', od', oi', om', op', ou', e1, e2, e3, e4, e5, e6⟩ := um_k_all (N := N) g3 (show i < 60 by omega) g1 g2 hI hT hc1 hR
        exact ⟨y, z, fl, lr', ld', w', d', f', la', ph', pr', ps', rd', rh', rr', rs', rg', oa', od', oi', om', op', ou', e1, e2, e3, e4, e5, e6, g4⟩
      have hgo : um_go d 0 1 w (um_nv f) (um_sg g t p) (um_od g t p) = ub_b5 (ufX9_does d 0 w (um_nv f) (nI (um_sg g t p)) (nI (um_od g t p).2.2.1) (nI (um_od g t p).2.2.2.1) (nI (um_od g t p).2.2.2.2)) fun _ d' fl' w' v' => some (d', fl', nI (um_od g t p).2.1, nI 0, w', v') := by
        unfold um_go
        rw [ho, if_pos (show true = true from rfl), if_neg (by decide)]
      -- a failing order
      have failing : ∀ (y z fl lr' ld' w' d' : Int32) (f' : Nat → Nat) (la' : Nat) (ph' pr' ps' rd' rh' rr' rs' rg' oa' od' oi' om' op' ou' : Nat → Nat) (L : Nat), L < fu → i < num → ufX8_carryOut ld lr (nI (f 5)) (nI (f 4)) (nI (f 3)) (nI (f 7)) (nI (f 2)) (nI (f 6)) (nI (f 10)) (nI (f 8)) (nI (f 1)) (um_nv ph) (um_nv pr) (um_nv ps) (nI la) (nI (f 9)) (um_nv rd) (um_nv rh) (um_nv rr) (um_nv rs) (um_nv rg) (nI (f 0)) (um_nv oa) (um_nv od) (um_nv oi) (um_nv om) (um_nv op) (um_nv ou) kd (um_nv N) (nI i) = some (y, ld', lr', nI (f' 5), nI (f' 4), nI (f' 3), nI (f' 7), nI (f' 2), nI (f' 6), nI (f' 10), nI (f' 8), nI (f' 1), um_nv ph', um_nv pr', um_nv ps', nI la', nI (f' 9), um_nv rd', um_nv rh', um_nv rr', um_nv rs', um_nv rg', nI (f' 0), um_nv oa', um_nv od', um_nv oi', um_nv om', um_nv op', um_nv ou') → y < 0 →
          ∃ (la' : Nat) (ph2 pr2 ps2 rd2 rh2 rr2 rs2 rg2 oa2 od2 oi2 om2 op2 ou2 : Nat → Nat), um_D f0 la' ph2 pr2 ps2 rd2 rh2 rr2 rs2 rg2 oa2 od2 oi2 om2 op2 ou2 ∧ ulX8_run_44 (nI hf) (nI n) K (nI num) pos kd (um_nv N) tl fu ld lr (nI (f 5)) (nI (f 4)) (nI (f 3)) (nI (f 7)) (nI (f 2)) (nI (f 6)) (nI (f 10)) (nI (f 8)) (nI (f 1)) (um_nv ph) (um_nv pr) (um_nv ps) (nI la) (nI (f 9)) (um_nv rd) (um_nv rh) (um_nv rr) (um_nv rs) (um_nv rg) (nI (f 0)) (um_nv oa) (um_nv od) (um_nv oi) (um_nv om) (um_nv op) (um_nv ou) (nI i) = some (-1014, nI (i + 1 - 1), 7, nI hf, nI n, va_up K hf (some T0), nI (f0 5), nI (f0 4), nI (f0 3), nI (f0 7), nI (f0 2), nI (f0 6), nI (f0 10), nI (f0 8), nI (f0 1), um_nv ph2, um_nv pr2, um_nv ps2, nI la', nI (f0 9), um_nv rd2, um_nv rh2, um_nv rr2, um_nv rs2, um_nv rg2, nI (f0 0), um_nv oa2, um_nv od2, um_nv oi2, um_nv om2, um_nv op2, um_nv ou2, nI num, pos, kd, um_nv N, tl) := by
        intro y z fl lr' ld' w' d' f' la' ph' pr' ps' rd' rh' rr' rs' rg' oa' od' oi' om' op' ou' L hL hi e1 hy
        obtain ⟨fu', rfl⟩ : ∃ fu', fu = fu' + 1 := ⟨fu - 1, by omega⟩
        obtain ⟨la2, ph2, pr2, ps2, rd2, rh2, rr2, rs2, rg2, oa2, od2, oi2, om2, op2, ou2, eb, hb⟩ := um_takeBack (K := K) (t_answers := (nI (f' 5))) (t_came := (nI (f' 4))) (t_day := (nI (f' 3))) (t_doubles := (nI (f' 7))) (t_hour := (nI (f' 2))) (t_misses := (nI (f' 6))) (t_rung := (nI (f' 10))) (t_takenAway := (nI (f' 8))) (t_pulls_number := (nI (f' 1))) (t_pulls_hour := (um_nv ph')) (t_pulls_rope := (um_nv pr')) (t_pulls_strength := (um_nv ps')) (t_remembered_latest := (nI la')) (t_remembered_number := (nI (f' 9))) (t_remembered_day := (um_nv rd')) (t_remembered_hour := (um_nv rh')) (t_remembered_rope := (um_nv rr')) (t_remembered_strength := (um_nv rs')) (t_ringers := (um_nv rg')) (t_ropes_number := (nI (f' 0))) (t_ropes_answers := (um_nv oa')) (t_ropes_doubles := (um_nv od')) (t_ropes_isOn := (um_nv oi')) (t_ropes_misses := (um_nv om')) (t_ropes_parish := (um_nv op')) (t_ropes_rust := (um_nv ou')) hI0 hh hK hC0
        refine ⟨la2, ph2, pr2, ps2, rd2, rh2, rr2, rs2, rg2, oa2, od2, oi2, om2, op2, ou2, hb, ?_⟩
        rw [ulX8_run_44, if_neg (nI_ge hi (by omega)), e1, um_b29, if_neg (show ¬ (0 : Int32) ≤ y from Int32.not_le.mpr hy), eb, um_b27]
        unfold ufX8_refuse
        rw [um_b3, Nat.add_sub_cancel]
      by_cases hlt : (um_od g t p).2.1 < t
      · rw [if_pos hlt] at hpr hst hlen hfu hc ⊢
        by_cases hs : um_sg g t (um_od g t p).2.1 = 59
        · rw [if_pos hs] at hpr hst hlen hfu hc ⊢
          dsimp only at hpr hst hlen hfu hc ⊢
          rw [List.length_cons] at hlen hfu hc ⊢
          obtain ⟨y, z, fl, lr1, ld1, w1, d1, f1, la1, ph1, pr1, ps1, rd1, rh1, rr1, rs1, rg1, oa1, od1, oi1, om1, op1, ou1, e1, e2, e3, e4, e5, e6, e7⟩ := key _ hst (by omega) (by omega)
          rw [hgo, e2, um_b5]
          unfold um_nx
          rw [um_b6]
          rcases e6 with ⟨m1, m2, m3⟩ | ⟨m1, m2, m3⟩
          · subst m1
            obtain ⟨fu', rfl⟩ : ∃ fu', fu = fu' + 1 := ⟨fu - 1, by omega⟩
            obtain ⟨b, lr', ld', w', d', fl', h', f', la', ph', pr', ps', rd', rh', rr', rs', rg', oa', od', oi', om', op', ou', r1, r2⟩ := um_exec hX hh hn hK hC0 hI0 hnum (pos := pos) (tl := tl) k ((um_od g t p).2.1 + 1) (i + 1) fu' (fue + 1) (c + 1) lr1 ld1 w1 d1 f1 la1 ph1 pr1 ps1 rd1 rh1 rr1 rs1 rg1 oa1 od1 oi1 om1 op1 ou1 (by omega) (by omega) hpr e7 (by omega) (by omega) (by omega) e4 (by omega) e5 e3
            refine ⟨b, lr', ld', w', d', fl', h', f', la', ph', pr', ps', rd', rh', rr', rs', rg', oa', od', oi', om', op', ou', ?_, ?_⟩
            · rw [← r1, ulX9_orders_16, if_pos (show nI 0 = (0 : Int32) from rfl), if_pos rfl, if_neg (nI_ge hlt (by omega)), show (59 : Int32) = nI 59 from rfl, um_markM hX (by omega) (by decide) (by decide), um_b2]
              have em : um_rm 59 g t (um_od g t p).2.1 = (true, (um_od g t p).2.1 + 1, 0) := if_pos hs
              rw [em]
              dsimp only
              rw [if_pos (show nI (um_b2n (!true)) = (0 : Int32) from rfl), show (1 : Int32) = nI 1 from rfl, um_orderM hX (by omega) (by decide), nI_add]
              rfl
            · have hrun : ulX8_run_44 (nI hf) (nI n) K (nI num) pos kd (um_nv N) tl (fu' + 1) ld lr (nI (f 5)) (nI (f 4)) (nI (f 3)) (nI (f 7)) (nI (f 2)) (nI (f 6)) (nI (f 10)) (nI (f 8)) (nI (f 1)) (um_nv ph) (um_nv pr) (um_nv ps) (nI la) (nI (f 9)) (um_nv rd) (um_nv rh) (um_nv rr) (um_nv rs) (um_nv rg) (nI (f 0)) (um_nv oa) (um_nv od) (um_nv oi) (um_nv om) (um_nv op) (um_nv ou) (nI i) = ulX8_run_44 (nI hf) (nI n) K (nI num) pos kd (um_nv N) tl fu' ld1 lr1 (nI (f1 5)) (nI (f1 4)) (nI (f1 3)) (nI (f1 7)) (nI (f1 2)) (nI (f1 6)) (nI (f1 10)) (nI (f1 8)) (nI (f1 1)) (um_nv ph1) (um_nv pr1) (um_nv ps1) (nI la1) (nI (f1 9)) (um_nv rd1) (um_nv rh1) (um_nv rr1) (um_nv rs1) (um_nv rg1) (nI (f1 0)) (um_nv oa1) (um_nv od1) (um_nv oi1) (um_nv om1) (um_nv op1) (um_nv ou1) (nI (i + 1)) := by
                rw [ulX8_run_44, if_neg (nI_ge (show i < num by omega) (by omega)), e1, um_b29, if_pos (Int32.not_lt.mp m3), nI_1]
              rw [hrun, show c + ((um_pr g t k ((um_od g t p).2.1 + 1)).2.length + 1) = c + 1 + (um_pr g t k ((um_od g t p).2.1 + 1)).2.length by omega]
              exact r2
          · obtain ⟨la', ph', pr', ps', rd', rh', rr', rs', rg', oa', od', oi', om', op', ou', hb, er⟩ := failing y z fl lr1 ld1 w1 d1 f1 la1 ph1 pr1 ps1 rd1 rh1 rr1 rs1 rg1 oa1 od1 oi1 om1 op1 ou1 _ (Nat.lt_of_succ_lt hfu) (by omega) e1 m2
            have hne : fl ≠ 0 := fun z0 => by
              rw [m1] at z0
              rw [z0] at m2
              exact absurd m2 (by decide)
            refine ⟨i + 1, lr1, ld1, w1, d1, fl, nI (um_od g t p).2.1, f1, la', ph', pr', ps', rd', rh', rr', rs', rg', oa', od', oi', om', op', ou', ?_, Or.inr ⟨hne, by omega, by omega, hb, er⟩⟩
            rw [ulX9_orders_16, if_pos (show nI 0 = (0 : Int32) from rfl), if_neg hne]
        · rw [if_neg hs] at hpr
          cases hpr
      · rw [if_neg hlt] at hst hlen hfu hc ⊢
        have hl1 : [(um_sg g t p, (um_od g t p).2.2)].length = 1 := rfl
        dsimp only at hst hlen hfu hc ⊢
        rw [hl1] at hlen hfu hc ⊢
        obtain ⟨y, z, fl, lr1, ld1, w1, d1, f1, la1, ph1, pr1, ps1, rd1, rh1, rr1, rs1, rg1, oa1, od1, oi1, om1, op1, ou1, e1, e2, e3, e4, e5, e6, e7⟩ := key _ hst (by omega) (by omega)
        rw [hgo, e2, um_b5]
        unfold um_nx
        rw [um_b6]
        rcases e6 with ⟨m1, m2, m3⟩ | ⟨m1, m2, m3⟩
        · subst m1
          obtain ⟨fu', rfl⟩ : ∃ fu', fu = fu' + 1 + 1 := ⟨fu - 2, by omega⟩
          refine ⟨i + 1, lr1, ld1, w1, d1, 0, nI (um_od g t p).2.1, f1, la1, ph1, pr1, ps1, rd1, rh1, rr1, rs1, rg1, oa1, od1, oi1, om1, op1, ou1, ?_, Or.inl ⟨rfl, by omega, e4, e5, e3, ?_⟩⟩
          · rw [ulX9_orders_16, if_pos (show nI 0 = (0 : Int32) from rfl), if_pos rfl, if_pos (nI_le (by omega) (by omega))]
          · rw [ulX8_run_44, if_neg (nI_ge (show i < num by omega) (by omega)), e1, um_b29, if_pos (Int32.not_lt.mp m3), nI_1, ulX8_run_44, if_pos (nI_le (by omega) (by omega))]
            unfold ufX8_settle
            rw [if_neg (nI_pos (by omega)), um_keep8 hh hn, um_b2, um_b3]
        · obtain ⟨la', ph', pr', ps', rd', rh', rr', rs', rg', oa', od', oi', om', op', ou', hb, er⟩ := failing y z fl lr1 ld1 w1 d1 f1 la1 ph1 pr1 ps1 rd1 rh1 rr1 rs1 rg1 oa1 od1 oi1 om1 op1 ou1 _ hfu (by omega) e1 m2
          have hne : fl ≠ 0 := fun z0 => by
            rw [m1] at z0
            rw [z0] at m2
            exact absurd m2 (by decide)
          refine ⟨i + 1, lr1, ld1, w1, d1, fl, nI (um_od g t p).2.1, f1, la', ph', pr', ps', rd', rh', rr', rs', rg', oa', od', oi', om', op', ou', ?_, Or.inr ⟨hne, by omega, by omega, hb, er⟩⟩
          rw [ulX9_orders_16, if_pos (show nI 0 = (0 : Int32) from rfl), if_neg hne]
theorem um_f_run {a_answers a_came a_day a_doubles a_hour a_misses a_rung a_takenAway a_pulls_number a_remembered_latest a_remembered_number a_ropes_number : Int32} {a_pulls_hour a_pulls_rope a_pulls_strength a_remembered_day a_remembered_hour a_remembered_rope a_remembered_strength a_ringers a_ropes_answers a_ropes_doubles a_ropes_isOn a_ropes_misses a_ropes_parish a_ropes_rust : Nat → Int32} {K : Nat → Option ubT} {hf n c : Nat} {past bb f : Nat → Nat} {lr ld w d fl0 en0 he0 id0 iw0 on0 ps0 : Int32} {ok0 om0 : Nat → Int32} (hX : um_X t g tc tx) (hI : um_I f c) (hC : um_C f (a_hour, a_day, a_came, a_rung, a_answers, a_misses, a_doubles, a_takenAway, a_pulls_number, a_pulls_hour, a_pulls_rope, a_pulls_strength, a_remembered_number, a_remembered_latest, a_remembered_day, a_remembered_hour, a_remembered_rope, a_remembered_strength, a_ringers, a_ropes_number, a_ropes_answers, a_ropes_doubles, a_ropes_isOn, a_ropes_misses, a_ropes_parish, a_ropes_rust)) (hc : c + 31 ≤ 2 ^ 20) (hH : um_H c K hf n past) (hR : um_RS lr ld w d) :
    ∃ (y lr' ld' w' d' fl' en' he' id' iw' on' ps' : Int32) (ok' om' : Nat → Int32) (K' : Nat → Option ubT) (hf' n' : Nat) (past' bef' f'' : Nat → Nat) (r_answers r_came r_day r_doubles r_hour r_misses r_rung r_takenAway r_pulls_number r_remembered_latest r_remembered_number r_ropes_number : Int32) (r_pulls_hour r_pulls_rope r_pulls_strength r_remembered_day r_remembered_hour r_remembered_rope r_remembered_strength r_ringers r_ropes_answers r_ropes_doubles r_ropes_isOn r_ropes_misses r_ropes_parish r_ropes_rust : Nat → Int32), ufX8_run ld lr (nI hf) (nI n) K a_answers a_came a_day a_doubles a_hour a_misses a_rung a_takenAway a_pulls_number a_pulls_hour a_pulls_rope a_pulls_strength a_remembered_latest a_remembered_number a_remembered_day a_remembered_hour a_remembered_rope a_remembered_strength a_ringers a_ropes_number a_ropes_answers a_ropes_doubles a_ropes_isOn a_ropes_misses a_ropes_parish a_ropes_rust on0 ps0 ok0 om0 (nI t) tc = some (y, ld', lr', nI hf', nI n', K', r_answers, r_came, r_day, r_doubles, r_hour, r_misses, r_rung, r_takenAway, r_pulls_number, r_pulls_hour, r_pulls_rope, r_pulls_strength, r_remembered_latest, r_remembered_number, r_remembered_day, r_remembered_hour, r_remembered_rope, r_remembered_strength, r_ringers, r_ropes_number, r_ropes_answers, r_ropes_doubles, r_ropes_isOn, r_ropes_misses, r_ropes_parish, r_ropes_rust, on', ps', ok', om', 0) ∧
      ufX9_run (nI n) d en0 fl0 he0 id0 iw0 (nI t) w (um_nv bb) (um_nv past) tx (um_nv f) = some (y, nI n', d', en', fl', he', id', iw', 0, w', um_nv bef', um_nv past', um_nv f'') ∧ um_RS lr' ld' w' d' ∧ um_I f'' (c + 31) ∧ um_C f'' (r_hour, r_day, r_came, r_rung, r_answers, r_misses, r_doubles, r_takenAway, r_pulls_number, r_pulls_hour, r_pulls_rope, r_pulls_strength, r_remembered_number, r_remembered_latest, r_remembered_day, r_remembered_hour, r_remembered_rope, r_remembered_strength, r_ringers, r_ropes_number, r_ropes_answers, r_ropes_doubles, r_ropes_isOn, r_ropes_misses, r_ropes_parish, r_ropes_rust) ∧ um_H (c + 31) K' hf' n' past' := by
  have h60 := hX.1
  have hb : ∀ q, q < 235 → um_mix 0 235 f bb q = f q := fun q hq => um_mix_in (by omega)
  have hF : (80 : Nat) < ub_F := by decide
  obtain ⟨om1, rfl⟩ := um_any om0
  obtain ⟨num', pos', kd, N, e1, g1, g2⟩ := um_read12 hX 40 ub_F 0 0 ok0 om1 (Nat.zero_le _) (by omega) (Nat.le_refl _) (by omega)
  obtain ⟨cnt', h', e2, g3⟩ := um_pass1 hX (d := d) (w := w) (v := um_nv f) 40 ub_F 0 1 (Nat.zero_le _) (by omega) (by omega)
  have m1 : ufX9_orders d (nI t) 0 he0 0 iw0 w tx (um_nv f) = some (cnt', d, 0, nI h', nI (um_b2n (um_pr g t 40 0).1.isSome), w, um_nv f) := by
    rw [← e2, ← um_orderM (x0 := 0) hX (by decide) (by decide)]
    rfl
  have r1 : ufX3_read on0 ps0 ok0 (um_nv om1) (nI t) tc = some (um_fq (um_pr g t 40 0).1, num', pos', kd, um_nv N) := e1
  cases hq : (um_pr g t 40 0).1 with
  | some q =>
    rw [hq] at m1 r1
    have hq1 := g1 q hq
    have hq2 := g3 q hq
    subst hq2
    refine ⟨(-2000) - nI h', lr, ld, w, d, 0, nI t, nI h', 0, 1, num', pos', kd, um_nv N, K, hf, n, past, um_mix 0 235 f bb, f, a_answers, a_came, a_day, a_doubles, a_hour, a_misses, a_rung, a_takenAway, a_pulls_number, a_remembered_latest, a_remembered_number, a_ropes_number, a_pulls_hour, a_pulls_rope, a_pulls_strength, a_remembered_day, a_remembered_hour, a_remembered_rope, a_remembered_strength, a_ringers, a_ropes_answers, a_ropes_doubles, a_ropes_isOn, a_ropes_misses, a_ropes_parish, a_ropes_rust, ?_, ?_, hR, um_I_up (Nat.le_add_right _ _) hc hI, hC, um_H_mono (Nat.le_add_right _ _) hc hH⟩
    · unfold ufX8_run
      rw [r1, um_b5, if_neg (show ¬ um_fq (some h') = (-1 : Int32) from um_fq_ne hq1)]
      rfl
    · unfold ufX9_run
      rw [um_begins, um_b2, m1, um_b7, if_neg (show ¬ nI (um_b2n (some h').isSome) = (0 : Int32) from (show ¬ nI 1 = (0 : Int32) by decide))]
      rfl
  | none =>
    rw [hq] at m1 r1
    obtain ⟨k1, k2, k3, k4, k5⟩ := g2 hq
    rw [Nat.zero_add] at k1 k2
    subst k1
    obtain ⟨la, ph, pr, ps, rd, rh, rr, rs, rg, oa, od, oi, om, op, ou, eT, hT⟩ := hC
    simp only [um_T, Prod.mk.injEq] at eT
    obtain ⟨rfl, rfl, rfl, rfl, rfl, rfl, rfl, rfl, rfl, rfl, rfl, rfl, rfl, rfl, rfl, rfl, rfl, rfl, rfl, rfl, rfl, rfl, rfl, rfl, rfl, rfl⟩ := eT
    obtain ⟨T, eN, hCT⟩ := um_note (K := K) hI hT hH.1
    obtain ⟨b, lr', ld', w', d', fl', hh', f', la', ph', pr', ps', rd', rh', rr', rs', rg', oa', od', oi', om', op', ou', x1, x2⟩ := um_exec hX hH.1 hH.2.1 (um_up_at (f := K) (i := hf) (x := some T)) hCT hI k2 (pos := pos') (tl := 0) 40 0 0 ub_F ub_F c lr ld w d f la ph pr ps rd rh rr rs rg oa od oi om op ou (Nat.zero_le _) (by omega) hq k5 (Nat.zero_add _) (by omega) (by omega) hI (by omega) hT hR
    have m2 : ∀ iw, ufX9_orders d (nI t) 0 (nI h') 1 iw w tx (um_nv f) = some (nI b, d', fl', hh', nI 0, w', um_nv f') := fun iw => by
      rw [← x1, ← um_orderM (x0 := 0) hX (by decide) (by decide)]
      rfl
    have r2 : ∀ z, ulX8_run_44 (nI hf) (nI n) (va_up K hf (some T)) (nI (um_pr g t 40 0).2.length) pos' kd (um_nv N) 0 ub_F ld lr (nI (f 5)) (nI (f 4)) (nI (f 3)) (nI (f 7)) (nI (f 2)) (nI (f 6)) (nI (f 10)) (nI (f 8)) (nI (f 1)) (um_nv ph) (um_nv pr) (um_nv ps) (nI la) (nI (f 9)) (um_nv rd) (um_nv rh) (um_nv rr) (um_nv rs) (um_nv rg) (nI (f 0)) (um_nv oa) (um_nv od) (um_nv oi) (um_nv om) (um_nv op) (um_nv ou) (nI 0) = z → ufX8_run ld lr (nI hf) (nI n) K (nI (f 5)) (nI (f 4)) (nI (f 3)) (nI (f 7)) (nI (f 2)) (nI (f 6)) (nI (f 10)) (nI (f 8)) (nI (f 1)) (um_nv ph) (um_nv pr) (um_nv ps) (nI la) (nI (f 9)) (um_nv rd) (um_nv rh) (um_nv rr) (um_nv rs) (um_nv rg) (nI (f 0)) (um_nv oa) (um_nv od) (um_nv oi) (um_nv om) (um_nv op) (um_nv ou) on0 ps0 ok0 (um_nv om1) (nI t) tc = z := fun z hz => by
      unfold ufX8_run
      rw [r1, um_b5, if_pos (show um_fq none = (-1 : Int32) from rfl), eN, um_b1]
      exact hz
    have k7 : nI (um_b2n (none : Option Nat).isSome) = (0 : Int32) := rfl
    rcases x2 with ⟨y1, y2, y3, y4, y5, y6⟩ | ⟨y1, y2, y3, y4, y5⟩
    · subst y1
      refine ⟨nI b, lr', ld', w', d', 0, nI t, hh', 1, nI 0, _, _, _, _, va_up K hf (some T), (hf + 1) % 9, um_inc8 n, um_push past n (um_mix 0 235 f bb), um_mix 0 235 f bb, f', nI (f' 5), nI (f' 4), nI (f' 3), nI (f' 7), nI (f' 2), nI (f' 6), nI (f' 10), nI (f' 8), nI (f' 1), nI la', nI (f' 9), nI (f' 0), um_nv ph', um_nv pr', um_nv ps', um_nv rd', um_nv rh', um_nv rr', um_nv rs', um_nv rg', um_nv oa', um_nv od', um_nv oi', um_nv om', um_nv op', um_nv ou', r2 _ (y6.trans (by rw [y2])), ?_, y5, um_I_up (by omega) hc y3, ⟨la', ph', pr', ps', rd', rh', rr', rs', rg', oa', od', oi', om', op', ou', rfl, y4⟩, um_H_mono (by omega) hc (um_H_push hH (by omega) hI hCT hb)⟩
      unfold ufX9_run
      rw [um_begins, um_b2, m1, um_b7, if_pos k7, m2, um_b7, if_pos rfl]
      unfold ujX9_run_74
      rw [um_ends hH.2.1, um_b4]
    · refine ⟨-1014, 7, nI (b - 1), 7, nI (b - 1), -1014, nI t, hh', 1, nI 0, _, _, _, _, va_up (va_up K hf (some T)) hf (some T), hf, n, past, um_mix 0 235 f bb, um_mix 0 235 (um_mix 0 235 f bb) f', nI (f 5), nI (f 4), nI (f 3), nI (f 7), nI (f 2), nI (f 6), nI (f 10), nI (f 8), nI (f 1), nI la', nI (f 9), nI (f 0), um_nv ph', um_nv pr', um_nv ps', um_nv rd', um_nv rh', um_nv rr', um_nv rs', um_nv rg', um_nv oa', um_nv od', um_nv oi', um_nv om', um_nv op', um_nv ou', r2 _ y5, ?_, um_RS_put (by decide), um_I_congr (fun q hq => by rw [um_mix_in (by omega), hb q hq]) (Nat.le_add_right _ _) hc hI, um_C_congr hI (fun q hq => by rw [um_mix_in (by omega), hb q hq]) ⟨la', ph', pr', ps', rd', rh', rr', rs', rg', oa', od', oi', om', op', ou', rfl, y4⟩, um_H_mono (Nat.le_add_right _ _) hc (um_H_free _ (um_H_free _ hH))⟩
      unfold ufX9_run
      rw [um_begins, um_b2, m1, um_b7, if_pos k7, m2, um_b7, if_neg y1, show (1 : Int32) = nI 1 from rfl, pk_sub y2]
      unfold ujX9_run_74 ufX9_refuses ufX9_fail ufX9_ends
      rw [um_b2, um_b4, if_neg (show ¬ (-1014 : Int32) = 0 by decide), um_lays, um_b1, um_b4]
end UM47
