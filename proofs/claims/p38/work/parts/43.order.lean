/-! ===== one order: its kind and its numbers, on either side ===== -/
/-- whether it reads, the position then, three numbers -/
def um_od (g : Nat → Nat) (t p : Nat) : Bool × Nat × Nat × Nat × Nat :=
  if um_sg g t p = 114 then ((um_rd g t (p + 1)).1, (um_rd g t (p + 1)).2.1, (um_rd g t (p + 1)).2.2, 0, 0)
  else if um_sg g t p = 118 then
    (if (um_rD g t (p + 1)).1 then
      (if (um_rm 58 g t (um_rD g t (p + 1)).2.1).1 then
        ((um_rd g t ((um_rD g t (p + 1)).2.1 + 1)).1, (um_rd g t ((um_rD g t (p + 1)).2.1 + 1)).2.1, (um_rD g t (p + 1)).2.2, (um_rd g t ((um_rD g t (p + 1)).2.1 + 1)).2.2, 0)
      else (false, (um_rD g t (p + 1)).2.1, 0, 0, 0))
    else (false, (um_rD g t (p + 1)).2.1, 0, 0, 0))
  else if um_sg g t p = 115 then
    (if (um_rD g t (p + 1)).1 then ((um_rq g t (um_rD g t (p + 1)).2.1).1, (um_rq g t (um_rD g t (p + 1)).2.1).2.1, (um_rD g t (p + 1)).2.2, (um_rq g t (um_rD g t (p + 1)).2.1).2.2, 0)
    else (false, (um_rD g t (p + 1)).2.1, 0, 0, 0))
  else if um_sg g t p = 112 then
    (if (um_rD g t (p + 1)).1 then
      (if (um_rm 64 g t (um_rD g t (p + 1)).2.1).1 then
        (if (um_rD g t ((um_rD g t (p + 1)).2.1 + 1)).1 then
          (if (um_rm 42 g t (um_rD g t ((um_rD g t (p + 1)).2.1 + 1)).2.1).1 then
            ((um_rd g t ((um_rD g t ((um_rD g t (p + 1)).2.1 + 1)).2.1 + 1)).1, (um_rd g t ((um_rD g t ((um_rD g t (p + 1)).2.1 + 1)).2.1 + 1)).2.1, (um_rD g t (p + 1)).2.2, (um_rD g t ((um_rD g t (p + 1)).2.1 + 1)).2.2, (um_rd g t ((um_rD g t ((um_rD g t (p + 1)).2.1 + 1)).2.1 + 1)).2.2)
          else (false, (um_rD g t ((um_rD g t (p + 1)).2.1 + 1)).2.1, 0, 0, 0))
        else (false, (um_rD g t ((um_rD g t (p + 1)).2.1 + 1)).2.1, 0, 0, 0))
      else (false, (um_rD g t (p + 1)).2.1, 0, 0, 0))
    else (false, (um_rD g t (p + 1)).2.1, 0, 0, 0))
  else if um_sg g t p = 99 then ((um_rD g t (p + 1)).1, (um_rD g t (p + 1)).2.1, (um_rD g t (p + 1)).2.2, 0, 0)
  else if um_sg g t p = 110 then (true, p + 1, 0, 0, 0)
  else if um_sg g t p = 104 then (true, p + 1, 0, 0, 0)
  else if um_sg g t p = 111 then
    (if (um_rD g t (p + 1)).1 then
      (if (um_rm 45 g t (um_rD g t (p + 1)).2.1).1 then
        ((um_rd g t ((um_rD g t (p + 1)).2.1 + 1)).1, (um_rd g t ((um_rD g t (p + 1)).2.1 + 1)).2.1, (um_rD g t (p + 1)).2.2, (um_rd g t ((um_rD g t (p + 1)).2.1 + 1)).2.2, 0)
      else (false, (um_rD g t (p + 1)).2.1, 0, 0, 0))
    else (false, (um_rD g t (p + 1)).2.1, 0, 0, 0))
  else if um_sg g t p = 101 then (true, p + 1, 0, 0, 0)
  else (false, p, 0, 0, 0)
section UM43
variable {t p : Nat} {g : Nat → Nat} {tc tx : Nat → Int32}
/-- how the reference goes on behind an order's text -/
def um_go (dd fl : Int32) (isD : Nat) (w : Int32) (v : Nat → Int32) (c : Nat) (o : Bool × Nat × Nat × Nat × Nat) : Option (Int32 × Int32 × Int32 × Int32 × Int32 × (Nat → Int32)) :=
  if o.1 then (if isD = 0 then some (dd, fl, nI o.2.1, nI 0, w, v) else ub_b5 (ufX9_does dd fl w v (nI c) (nI o.2.2.1) (nI o.2.2.2.1) (nI o.2.2.2.2)) fun _ d' fl' w' v' => some (d', fl', nI o.2.1, nI 0, w', v'))
  else some (dd, fl, nI o.2.1, nI 1, w, v)
theorem um_o160 {dd fl w : Int32} {isD q : Nat} {b : Bool} {v : Nat → Int32} {c a1 a2 a3 : Nat} (hD : isD < 2) : ujX9_order_160 dd fl (nI q) (nI isD) (nI (um_b2n (!b))) w v (nI c) (nI a1) (nI a2) (nI a3) = um_go dd fl isD w v c (b, q, a1, a2, a3) := by
  unfold ujX9_order_160 um_go
  cases b
  · rw [if_neg (show ¬ nI (um_b2n (!false)) = (0 : Int32) by decide), if_neg (show ¬ (false = true) by decide)]
    rfl
  · rw [if_pos (show nI (um_b2n (!true)) = (0 : Int32) from rfl), if_pos rfl]
    by_cases h : isD = 0
    · rw [if_pos (by rw [h]; rfl), if_pos h]
      rfl
    · rw [if_neg (nI_ne0 (by omega) (by omega)), if_neg h]
      rfl
theorem um_o160W {dd fl w x1 x2 x3 : Int32} {isD q : Nat} {v : Nat → Int32} {c a1 a2 a3 : Nat} : ujX9_order_160 dd fl (nI q) (nI isD) (nI 1) w v (nI c) x1 x2 x3 = um_go dd fl isD w v c (false, q, a1, a2, a3) := by
  unfold ujX9_order_160 um_go
  dsimp only
  rw [if_neg (show ¬ nI 1 = (0 : Int32) by decide), if_neg (show ¬ (false = true) by decide)]
theorem um_litne {a b : Nat} (ha : a < 2 ^ 31) (hb : b < 2 ^ 31) (h : a ≠ b) : ¬ nI a = nI b := fun z => h ((nI_eq ha hb).mp z)
theorem um_orderM {dd fl w x0 : Int32} {isD : Nat} {v : Nat → Int32} (hX : um_X t g tc tx) (hp : p < 2 ^ 16) (hD : isD < 2) : ufX9_order dd (nI t) fl (nI p) (nI isD) x0 w tx v = um_go dd fl isD w v (um_sg g t p) (um_od g t p) := by
  have hD1 := um_rD_le (t := t) (g := g) (p := p + 1)
  have hD2 := um_rD_le (t := t) (g := g) (p := (um_rD g t (p + 1)).2.1 + 1)
  have d1 := um_digits1 (p := p + 1) hX (by omega)
  have d2 := um_digits2 (p := p + 1) hX (by omega)
  have q1 := um_plusM (p := (um_rD g t (p + 1)).2.1) hX (by omega)
  have b1 : ∀ c, 0 < c → c < 2 ^ 20 → _ := fun c h1 h2 => um_behind1 (p := (um_rD g t (p + 1)).2.1) hX (by omega) (c := c) h1 h2
  have b2 := um_behind2 (p := (um_rD g t (p + 1)).2.1) hX (by omega) (c := 64) (by decide) (by decide)
  have b3 := um_behind1 (p := (um_rD g t ((um_rD g t (p + 1)).2.1 + 1)).2.1) hX (by omega) (c := 42) (by decide) (by decide)
  have hkn : ∀ {c : Nat}, c < 2 ^ 20 → um_sg g t p = c → 0 < c → um_cm g t p = nI c := fun hc h h0 => (um_cm_eq hX h0 hc).mpr h
  have tail : ∀ (c : Nat), c < 2 ^ 20 → ufX9_isKnown (nI c) = some 1 → um_cm g t p = nI c → ufX9_order dd (nI t) fl (nI p) (nI isD) x0 w tx v = ujX9_order_25 dd (nI t) fl (nI p) (nI isD) w tx v (nI c) 0 0 0 0 := fun c hc hk he => by
    unfold ufX9_order
    rw [um_sign hX (by omega), um_b1, he, hk, um_b1, if_neg (by decide)]
  unfold um_od
  by_cases k114 : um_sg g t p = 114
  · rw [if_pos k114, tail 114 (by decide) rfl (hkn (by decide) k114 (by decide)), k114]
    unfold ujX9_order_25 ujX9_order_69 ujX9_order_88 ujX9_order_92 ujX9_order_106 ujX9_order_117 ujX9_order_131 ujX9_order_146
    simp -implicitDefEqProofs (disch := omega) only [um_l0, um_l1, um_l2, um_l3, um_l4, um_l5, um_l6, um_l7, um_l8, um_l9, um_l10, um_l11, um_l12, um_l16, um_l20, um_l23, um_l24, um_l31, um_l32, um_l35, um_l42, um_l43, um_l45, um_l48, um_l57, um_l58, um_l59, um_l60, um_l61, um_l63, um_l64, um_l68, um_l83, um_l99, um_l100, um_l101, um_l102, um_l103, um_l104, um_l105, um_l106, um_l107, um_l108, um_l109, um_l110, um_l111, um_l112, um_l113, um_l114, um_l115, um_l116, um_l117, um_l118, um_l126, um_l128, um_l130, um_l131, um_l132, um_l133, um_l134, um_l135, um_l180, um_l210, um_l211, um_l235, um_l1645, um_l1880, ↓um_nm, um_b1, um_b2, um_b3, um_b4, um_b5, um_b6, um_b7, um_b8, um_b9, um_b10, um_gd, um_bz0, um_bz1, um_m1, nI_add, pk_mul, um_sub_lt0, um_sub_gt0, um_sub_eq0, um_sub_le0, pk_sub, nI_ltI, nI_leI, nI_eq, nI_clamp, um_nv_at, um_nv_up, um_up_eq, um_up_ne, if_true, if_false, if_pos, if_neg, um_at, um_at0, um_put, um_add, d1, um_o160 hD]
  · rw [if_neg k114]
    by_cases k118 : um_sg g t p = 118
    · rw [if_pos k118, tail 118 (by decide) rfl (hkn (by decide) k118 (by decide)), k118]
      unfold ujX9_order_25 ujX9_order_69 ujX9_order_88 ujX9_order_92 ujX9_order_106 ujX9_order_117 ujX9_order_131 ujX9_order_146
      cases h1 : (um_rD g t (p + 1)).1
      · simp -implicitDefEqProofs (disch := omega) only [um_l0, um_l1, um_l2, um_l3, um_l4, um_l5, um_l6, um_l7, um_l8, um_l9, um_l10, um_l11, um_l12, um_l16, um_l20, um_l23, um_l24, um_l31, um_l32, um_l35, um_l42, um_l43, um_l45, um_l48, um_l57, um_l58, um_l59, um_l60, um_l61, um_l63, um_l64, um_l68, um_l83, um_l99, um_l100, um_l101, um_l102, um_l103, um_l104, um_l105, um_l106, um_l107, um_l108, um_l109, um_l110, um_l111, um_l112, um_l113, um_l114, um_l115, um_l116, um_l117, um_l118, um_l126, um_l128, um_l130, um_l131, um_l132, um_l133, um_l134, um_l135, um_l180, um_l210, um_l211, um_l235, um_l1645, um_l1880, ↓um_nm, um_b1, um_b2, um_b3, um_b4, um_b5, um_b6, um_b7, um_b8, um_b9, um_b10, um_gd, um_bz0, um_bz1, um_m1, nI_add, pk_mul, um_sub_lt0, um_sub_gt0, um_sub_eq0, um_sub_le0, pk_sub, nI_ltI, nI_leI, nI_eq, nI_clamp, um_nv_at, um_nv_up, um_up_eq, um_up_ne, if_true, if_false, if_pos, if_neg, um_at, um_at0, um_put, um_add, d2, h1, Bool.not_false, um_b2n_t, um_behindW, Bool.false_eq_true]
        exact um_o160W
      · by_cases h2 : (um_rm 58 g t (um_rD g t (p + 1)).2.1).1
        · simp -implicitDefEqProofs (disch := omega) only [um_l0, um_l1, um_l2, um_l3, um_l4, um_l5, um_l6, um_l7, um_l8, um_l9, um_l10, um_l11, um_l12, um_l16, um_l20, um_l23, um_l24, um_l31, um_l32, um_l35, um_l42, um_l43, um_l45, um_l48, um_l57, um_l58, um_l59, um_l60, um_l61, um_l63, um_l64, um_l68, um_l83, um_l99, um_l100, um_l101, um_l102, um_l103, um_l104, um_l105, um_l106, um_l107, um_l108, um_l109, um_l110, um_l111, um_l112, um_l113, um_l114, um_l115, um_l116, um_l117, um_l118, um_l126, um_l128, um_l130, um_l131, um_l132, um_l133, um_l134, um_l135, um_l180, um_l210, um_l211, um_l235, um_l1645, um_l1880, ↓um_nm, um_b1, um_b2, um_b3, um_b4, um_b5, um_b6, um_b7, um_b8, um_b9, um_b10, um_gd, um_bz0, um_bz1, um_m1, nI_add, pk_mul, um_sub_lt0, um_sub_gt0, um_sub_eq0, um_sub_le0, pk_sub, nI_ltI, nI_leI, nI_eq, nI_clamp, um_nv_at, um_nv_up, um_up_eq, um_up_ne, if_true, if_false, if_pos, if_neg, um_at, um_at0, um_put, um_add, d2, h1, Bool.not_true, um_b2n_f, b1 58 (by decide) (by decide), h2, um_o160 hD]
        · simp -implicitDefEqProofs (disch := omega) only [um_l0, um_l1, um_l2, um_l3, um_l4, um_l5, um_l6, um_l7, um_l8, um_l9, um_l10, um_l11, um_l12, um_l16, um_l20, um_l23, um_l24, um_l31, um_l32, um_l35, um_l42, um_l43, um_l45, um_l48, um_l57, um_l58, um_l59, um_l60, um_l61, um_l63, um_l64, um_l68, um_l83, um_l99, um_l100, um_l101, um_l102, um_l103, um_l104, um_l105, um_l106, um_l107, um_l108, um_l109, um_l110, um_l111, um_l112, um_l113, um_l114, um_l115, um_l116, um_l117, um_l118, um_l126, um_l128, um_l130, um_l131, um_l132, um_l133, um_l134, um_l135, um_l180, um_l210, um_l211, um_l235, um_l1645, um_l1880, ↓um_nm, um_b1, um_b2, um_b3, um_b4, um_b5, um_b6, um_b7, um_b8, um_b9, um_b10, um_gd, um_bz0, um_bz1, um_m1, nI_add, pk_mul, um_sub_lt0, um_sub_gt0, um_sub_eq0, um_sub_le0, pk_sub, nI_ltI, nI_leI, nI_eq, nI_clamp, um_nv_at, um_nv_up, um_up_eq, um_up_ne, if_true, if_false, if_pos, if_neg, um_at, um_at0, um_put, um_add, d2, h1, Bool.not_true, um_b2n_f, b1 58 (by decide) (by decide), h2, Bool.false_eq_true]
          exact um_o160W
    · rw [if_neg k118]
      by_cases k115 : um_sg g t p = 115
      · rw [if_pos k115, tail 115 (by decide) rfl (hkn (by decide) k115 (by decide)), k115]
        unfold ujX9_order_25 ujX9_order_69 ujX9_order_88 ujX9_order_92 ujX9_order_106 ujX9_order_117 ujX9_order_131 ujX9_order_146
        cases h1 : (um_rD g t (p + 1)).1
        · simp -implicitDefEqProofs (disch := omega) only [um_l0, um_l1, um_l2, um_l3, um_l4, um_l5, um_l6, um_l7, um_l8, um_l9, um_l10, um_l11, um_l12, um_l16, um_l20, um_l23, um_l24, um_l31, um_l32, um_l35, um_l42, um_l43, um_l45, um_l48, um_l57, um_l58, um_l59, um_l60, um_l61, um_l63, um_l64, um_l68, um_l83, um_l99, um_l100, um_l101, um_l102, um_l103, um_l104, um_l105, um_l106, um_l107, um_l108, um_l109, um_l110, um_l111, um_l112, um_l113, um_l114, um_l115, um_l116, um_l117, um_l118, um_l126, um_l128, um_l130, um_l131, um_l132, um_l133, um_l134, um_l135, um_l180, um_l210, um_l211, um_l235, um_l1645, um_l1880, ↓um_nm, um_b1, um_b2, um_b3, um_b4, um_b5, um_b6, um_b7, um_b8, um_b9, um_b10, um_gd, um_bz0, um_bz1, um_m1, nI_add, pk_mul, um_sub_lt0, um_sub_gt0, um_sub_eq0, um_sub_le0, pk_sub, nI_ltI, nI_leI, nI_eq, nI_clamp, um_nv_at, um_nv_up, um_up_eq, um_up_ne, if_true, if_false, if_pos, if_neg, um_at, um_at0, um_put, um_add, d2, h1, Bool.not_false, um_b2n_t, um_plusW, Bool.false_eq_true]
          exact um_o160W
        · simp -implicitDefEqProofs (disch := omega) only [um_l0, um_l1, um_l2, um_l3, um_l4, um_l5, um_l6, um_l7, um_l8, um_l9, um_l10, um_l11, um_l12, um_l16, um_l20, um_l23, um_l24, um_l31, um_l32, um_l35, um_l42, um_l43, um_l45, um_l48, um_l57, um_l58, um_l59, um_l60, um_l61, um_l63, um_l64, um_l68, um_l83, um_l99, um_l100, um_l101, um_l102, um_l103, um_l104, um_l105, um_l106, um_l107, um_l108, um_l109, um_l110, um_l111, um_l112, um_l113, um_l114, um_l115, um_l116, um_l117, um_l118, um_l126, um_l128, um_l130, um_l131, um_l132, um_l133, um_l134, um_l135, um_l180, um_l210, um_l211, um_l235, um_l1645, um_l1880, ↓um_nm, um_b1, um_b2, um_b3, um_b4, um_b5, um_b6, um_b7, um_b8, um_b9, um_b10, um_gd, um_bz0, um_bz1, um_m1, nI_add, pk_mul, um_sub_lt0, um_sub_gt0, um_sub_eq0, um_sub_le0, pk_sub, nI_ltI, nI_leI, nI_eq, nI_clamp, um_nv_at, um_nv_up, um_up_eq, um_up_ne, if_true, if_false, if_pos, if_neg, um_at, um_at0, um_put, um_add, d2, h1, Bool.not_true, um_b2n_f, q1, um_o160 hD]
      · rw [if_neg k115]
        by_cases k112 : um_sg g t p = 112
        · rw [if_pos k112, tail 112 (by decide) rfl (hkn (by decide) k112 (by decide)), k112]
          unfold ujX9_order_25 ujX9_order_69 ujX9_order_88 ujX9_order_92 ujX9_order_106 ujX9_order_117 ujX9_order_131 ujX9_order_146
          cases h1 : (um_rD g t (p + 1)).1
          · simp -implicitDefEqProofs (disch := omega) only [um_l0, um_l1, um_l2, um_l3, um_l4, um_l5, um_l6, um_l7, um_l8, um_l9, um_l10, um_l11, um_l12, um_l16, um_l20, um_l23, um_l24, um_l31, um_l32, um_l35, um_l42, um_l43, um_l45, um_l48, um_l57, um_l58, um_l59, um_l60, um_l61, um_l63, um_l64, um_l68, um_l83, um_l99, um_l100, um_l101, um_l102, um_l103, um_l104, um_l105, um_l106, um_l107, um_l108, um_l109, um_l110, um_l111, um_l112, um_l113, um_l114, um_l115, um_l116, um_l117, um_l118, um_l126, um_l128, um_l130, um_l131, um_l132, um_l133, um_l134, um_l135, um_l180, um_l210, um_l211, um_l235, um_l1645, um_l1880, ↓um_nm, um_b1, um_b2, um_b3, um_b4, um_b5, um_b6, um_b7, um_b8, um_b9, um_b10, um_gd, um_bz0, um_bz1, um_m1, nI_add, pk_mul, um_sub_lt0, um_sub_gt0, um_sub_eq0, um_sub_le0, pk_sub, nI_ltI, nI_leI, nI_eq, nI_clamp, um_nv_at, um_nv_up, um_up_eq, um_up_ne, if_true, if_false, if_pos, if_neg, um_at, um_at0, um_put, um_add, d2, h1, Bool.not_false, um_b2n_t, um_behindW, Bool.false_eq_true]
            exact um_o160W
          · by_cases h2 : (um_rm 64 g t (um_rD g t (p + 1)).2.1).1
            · cases h3 : (um_rD g t ((um_rD g t (p + 1)).2.1 + 1)).1
              · simp -implicitDefEqProofs (disch := omega) only [um_l0, um_l1, um_l2, um_l3, um_l4, um_l5, um_l6, um_l7, um_l8, um_l9, um_l10, um_l11, um_l12, um_l16, um_l20, um_l23, um_l24, um_l31, um_l32, um_l35, um_l42, um_l43, um_l45, um_l48, um_l57, um_l58, um_l59, um_l60, um_l61, um_l63, um_l64, um_l68, um_l83, um_l99, um_l100, um_l101, um_l102, um_l103, um_l104, um_l105, um_l106, um_l107, um_l108, um_l109, um_l110, um_l111, um_l112, um_l113, um_l114, um_l115, um_l116, um_l117, um_l118, um_l126, um_l128, um_l130, um_l131, um_l132, um_l133, um_l134, um_l135, um_l180, um_l210, um_l211, um_l235, um_l1645, um_l1880, ↓um_nm, um_b1, um_b2, um_b3, um_b4, um_b5, um_b6, um_b7, um_b8, um_b9, um_b10, um_gd, um_bz0, um_bz1, um_m1, nI_add, pk_mul, um_sub_lt0, um_sub_gt0, um_sub_eq0, um_sub_le0, pk_sub, nI_ltI, nI_leI, nI_eq, nI_clamp, um_nv_at, um_nv_up, um_up_eq, um_up_ne, if_true, if_false, if_pos, if_neg, um_at, um_at0, um_put, um_add, d2, h1, Bool.not_true, um_b2n_f, b2, h2, h3, Bool.not_false, um_b2n_t, um_behindW, Bool.false_eq_true]
                exact um_o160W
              · by_cases h4 : (um_rm 42 g t (um_rD g t ((um_rD g t (p + 1)).2.1 + 1)).2.1).1
                · simp -implicitDefEqProofs (disch := omega) only [um_l0, um_l1, um_l2, um_l3, um_l4, um_l5, um_l6, um_l7, um_l8, um_l9, um_l10, um_l11, um_l12, um_l16, um_l20, um_l23, um_l24, um_l31, um_l32, um_l35, um_l42, um_l43, um_l45, um_l48, um_l57, um_l58, um_l59, um_l60, um_l61, um_l63, um_l64, um_l68, um_l83, um_l99, um_l100, um_l101, um_l102, um_l103, um_l104, um_l105, um_l106, um_l107, um_l108, um_l109, um_l110, um_l111, um_l112, um_l113, um_l114, um_l115, um_l116, um_l117, um_l118, um_l126, um_l128, um_l130, um_l131, um_l132, um_l133, um_l134, um_l135, um_l180, um_l210, um_l211, um_l235, um_l1645, um_l1880, ↓um_nm, um_b1, um_b2, um_b3, um_b4, um_b5, um_b6, um_b7, um_b8, um_b9, um_b10, um_gd, um_bz0, um_bz1, um_m1, nI_add, pk_mul, um_sub_lt0, um_sub_gt0, um_sub_eq0, um_sub_le0, pk_sub, nI_ltI, nI_leI, nI_eq, nI_clamp, um_nv_at, um_nv_up, um_up_eq, um_up_ne, if_true, if_false, if_pos, if_neg, um_at, um_at0, um_put, um_add, d2, h1, Bool.not_true, um_b2n_f, b2, h2, h3, b3, h4, um_o160 hD]
                · simp -implicitDefEqProofs (disch := omega) only [um_l0, um_l1, um_l2, um_l3, um_l4, um_l5, um_l6, um_l7, um_l8, um_l9, um_l10, um_l11, um_l12, um_l16, um_l20, um_l23, um_l24, um_l31, um_l32, um_l35, um_l42, um_l43, um_l45, um_l48, um_l57, um_l58, um_l59, um_l60, um_l61, um_l63, um_l64, um_l68, um_l83, um_l99, um_l100, um_l101, um_l102, um_l103, um_l104, um_l105, um_l106, um_l107, um_l108, um_l109, um_l110, um_l111, um_l112, um_l113, um_l114, um_l115, um_l116, um_l117, um_l118, um_l126, um_l128, um_l130, um_l131, um_l132, um_l133, um_l134, um_l135, um_l180, um_l210, um_l211, um_l235, um_l1645, um_l1880, ↓um_nm, um_b1, um_b2, um_b3, um_b4, um_b5, um_b6, um_b7, um_b8, um_b9, um_b10, um_gd, um_bz0, um_bz1, um_m1, nI_add, pk_mul, um_sub_lt0, um_sub_gt0, um_sub_eq0, um_sub_le0, pk_sub, nI_ltI, nI_leI, nI_eq, nI_clamp, um_nv_at, um_nv_up, um_up_eq, um_up_ne, if_true, if_false, if_pos, if_neg, um_at, um_at0, um_put, um_add, d2, h1, Bool.not_true, um_b2n_f, b2, h2, h3, b3, h4, Bool.false_eq_true]
                  exact um_o160W
            · simp -implicitDefEqProofs (disch := omega) only [um_l0, um_l1, um_l2, um_l3, um_l4, um_l5, um_l6, um_l7, um_l8, um_l9, um_l10, um_l11, um_l12, um_l16, um_l20, um_l23, um_l24, um_l31, um_l32, um_l35, um_l42, um_l43, um_l45, um_l48, um_l57, um_l58, um_l59, um_l60, um_l61, um_l63, um_l64, um_l68, um_l83, um_l99, um_l100, um_l101, um_l102, um_l103, um_l104, um_l105, um_l106, um_l107, um_l108, um_l109, um_l110, um_l111, um_l112, um_l113, um_l114, um_l115, um_l116, um_l117, um_l118, um_l126, um_l128, um_l130, um_l131, um_l132, um_l133, um_l134, um_l135, um_l180, um_l210, um_l211, um_l235, um_l1645, um_l1880, ↓um_nm, um_b1, um_b2, um_b3, um_b4, um_b5, um_b6, um_b7, um_b8, um_b9, um_b10, um_gd, um_bz0, um_bz1, um_m1, nI_add, pk_mul, um_sub_lt0, um_sub_gt0, um_sub_eq0, um_sub_le0, pk_sub, nI_ltI, nI_leI, nI_eq, nI_clamp, um_nv_at, um_nv_up, um_up_eq, um_up_ne, if_true, if_false, if_pos, if_neg, um_at, um_at0, um_put, um_add, d2, h1, Bool.not_true, um_b2n_f, b2, h2, um_behindW, Bool.false_eq_true]
              exact um_o160W
        · rw [if_neg k112]
          by_cases k99 : um_sg g t p = 99
          · rw [if_pos k99, tail 99 (by decide) rfl (hkn (by decide) k99 (by decide)), k99]
            unfold ujX9_order_25 ujX9_order_69 ujX9_order_88 ujX9_order_92 ujX9_order_106 ujX9_order_117 ujX9_order_131 ujX9_order_146
            simp -implicitDefEqProofs (disch := omega) only [um_l0, um_l1, um_l2, um_l3, um_l4, um_l5, um_l6, um_l7, um_l8, um_l9, um_l10, um_l11, um_l12, um_l16, um_l20, um_l23, um_l24, um_l31, um_l32, um_l35, um_l42, um_l43, um_l45, um_l48, um_l57, um_l58, um_l59, um_l60, um_l61, um_l63, um_l64, um_l68, um_l83, um_l99, um_l100, um_l101, um_l102, um_l103, um_l104, um_l105, um_l106, um_l107, um_l108, um_l109, um_l110, um_l111, um_l112, um_l113, um_l114, um_l115, um_l116, um_l117, um_l118, um_l126, um_l128, um_l130, um_l131, um_l132, um_l133, um_l134, um_l135, um_l180, um_l210, um_l211, um_l235, um_l1645, um_l1880, ↓um_nm, um_b1, um_b2, um_b3, um_b4, um_b5, um_b6, um_b7, um_b8, um_b9, um_b10, um_gd, um_bz0, um_bz1, um_m1, nI_add, pk_mul, um_sub_lt0, um_sub_gt0, um_sub_eq0, um_sub_le0, pk_sub, nI_ltI, nI_leI, nI_eq, nI_clamp, um_nv_at, um_nv_up, um_up_eq, um_up_ne, if_true, if_false, if_pos, if_neg, um_at, um_at0, um_put, um_add, d2, um_o160 hD]
          · rw [if_neg k99]
            by_cases k110 : um_sg g t p = 110
            · rw [if_pos k110, tail 110 (by decide) rfl (hkn (by decide) k110 (by decide)), k110]
              unfold ujX9_order_25 ujX9_order_64 ujX9_order_69 ujX9_order_92 ujX9_order_106 ujX9_order_117 ujX9_order_131 ujX9_order_146
              simp -implicitDefEqProofs (disch := omega) only [um_l0, um_l1, um_l2, um_l3, um_l4, um_l5, um_l6, um_l7, um_l8, um_l9, um_l10, um_l11, um_l12, um_l16, um_l20, um_l23, um_l24, um_l31, um_l32, um_l35, um_l42, um_l43, um_l45, um_l48, um_l57, um_l58, um_l59, um_l60, um_l61, um_l63, um_l64, um_l68, um_l83, um_l99, um_l100, um_l101, um_l102, um_l103, um_l104, um_l105, um_l106, um_l107, um_l108, um_l109, um_l110, um_l111, um_l112, um_l113, um_l114, um_l115, um_l116, um_l117, um_l118, um_l126, um_l128, um_l130, um_l131, um_l132, um_l133, um_l134, um_l135, um_l180, um_l210, um_l211, um_l235, um_l1645, um_l1880, ↓um_nm, um_b1, um_b2, um_b3, um_b4, um_b5, um_b6, um_b7, um_b8, um_b9, um_b10, um_gd, um_bz0, um_bz1, um_m1, nI_add, pk_mul, um_sub_lt0, um_sub_gt0, um_sub_eq0, um_sub_le0, pk_sub, nI_ltI, nI_leI, nI_eq, nI_clamp, um_nv_at, um_nv_up, um_up_eq, um_up_ne, if_true, if_false, if_pos, if_neg, um_at, um_at0, um_put, um_add]
              exact um_o160 (b := true) (a1 := 0) (a2 := 0) (a3 := 0) hD
            · rw [if_neg k110]
              by_cases k104 : um_sg g t p = 104
              · rw [if_pos k104, tail 104 (by decide) rfl (hkn (by decide) k104 (by decide)), k104]
                unfold ujX9_order_25 ujX9_order_64 ujX9_order_69 ujX9_order_92 ujX9_order_106 ujX9_order_117 ujX9_order_131 ujX9_order_146
                simp -implicitDefEqProofs (disch := omega) only [um_l0, um_l1, um_l2, um_l3, um_l4, um_l5, um_l6, um_l7, um_l8, um_l9, um_l10, um_l11, um_l12, um_l16, um_l20, um_l23, um_l24, um_l31, um_l32, um_l35, um_l42, um_l43, um_l45, um_l48, um_l57, um_l58, um_l59, um_l60, um_l61, um_l63, um_l64, um_l68, um_l83, um_l99, um_l100, um_l101, um_l102, um_l103, um_l104, um_l105, um_l106, um_l107, um_l108, um_l109, um_l110, um_l111, um_l112, um_l113, um_l114, um_l115, um_l116, um_l117, um_l118, um_l126, um_l128, um_l130, um_l131, um_l132, um_l133, um_l134, um_l135, um_l180, um_l210, um_l211, um_l235, um_l1645, um_l1880, ↓um_nm, um_b1, um_b2, um_b3, um_b4, um_b5, um_b6, um_b7, um_b8, um_b9, um_b10, um_gd, um_bz0, um_bz1, um_m1, nI_add, pk_mul, um_sub_lt0, um_sub_gt0, um_sub_eq0, um_sub_le0, pk_sub, nI_ltI, nI_leI, nI_eq, nI_clamp, um_nv_at, um_nv_up, um_up_eq, um_up_ne, if_true, if_false, if_pos, if_neg, um_at, um_at0, um_put, um_add]
                exact um_o160 (b := true) (a1 := 0) (a2 := 0) (a3 := 0) hD
              · rw [if_neg k104]
                by_cases k111 : um_sg g t p = 111
                · rw [if_pos k111, tail 111 (by decide) rfl (hkn (by decide) k111 (by decide)), k111]
                  unfold ujX9_order_25 ujX9_order_69 ujX9_order_88 ujX9_order_92 ujX9_order_106 ujX9_order_117 ujX9_order_131 ujX9_order_146
                  cases h1 : (um_rD g t (p + 1)).1
                  · simp -implicitDefEqProofs (disch := omega) only [um_l0, um_l1, um_l2, um_l3, um_l4, um_l5, um_l6, um_l7, um_l8, um_l9, um_l10, um_l11, um_l12, um_l16, um_l20, um_l23, um_l24, um_l31, um_l32, um_l35, um_l42, um_l43, um_l45, um_l48, um_l57, um_l58, um_l59, um_l60, um_l61, um_l63, um_l64, um_l68, um_l83, um_l99, um_l100, um_l101, um_l102, um_l103, um_l104, um_l105, um_l106, um_l107, um_l108, um_l109, um_l110, um_l111, um_l112, um_l113, um_l114, um_l115, um_l116, um_l117, um_l118, um_l126, um_l128, um_l130, um_l131, um_l132, um_l133, um_l134, um_l135, um_l180, um_l210, um_l211, um_l235, um_l1645, um_l1880, ↓um_nm, um_b1, um_b2, um_b3, um_b4, um_b5, um_b6, um_b7, um_b8, um_b9, um_b10, um_gd, um_bz0, um_bz1, um_m1, nI_add, pk_mul, um_sub_lt0, um_sub_gt0, um_sub_eq0, um_sub_le0, pk_sub, nI_ltI, nI_leI, nI_eq, nI_clamp, um_nv_at, um_nv_up, um_up_eq, um_up_ne, if_true, if_false, if_pos, if_neg, um_at, um_at0, um_put, um_add, d2, h1, Bool.not_false, um_b2n_t, um_behindW, Bool.false_eq_true]
                    exact um_o160W
                  · by_cases h2 : (um_rm 45 g t (um_rD g t (p + 1)).2.1).1
                    · simp -implicitDefEqProofs (disch := omega) only [um_l0, um_l1, um_l2, um_l3, um_l4, um_l5, um_l6, um_l7, um_l8, um_l9, um_l10, um_l11, um_l12, um_l16, um_l20, um_l23, um_l24, um_l31, um_l32, um_l35, um_l42, um_l43, um_l45, um_l48, um_l57, um_l58, um_l59, um_l60, um_l61, um_l63, um_l64, um_l68, um_l83, um_l99, um_l100, um_l101, um_l102, um_l103, um_l104, um_l105, um_l106, um_l107, um_l108, um_l109, um_l110, um_l111, um_l112, um_l113, um_l114, um_l115, um_l116, um_l117, um_l118, um_l126, um_l128, um_l130, um_l131, um_l132, um_l133, um_l134, um_l135, um_l180, um_l210, um_l211, um_l235, um_l1645, um_l1880, ↓um_nm, um_b1, um_b2, um_b3, um_b4, um_b5, um_b6, um_b7, um_b8, um_b9, um_b10, um_gd, um_bz0, um_bz1, um_m1, nI_add, pk_mul, um_sub_lt0, um_sub_gt0, um_sub_eq0, um_sub_le0, pk_sub, nI_ltI, nI_leI, nI_eq, nI_clamp, um_nv_at, um_nv_up, um_up_eq, um_up_ne, if_true, if_false, if_pos, if_neg, um_at, um_at0, um_put, um_add, d2, h1, Bool.not_true, um_b2n_f, b1 45 (by decide) (by decide), h2, um_o160 hD]
                    · simp -implicitDefEqProofs (disch := omega) only [um_l0, um_l1, um_l2, um_l3, um_l4, um_l5, um_l6, um_l7, um_l8, um_l9, um_l10, um_l11, um_l12, um_l16, um_l20, um_l23, um_l24, um_l31, um_l32, um_l35, um_l42, um_l43, um_l45, um_l48, um_l57, um_l58, um_l59, um_l60, um_l61, um_l63, um_l64, um_l68, um_l83, um_l99, um_l100, um_l101, um_l102, um_l103, um_l104, um_l105, um_l106, um_l107, um_l108, um_l109, um_l110, um_l111, um_l112, um_l113, um_l114, um_l115, um_l116, um_l117, um_l118, um_l126, um_l128, um_l130, um_l131, um_l132, um_l133, um_l134, um_l135, um_l180, um_l210, um_l211, um_l235, um_l1645, um_l1880, ↓um_nm, um_b1, um_b2, um_b3, um_b4, um_b5, um_b6, um_b7, um_b8, um_b9, um_b10, um_gd, um_bz0, um_bz1, um_m1, nI_add, pk_mul, um_sub_lt0, um_sub_gt0, um_sub_eq0, um_sub_le0, pk_sub, nI_ltI, nI_leI, nI_eq, nI_clamp, um_nv_at, um_nv_up, um_up_eq, um_up_ne, if_true, if_false, if_pos, if_neg, um_at, um_at0, um_put, um_add, d2, h1, Bool.not_true, um_b2n_f, b1 45 (by decide) (by decide), h2, Bool.false_eq_true]
                      exact um_o160W
                · rw [if_neg k111]
                  by_cases k101 : um_sg g t p = 101
                  · rw [if_pos k101, tail 101 (by decide) rfl (hkn (by decide) k101 (by decide)), k101]
                    unfold ujX9_order_25 ujX9_order_64 ujX9_order_69 ujX9_order_92 ujX9_order_106 ujX9_order_117 ujX9_order_131 ujX9_order_146
                    simp -implicitDefEqProofs (disch := omega) only [um_l0, um_l1, um_l2, um_l3, um_l4, um_l5, um_l6, um_l7, um_l8, um_l9, um_l10, um_l11, um_l12, um_l16, um_l20, um_l23, um_l24, um_l31, um_l32, um_l35, um_l42, um_l43, um_l45, um_l48, um_l57, um_l58, um_l59, um_l60, um_l61, um_l63, um_l64, um_l68, um_l83, um_l99, um_l100, um_l101, um_l102, um_l103, um_l104, um_l105, um_l106, um_l107, um_l108, um_l109, um_l110, um_l111, um_l112, um_l113, um_l114, um_l115, um_l116, um_l117, um_l118, um_l126, um_l128, um_l130, um_l131, um_l132, um_l133, um_l134, um_l135, um_l180, um_l210, um_l211, um_l235, um_l1645, um_l1880, ↓um_nm, um_b1, um_b2, um_b3, um_b4, um_b5, um_b6, um_b7, um_b8, um_b9, um_b10, um_gd, um_bz0, um_bz1, um_m1, nI_add, pk_mul, um_sub_lt0, um_sub_gt0, um_sub_eq0, um_sub_le0, pk_sub, nI_ltI, nI_leI, nI_eq, nI_clamp, um_nv_at, um_nv_up, um_up_eq, um_up_ne, if_true, if_false, if_pos, if_neg, um_at, um_at0, um_put, um_add]
                    exact um_o160 (b := true) (a1 := 0) (a2 := 0) (a3 := 0) hD
                  · rw [if_neg k101]
                    have kn : ∀ c, 0 < c → c < 2 ^ 20 → um_sg g t p ≠ c → ¬ um_cm g t p = nI c := fun c h1 h2 h3 z => h3 ((um_cm_eq hX h1 h2).mp z)
                    have ek : ufX9_isKnown (um_cm g t p) = some (nI 0) := by
                      unfold ufX9_isKnown
                      rw [if_neg (show ¬ um_cm g t p = (114 : Int32) from kn 114 (by decide) (by decide) k114), if_neg (show ¬ um_cm g t p = (118 : Int32) from kn 118 (by decide) (by decide) k118), if_neg (show ¬ um_cm g t p = (115 : Int32) from kn 115 (by decide) (by decide) k115), if_neg (show ¬ um_cm g t p = (112 : Int32) from kn 112 (by decide) (by decide) k112), if_neg (show ¬ um_cm g t p = (99 : Int32) from kn 99 (by decide) (by decide) k99), if_neg (show ¬ um_cm g t p = (110 : Int32) from kn 110 (by decide) (by decide) k110), if_neg (show ¬ um_cm g t p = (104 : Int32) from kn 104 (by decide) (by decide) k104), if_neg (show ¬ um_cm g t p = (111 : Int32) from kn 111 (by decide) (by decide) k111), if_neg (show ¬ um_cm g t p = (101 : Int32) from kn 101 (by decide) (by decide) k101)]
                      rfl
                    unfold ufX9_order
                    rw [um_sign hX (by omega), um_b1, ek, um_b1, if_pos (by rfl)]
                    unfold ujX9_order_25 um_go
                    simp -implicitDefEqProofs (disch := omega) only [um_l0, um_l1, um_l2, um_l3, um_l4, um_l5, um_l6, um_l7, um_l8, um_l9, um_l10, um_l11, um_l12, um_l16, um_l20, um_l23, um_l24, um_l31, um_l32, um_l35, um_l42, um_l43, um_l45, um_l48, um_l57, um_l58, um_l59, um_l60, um_l61, um_l63, um_l64, um_l68, um_l83, um_l99, um_l100, um_l101, um_l102, um_l103, um_l104, um_l105, um_l106, um_l107, um_l108, um_l109, um_l110, um_l111, um_l112, um_l113, um_l114, um_l115, um_l116, um_l117, um_l118, um_l126, um_l128, um_l130, um_l131, um_l132, um_l133, um_l134, um_l135, um_l180, um_l210, um_l211, um_l235, um_l1645, um_l1880, ↓um_nm, um_b1, um_b2, um_b3, um_b4, um_b5, um_b6, um_b7, um_b8, um_b9, um_b10, um_gd, um_bz0, um_bz1, um_m1, nI_add, pk_mul, um_sub_lt0, um_sub_gt0, um_sub_eq0, um_sub_le0, pk_sub, nI_ltI, nI_leI, nI_eq, nI_clamp, um_nv_at, um_nv_up, um_up_eq, um_up_ne, if_true, if_false, if_pos, if_neg, um_at, um_at0, um_put, um_add, Bool.false_eq_true]
/-! ===== the class reads an order ===== -/
theorem um_readSign (hX : um_X t g tc tx) (hp : p < 2 ^ 20) {c : Nat} (hc : 0 < c) (hc2 : c < 2 ^ 20) : ufX3_readSign (nI p) (nI t) tc (nI c) = some (nI (um_b2n (um_rm c g t p).1), nI (um_rm c g t p).2.1) := by
  have e := um_cc_eq (p := p) hX hc hc2
  unfold ufX3_readSign um_rm
  rw [um_codeAt hX hp, um_b1]
  by_cases h : um_sg g t p = c
  · rw [if_pos (e.mpr h), if_pos h, nI_1]
    rfl
  · rw [if_neg (fun z => h (e.mp z)), if_neg h]
    rfl
theorem um_up_up {f : Nat → Nat} {k x y : Nat} : um_up (um_up f k x) k y = um_up f k y := by
  funext j
  unfold um_up
  split <;> rfl
theorem um_readd (hX : um_X t g tc tx) (hp : p < 2 ^ 19) {N : Nat → Nat} {ix : Nat} (hi : ix < 180) : ufX3_readNumber (nI p) (um_nv N) (nI t) tc (nI 100) (nI ix) = some (nI (um_b2n (um_rd g t p).1), nI (um_rd g t p).2.1, um_nv (if (um_rd g t p).1 then um_up N ix (um_rd g t p).2.2 else N)) := by
  unfold ufX3_readNumber um_rd
  rw [um_codeAt hX (by omega), um_b1, if_neg (by decide), um_digC hX, um_b1]
  cases h : um_dg (um_sg g t p)
  · rw [if_pos (by rfl)]
    rfl
  · obtain ⟨h1, h2, h3, h4, h5⟩ := um_dg_in h
    rw [if_neg (by decide), h4, show (48 : Int32) = nI 48 from rfl, pk_sub h2, um_put hi (by decide), um_b1, nI_1, um_codeAt hX (by omega), um_b1, if_neg (by decide)]
    rfl
theorem um_readD (hX : um_X t g tc tx) (hp : p < 2 ^ 19) {N : Nat → Nat} {ix : Nat} (hi : ix < 180) : ufX3_readNumber (nI p) (um_nv N) (nI t) tc (nI 68) (nI ix) = some (nI (um_b2n (um_rD g t p).1), nI (um_rD g t p).2.1, um_nv (if (um_rD g t p).1 then um_up N ix (um_rD g t p).2.2 else N)) := by
  unfold ufX3_readNumber um_rD
  rw [um_codeAt hX (by omega), um_b1, if_neg (by decide), um_digC hX, um_b1]
  cases h : um_dg (um_sg g t p)
  · rw [if_pos (by rfl)]
    rfl
  · obtain ⟨h1, h2, h3, h4, h5⟩ := um_dg_in h
    rw [if_neg (by decide), h4, show (48 : Int32) = nI 48 from rfl, pk_sub h2, um_put hi (by decide), um_b1, nI_1, um_codeAt hX (by omega), um_b1, if_pos (by rfl), um_digC hX, um_b1]
    cases h' : um_dg (um_sg g t (p + 1))
    · rw [if_pos (by rfl)]
      rfl
    · obtain ⟨k1, k2, k3, k4, k5⟩ := um_dg_in h'
      rw [if_neg (by decide), k4, show (10 : Int32) = nI 10 from rfl, pk_mul, nI_add, pk_sub (by omega), um_put hi (by decide), um_b1, um_up_up, nI_1, show (um_sg g t p - 48) * 10 + um_sg g t (p + 1) - 48 = 10 * (um_sg g t p - 48) + (um_sg g t (p + 1) - 48) by omega]
      rfl
theorem um_readq (hX : um_X t g tc tx) (hp : p < 2 ^ 19) {N : Nat → Nat} {ix : Nat} (hi : ix < 180) : ∃ N', ufX3_readNumber (nI p) (um_nv N) (nI t) tc (nI 63) (nI ix) = some (nI (um_b2n (um_rq g t p).1), nI (um_rq g t p).2.1, um_nv N') ∧ (∀ j, j ≠ ix → N' j = N j) ∧ ((um_rq g t p).1 = true → N' ix = (um_rq g t p).2.2) := by
  have e : (um_cc g t p = (43 : Int32)) ↔ um_sg g t p = 43 := um_cc_eq (p := p) (c := 43) hX (by decide) (by decide)
  have s43 : ufX3_readSign (nI p) (nI t) tc 43 = _ := um_readSign (p := p) (c := 43) hX (by omega) (by decide) (by decide)
  have s45 : ufX3_readSign (nI p) (nI t) tc 45 = _ := um_readSign (p := p) (c := 45) hX (by omega) (by decide) (by decide)
  unfold ufX3_readNumber um_rq
  rw [um_codeAt hX (by omega), um_b1, if_pos (by rfl)]
  unfold ujX3_readNumber_33
  unfold um_rm at s43 s45
  by_cases h : um_sg g t p = 43
  · refine ⟨um_up N ix 1, ?_, fun j hj => um_up_ne hj, fun _ => ?_⟩
    · rw [if_pos h] at s43
      dsimp only at s43
      rw [if_pos (e.mpr h), show (1 : Int32) = nI 1 from rfl, um_put hi (by decide), um_b1, s43, um_b2, if_neg (show ¬ nI (um_b2n true) = (0 : Int32) by decide), if_pos h]
      rfl
    · rw [um_up_eq rfl, if_pos h]
  · refine ⟨um_up N ix 0, ?_, fun j hj => um_up_ne hj, fun hk => ?_⟩
    · rw [if_neg h] at s43
      dsimp only at s43
      rw [if_neg (fun z => h (e.mp z)), if_neg h, show (0 : Int32) = nI 0 from rfl, um_put hi (by decide), um_b1, show nI 0 = (0 : Int32) from rfl] 
      rw [s43, um_b2, if_pos (show nI (um_b2n false) = (0 : Int32) from rfl), s45, um_b2]
      by_cases h2 : um_sg g t p = 45
      · rw [if_pos h2]
        rfl
      · rw [if_neg h2]
        rfl
    · rw [um_up_eq rfl, if_neg h]
      split <;> rfl
end UM43
