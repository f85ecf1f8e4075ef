theorem us_preO {s : State} {H : Heap} {g : us_G} {A : Nat → Prop} {W : va_W} {As : List Value} {locs : List Loc} {h0 k : Nat} {f : Nat → Nat} {hist : List (Nat → Nat)} {sv : Option (Nat → Nat)} {lr ld : Int32} {L : List Nat} (hR : uo_W g h0 k f hist sv lr ld L W)
    (hZ : us_Z g.2.2.2.2 A s s.heap) (hS : va_S A s.heap H locs) (hF : ∀ q : Nat, va_A W H.size q → A q) (hP : va_P g.1 vwCl W H) (hD : va_D A W) (hK : va_K g.1 vwCl (us_ty g) s) (hN : ub_N s) : PreV s H RX8 h0 (va_Pc (.ref h0 :: As) (us_pc g W H.size)) As := by
  obtain ⟨ad, X, z, hf, T, tr, on0, ps0, ok0, om0, tc, lc, G, rfl, -⟩ := hR
  exact us_preV hZ hS hF hP hD hK hN 0 (ci := 10) rfl rfl rfl
