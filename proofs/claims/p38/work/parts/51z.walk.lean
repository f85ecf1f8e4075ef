/-! ===== walks of the law: explicit cells ahead of the object's own ===== -/
theorem us_pn {xs W : va_W} {c : Nat × va_E} : ((xs ++ W) ++ [c]).Perm ((xs ++ [c]) ++ W) := by
  rw [List.append_assoc, List.append_assoc]
  exact List.perm_append_comm.append_left xs
theorem us_subP {D : va_G} {cl : List vw_C} {w1 w2 : va_W} {H : Heap} (h : w1.Sublist w2) (hP : va_P D cl w2 H) : va_P D cl w1 H := fun k q hk => by
  obtain ⟨j, hj⟩ := List.getElem?_of_mem (h.subset (List.mem_of_getElem? hk))
  exact hP j q hj
theorem us_subD {A : Nat → Prop} {w1 w2 : va_W} (h : w1.Sublist w2) (hD : va_D A w2) : va_D A w1 := by
  rw [ub_D_iff] at hD ⊢
  exact ⟨List.Pairwise.sublist (h.map _) hD.1, fun q hq => hD.2 q (h.subset hq)⟩
theorem us_keepP {D : va_G} {cl : List vw_C} {xs cs W : va_W} {H : Heap} (h : cs.Sublist xs) (hP : va_P D cl (xs ++ W) H) : va_P D cl (cs ++ W) H := us_subP (h.append_right W) hP
theorem us_keepD {A : Nat → Prop} {xs cs W : va_W} (h : cs.Sublist xs) (hD : va_D A (xs ++ W)) : va_D A (cs ++ W) := us_subD (h.append_right W) hD
theorem us_dropP {D : va_G} {cl : List vw_C} {xs W : va_W} {H : Heap} (hP : va_P D cl (xs ++ W) H) : va_P D cl W H := us_subP (List.sublist_append_right xs W) hP
theorem us_dropD {A : Nat → Prop} {xs W : va_W} (hD : va_D A (xs ++ W)) : va_D A W := us_subD (List.sublist_append_right xs W) hD
