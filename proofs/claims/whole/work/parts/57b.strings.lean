abbrev ul_fl : List Cond := flatC (Jvm.Cond.and given_1 narrow_1)
theorem ul_s1 : ∀ i, i < 10 → Cond.exactly (.string RX3 (ub_six.getD i 0)) "java/lang/String" ∈ ul_fl := by decide +kernel
theorem ul_s2 : ∀ i, i < 10 → Cond.eq (.field (.string RX3 (ub_six.getD i 0)) "java/lang/String" "coder" "B") (.int 0) ∈ ul_fl := by decide +kernel
theorem ul_s3 : ∀ i, i < 10 → Cond.arrayOf (.field (.string RX3 (ub_six.getD i 0)) "java/lang/String" "value" "[B") .byte ∈ ul_fl := by decide +kernel
theorem ul_s4 : ∀ i, i < 10 → Cond.eq (.length (.field (.string RX3 (ub_six.getD i 0)) "java/lang/String" "value" "[B")) (.int (Int32.ofNat (ub_len.getD i 0))) ∈ ul_fl := by decide +kernel
theorem ul_s5 : ∀ i, i < 10 → ∀ j, j < ub_len.getD i 0 → Cond.eq (.elem (.field (.string RX3 (ub_six.getD i 0)) "java/lang/String" "value" "[B") (.int (Int32.ofNat j))) (.int ((ub_byt.getD i []).getD j 0)) ∈ ul_fl := by decide +kernel
theorem ul_s6 : ∀ i, i < 10 → ∀ j, j < 10 → i ≠ j → Cond.not (.eq (.string RX3 (ub_six.getD i 0)) (.string RX3 (ub_six.getD j 0))) ∈ ul_fl ∨ Cond.not (.eq (.string RX3 (ub_six.getD j 0)) (.string RX3 (ub_six.getD i 0))) ∈ ul_fl := by decide +kernel
theorem ul_s7 : Cond.eq (.static "java/lang/String" "COMPACT_STRINGS" "Z") (.int 1) ∈ ul_fl := by decide +kernel
theorem ul_s8 : Cond.isRef (.static "jdk/internal/util/Preconditions" "SIOOBE_FORMATTER" "Ljava/util/function/BiFunction;") ∈ ul_fl := by decide +kernel
def ul_sx : List Nat := [754, 755, 756, 757, 758, 759, 760, 761, 762, 763]
theorem ul_s9k : ∀ i, i < 10 → lw_tbl[ul_sx.getD i 0]? = some (Cond.stringRef RX3 (ub_six.getD i 0) (ub_stx.getD i "")) := by decide +kernel
theorem ul_s9 (i : Nat) (hi : i < 10) : Cond.stringRef RX3 (ub_six.getD i 0) (ub_stx.getD i "") ∈ lw_tbl := List.mem_of_getElem? (ul_s9k i hi)
def ul_tm (i : Nat) : Term := .string RX3 (ub_six.getD i 0)
section UL58
variable {s : State} {b : Nat}
theorem ul_Z (hts : ∀ w ∈ lw_tbl, w.before #[Value.ref b] s = true) (hgv : (Jvm.Cond.and given_1 narrow_1).before #[Value.ref b] s = true) : ∃ adK adV : Nat → Nat, ub_Z adK adV (fun q : Nat => s.heap.size ≤ q) s s.heap := by
  have hs := flat_of_before _ hgv
  have hA : ∀ a : Nat, a < s.heap.size → ¬ (s.heap.size ≤ a) := fun a h => Nat.not_le.mpr h
  obtain ⟨adK, adV, h1, h2⟩ := vk_Sof (args := #[Value.ref b]) (s := s) (N := 10) (tm := ul_tm) (len := ub_len) (byt := ub_byt) (A := fun q : Nat => s.heap.size ≤ q)
    (by decide +kernel)
    (fun i hi => hs _ (ul_s1 i hi)) (fun i hi => hs _ (ul_s2 i hi)) (fun i hi => hs _ (ul_s3 i hi)) (fun i hi => hs _ (ul_s4 i hi)) (fun i hi j hj => hs _ (ul_s5 i hi j hj))
    (fun i j hi hj hne => (ul_s6 i hi j hj hne).imp (fun h => hs _ h) (fun h => hs _ h)) hA
  refine ⟨adK, adV, h1, va_Zof (hts (.laysStatic "java/lang/String" "COMPACT_STRINGS" "Z") (List.mem_of_getElem? (i := 778) (by decide +kernel))) (hts (.initialized "java/lang/String") (List.mem_of_getElem? (i := 84) (by decide +kernel))) (va_eqi (hs _ ul_s7)) hA, va_Zqof (hts (.laysStatic "jdk/internal/util/Preconditions" "SIOOBE_FORMATTER" "Ljava/util/function/BiFunction;") (List.mem_of_getElem? (i := 794) (by decide +kernel))) (hts (.initialized "jdk/internal/util/Preconditions") (List.mem_of_getElem? (i := 86) (by decide +kernel))) (hs _ ul_s8) hA, fun i hi => vk_R.of (hts _ (ul_s9 i hi)) (h2 i hi)⟩
end UL58
