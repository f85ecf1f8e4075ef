/-! ===== the law's entry: what stands before its first instruction ===== -/
theorem us_hts0 {s : State} {args : Array Value} (hts : ∀ w ∈ lw_tbl, w.before args s = true) : ∀ w ∈ us_tb, w.before args s = true := by
  have hz : (Cond.selects RJ4 yJ5_isLatin1_aae02 yJ5_isLatin1_aae02).before args s = true := hts _ (List.mem_of_getElem? (i := 884) (by decide +kernel))
  have hs : ∀ w ∈ us_sels, w.before args s = true := by
    refine List.forall_mem_cons.mpr ⟨us_selp (y := yJ5_newCapacity_0f7a4) (z := yJ5_isLatin1_aae02) rfl (by decide +kernel) hz (hts (.privateMethod yJ5_newCapacity_0f7a4) (List.mem_of_getElem? (i := 857) (by decide +kernel))) (hts (.instanceMethod yJ5_newCapacity_0f7a4) (List.mem_of_getElem? (i := 858) (by decide +kernel))), List.forall_mem_cons.mpr ⟨us_selp (y := yJ5_ensureCapacityInternal_d00df) (z := yJ5_isLatin1_aae02) rfl (by decide +kernel) hz (hts (.privateMethod yJ5_ensureCapacityInternal_d00df) (List.mem_of_getElem? (i := 853) (by decide +kernel))) (hts (.instanceMethod yJ5_ensureCapacityInternal_d00df) (List.mem_of_getElem? (i := 854) (by decide +kernel))), List.forall_mem_cons.mpr ⟨us_selp (y := yJ5_inflate_da8c8) (z := yJ5_isLatin1_aae02) rfl (by decide +kernel) hz (hts (.privateMethod yJ5_inflate_da8c8) (List.mem_of_getElem? (i := 924) (by decide +kernel))) (hts (.instanceMethod yJ5_inflate_da8c8) (List.mem_of_getElem? (i := 925) (by decide +kernel))), List.forall_mem_cons.mpr ⟨us_selp (y := yJ5_appendNull_278bc) (z := yJ5_isLatin1_aae02) rfl (by decide +kernel) hz (hts (.privateMethod yJ5_appendNull_278bc) (List.mem_of_getElem? (i := 1036) (by decide +kernel))) (hts (.instanceMethod yJ5_appendNull_278bc) (List.mem_of_getElem? (i := 1037) (by decide +kernel))), List.forall_mem_cons.mpr ⟨us_selp (y := yJ5_inflateIfNeededFor_a7421) (z := yJ5_isLatin1_aae02) rfl (by decide +kernel) hz (hts (.privateMethod yJ5_inflateIfNeededFor_a7421) (List.mem_of_getElem? (i := 1048) (by decide +kernel))) (hts (.instanceMethod yJ5_inflateIfNeededFor_a7421) (List.mem_of_getElem? (i := 1049) (by decide +kernel))), List.forall_mem_cons.mpr ⟨us_selp (y := yJ5_putStringAt_47b60) (z := yJ5_isLatin1_aae02) rfl (by decide +kernel) hz (hts (.privateMethod yJ5_putStringAt_47b60) (List.mem_of_getElem? (i := 1044) (by decide +kernel))) (hts (.instanceMethod yJ5_putStringAt_47b60) (List.mem_of_getElem? (i := 1045) (by decide +kernel))), fun _ h => absurd h List.not_mem_nil⟩⟩⟩⟩⟩⟩
  intro w hw
  rcases List.mem_append.mp (List.mem_filter.mp hw).1 with h | h
  · exact hs w h
  · exact hts w h
theorem us_nest : ∀ q ∈ ub_nest, Cond.methodLinkNest q.1 q.2.1 q.2.2.1 q.2.2.2 ∈ lw_tbl := List.forall_mem_cons.mpr ⟨List.mem_of_getElem? (i := 65) (by decide +kernel), List.forall_mem_cons.mpr ⟨List.mem_of_getElem? (i := 71) (by decide +kernel), List.forall_mem_cons.mpr ⟨List.mem_of_getElem? (i := 112) (by decide +kernel), List.forall_mem_cons.mpr ⟨List.mem_of_getElem? (i := 139) (by decide +kernel), List.forall_mem_cons.mpr ⟨List.mem_of_getElem? (i := 218) (by decide +kernel), List.forall_mem_cons.mpr ⟨List.mem_of_getElem? (i := 237) (by decide +kernel), List.forall_mem_cons.mpr ⟨List.mem_of_getElem? (i := 252) (by decide +kernel), List.forall_mem_cons.mpr ⟨List.mem_of_getElem? (i := 273) (by decide +kernel), List.forall_mem_cons.mpr ⟨List.mem_of_getElem? (i := 329) (by decide +kernel), List.forall_mem_cons.mpr ⟨List.mem_of_getElem? (i := 338) (by decide +kernel), List.forall_mem_cons.mpr ⟨List.mem_of_getElem? (i := 351) (by decide +kernel), List.forall_mem_cons.mpr ⟨List.mem_of_getElem? (i := 356) (by decide +kernel), List.forall_mem_cons.mpr ⟨List.mem_of_getElem? (i := 357) (by decide +kernel), List.forall_mem_cons.mpr ⟨List.mem_of_getElem? (i := 373) (by decide +kernel), List.forall_mem_cons.mpr ⟨List.mem_of_getElem? (i := 434) (by decide +kernel), List.forall_mem_cons.mpr ⟨List.mem_of_getElem? (i := 439) (by decide +kernel), List.forall_mem_cons.mpr ⟨List.mem_of_getElem? (i := 452) (by decide +kernel), List.forall_mem_cons.mpr ⟨List.mem_of_getElem? (i := 460) (by decide +kernel), List.forall_mem_cons.mpr ⟨List.mem_of_getElem? (i := 463) (by decide +kernel), List.forall_mem_cons.mpr ⟨List.mem_of_getElem? (i := 470) (by decide +kernel), List.forall_mem_cons.mpr ⟨List.mem_of_getElem? (i := 484) (by decide +kernel), List.forall_mem_cons.mpr ⟨List.mem_of_getElem? (i := 487) (by decide +kernel), List.forall_mem_cons.mpr ⟨List.mem_of_getElem? (i := 493) (by decide +kernel), List.forall_mem_cons.mpr ⟨List.mem_of_getElem? (i := 528) (by decide +kernel), List.forall_mem_cons.mpr ⟨List.mem_of_getElem? (i := 556) (by decide +kernel), List.forall_mem_cons.mpr ⟨List.mem_of_getElem? (i := 575) (by decide +kernel), List.forall_mem_cons.mpr ⟨List.mem_of_getElem? (i := 632) (by decide +kernel), List.forall_mem_cons.mpr ⟨List.mem_of_getElem? (i := 643) (by decide +kernel), List.forall_mem_cons.mpr ⟨List.mem_of_getElem? (i := 656) (by decide +kernel), List.forall_mem_cons.mpr ⟨List.mem_of_getElem? (i := 661) (by decide +kernel), List.forall_mem_cons.mpr ⟨List.mem_of_getElem? (i := 678) (by decide +kernel), List.forall_mem_cons.mpr ⟨List.mem_of_getElem? (i := 961) (by decide +kernel), fun _ h => absurd h List.not_mem_nil⟩⟩⟩⟩⟩⟩⟩⟩⟩⟩⟩⟩⟩⟩⟩⟩⟩⟩⟩⟩⟩⟩⟩⟩⟩⟩⟩⟩⟩⟩⟩⟩
section US73
variable {s : State} {args : Array Value}
theorem us_N (hts : ∀ w ∈ lw_tbl, w.before args s = true) : ub_N s :=
  ⟨fun k q hq => va_Nw.of rfl (hts _ (us_nest q (List.mem_of_getElem? hq))), va_AO.of (hts (.arrayOver (.object RX7)) (List.mem_of_getElem? (i := 223) (by decide +kernel)))⟩
theorem us_K (hts : ∀ w ∈ lw_tbl, w.before args s = true) (hts2 : ∀ w ∈ us_tb, w.before args s = true) : ∃ (D : va_G) (cI cT cB : ClassId), va_K D vwCl [(cI, .int), (cT, .object RX7), (cB, .byte)] s := by
  obtain ⟨c0, j0, K0⟩ := u_known (C := RJ0) (T := TJ0) (N := 4) (n := 4) hts2 us_inJ0 (hts (.instantiable RJ0 4) (List.mem_of_getElem? (i := 976) (by decide +kernel)))
  obtain ⟨c1, j1, K1⟩ := u_known (C := RJ4) (T := TJ4) (N := 4) (n := 4) hts2 us_inJ4 (hts (.instantiable RJ4 4) (List.mem_of_getElem? (i := 813) (by decide +kernel)))
  obtain ⟨c2, j2, K2⟩ := u_known (C := RX0) (T := TX0) (N := 6) (n := 6) hts2 us_inX0 (hts (.instantiable RX0 6) (List.mem_of_getElem? (i := 138) (by decide +kernel)))
  obtain ⟨c3, j3, K3⟩ := u_known (C := RX1) (T := TX1) (N := 3) (n := 3) hts2 us_inX1 (hts (.instantiable RX1 3) (List.mem_of_getElem? (i := 217) (by decide +kernel)))
  obtain ⟨c4, j4, K4⟩ := u_known (C := RX2) (T := TX2) (N := 2) (n := 2) hts2 us_inX2 (hts (.instantiable RX2 2) (List.mem_of_getElem? (i := 272) (by decide +kernel)))
  obtain ⟨c5, j5, K5⟩ := u_known (C := RX3) (T := TX3) (N := 4) (n := 4) hts2 us_inX3 (hts (.instantiable RX3 4) (List.mem_of_getElem? (i := 251) (by decide +kernel)))
  obtain ⟨c6, j6, K6⟩ := u_known (C := RX4) (T := TX4) (N := 4) (n := 4) hts2 us_inX4 (hts (.instantiable RX4 4) (List.mem_of_getElem? (i := 111) (by decide +kernel)))
  obtain ⟨c7, j7, K7⟩ := u_known (C := RX5) (T := TX5) (N := 7) (n := 7) hts2 us_inX5 (hts (.instantiable RX5 7) (List.mem_of_getElem? (i := 70) (by decide +kernel)))
  obtain ⟨c8, j8, K8⟩ := u_known (C := RX6) (T := TX6) (N := 2) (n := 2) hts2 us_inX6 (hts (.instantiable RX6 2) (List.mem_of_getElem? (i := 236) (by decide +kernel)))
  obtain ⟨c9, j9, K9⟩ := u_known (C := RX7) (T := TX7) (N := 12) (n := 12) hts2 us_inX7 (hts (.instantiable RX7 12) (List.mem_of_getElem? (i := 64) (by decide +kernel)))
  obtain ⟨c10, j10, K10⟩ := u_known (C := RX8) (T := TX8) (N := 9) (n := 9) hts2 us_inX8 (hts (.instantiable RX8 9) (List.mem_of_getElem? (i := 56) (by decide +kernel)))
  obtain ⟨c11, j11, K11⟩ := u_known (C := RX9) (T := TX9) (N := 1) (n := 1) hts2 us_inX9 (hts (.instantiable RX9 1) (List.mem_of_getElem? (i := 772) (by decide +kernel)))
  obtain ⟨cI, kI, compI, f1, f2, f3⟩ := Cond.arrayClass_spec (hts (.arrayClass .int) (List.mem_of_getElem? (i := 109) (by decide +kernel)))
  obtain ⟨cB, kB, compB, b1, b2, b3⟩ := Cond.arrayClass_spec (hts (.arrayClass .byte) (List.mem_of_getElem? (i := 684) (by decide +kernel)))
  obtain ⟨compT, cT, kT, g1, g2, g3, g4, g5⟩ := Cond.arrayOver_spec (hts (.arrayOver (.object RX7)) (List.mem_of_getElem? (i := 223) (by decide +kernel)))
  refine ⟨(fun k => match k with | 0 => c0 | 1 => c1 | 2 => c2 | 3 => c3 | 4 => c4 | 5 => c5 | 6 => c6 | 7 => c7 | 8 => c8 | 9 => c9 | 10 => c10 | _ => c11, fun k => match k with | 0 => j0 | 1 => j1 | 2 => j2 | 3 => j3 | 4 => j4 | 5 => j5 | 6 => j6 | 7 => j7 | 8 => j8 | 9 => j9 | 10 => j10 | _ => j11), cI, cT, cB, fun k q hq => ?_, fun k q hq => ?_⟩
  · match k, hq with
    | 0, hq => cases hq; exact K0
    | 1, hq => cases hq; exact K1
    | 2, hq => cases hq; exact K2
    | 3, hq => cases hq; exact K3
    | 4, hq => cases hq; exact K4
    | 5, hq => cases hq; exact K5
    | 6, hq => cases hq; exact K6
    | 7, hq => cases hq; exact K7
    | 8, hq => cases hq; exact K8
    | 9, hq => cases hq; exact K9
    | 10, hq => cases hq; exact K10
    | 11, hq => cases hq; exact K11
    | k + 12, hq => simp [vwCl] at hq
  · match k, hq with
    | 0, hq => cases hq; exact ⟨fun n z => ⟨fun k h => (by cases h), kI, f2, compI, f3⟩, f1⟩
    | 1, hq => cases hq; exact ⟨fun n z => ⟨fun k h => (by cases h), kT, g3, compT, g4⟩, kT, compT, g3, g4, g1, g5⟩
    | 2, hq => cases hq; exact ⟨fun n z => ⟨fun k h => (by cases h), kB, b2, compB, b3⟩, b1⟩
    | k + 3, hq => simp at hq
end US73
abbrev us_fl : List Cond := flatC (Jvm.Cond.and given_1 narrow_1)
def us_k4 : List Nat := [120, 122, 124, 152]
def us_tm (i : Nat) : Term := if i < 10 then .string RX3 (ub_six.getD i 0) else .string RL (us_k4.getD (i - 10) 0)
def uy_i1 : List Nat := [230, 236, 245, 254, 267, 277, 287, 298, 313, 326, 353, 369, 386, 404]
def uy_i2 : List Nat := [231, 237, 246, 255, 268, 278, 288, 299, 314, 327, 354, 370, 387, 405]
def uy_i3 : List Nat := [232, 238, 247, 256, 269, 279, 289, 300, 315, 328, 355, 371, 388, 406]
def uy_i4 : List Nat := [233, 239, 248, 257, 270, 280, 290, 301, 316, 329, 356, 372, 389, 407]
def uy_i5 : List (List Nat) := [[234, 235], [240, 241, 242, 243], [249, 250, 251], [258, 259, 260, 261, 262, 263], [271, 272], [281], [291], [302, 303, 304, 305], [317], [], [357], [373], [390], [408]]
def uy_i6 : List (List Nat) := [[0, 244, 252, 264, 273, 282, 292, 306, 318, 330, 358, 374, 391, 409], [244, 0, 253, 265, 274, 283, 293, 307, 319, 331, 359, 375, 392, 410], [252, 253, 0, 266, 275, 284, 294, 308, 320, 332, 360, 376, 393, 411], [264, 265, 266, 0, 276, 285, 295, 309, 321, 333, 361, 377, 394, 412], [273, 274, 275, 276, 0, 286, 296, 310, 322, 334, 362, 378, 395, 413], [282, 283, 284, 285, 286, 0, 297, 311, 323, 335, 363, 379, 396, 414], [292, 293, 294, 295, 296, 297, 0, 312, 324, 336, 364, 380, 397, 415], [306, 307, 308, 309, 310, 311, 312, 0, 325, 337, 365, 381, 398, 416], [318, 319, 320, 321, 322, 323, 324, 325, 0, 338, 366, 382, 399, 417], [330, 331, 332, 333, 334, 335, 336, 337, 338, 0, 367, 383, 400, 418], [358, 359, 360, 361, 362, 363, 364, 365, 366, 367, 0, 385, 402, 420], [374, 375, 376, 377, 378, 379, 380, 381, 382, 383, 385, 0, 403, 421], [391, 392, 393, 394, 395, 396, 397, 398, 399, 400, 402, 403, 0, 422], [409, 410, 411, 412, 413, 414, 415, 416, 417, 418, 420, 421, 422, 0]]
def uy_i7 : List Nat := [12, 13, 14, 15, 16, 17, 18, 19, 20, 21, 22, 23, 24, 25, 26, 27, 28, 29, 30, 31, 32, 33, 34, 35, 36, 37, 38, 39, 40, 41, 42, 43, 44, 45, 46, 47, 48, 49, 50, 51, 52, 53, 54, 55, 56, 57, 58, 59, 60, 61, 62, 63, 64, 65, 66, 67, 68, 69, 70, 71, 72, 73, 74, 75, 76, 77, 78, 79, 80, 81, 82, 83, 84, 85, 86, 87, 88, 89, 90, 91, 92, 93, 94, 95, 96, 97, 98, 99, 100, 101, 102, 103, 104, 105, 106, 107, 108, 109, 110, 111]
def uy_i8 : List Nat := [115, 116, 117, 118, 119, 120, 121, 122, 123, 124, 125, 126, 127, 128, 129, 130, 131, 132, 133, 134, 135, 136, 137, 138, 139, 140, 141, 142, 143, 144, 145, 146, 147, 148, 149, 150, 151, 152, 153, 154, 155, 156, 157, 158, 159, 160, 161, 162, 163, 164, 165, 166, 167, 168, 169, 170, 171, 172, 173, 174, 175, 176, 177, 178, 179, 180, 181, 182, 183, 184, 185, 186, 187, 188, 189, 190, 191, 192, 193, 194, 195, 196, 197, 198, 199, 200, 201, 202, 203, 204, 205, 206, 207, 208, 209, 210, 211, 212, 213, 214]
theorem uy_s1 : ∀ i, i < 14 → us_fl[uy_i1.getD i 0]? = some (Cond.exactly (us_tm i) "java/lang/String") := by decide +kernel
theorem uy_s2 : ∀ i, i < 14 → us_fl[uy_i2.getD i 0]? = some (Cond.eq (.field (us_tm i) "java/lang/String" "coder" "B") (.int 0)) := by decide +kernel
theorem uy_s3 : ∀ i, i < 14 → us_fl[uy_i3.getD i 0]? = some (Cond.arrayOf (.field (us_tm i) "java/lang/String" "value" "[B") .byte) := by decide +kernel
theorem uy_s4 : ∀ i, i < 14 → us_fl[uy_i4.getD i 0]? = some (Cond.eq (.length (.field (us_tm i) "java/lang/String" "value" "[B")) (.int (Int32.ofNat (us_len.getD i 0)))) := by decide +kernel
theorem uy_s5 : ∀ i, i < 14 → ∀ j, j < us_len.getD i 0 → us_fl[(uy_i5.getD i []).getD j 0]? = some (Cond.eq (.elem (.field (us_tm i) "java/lang/String" "value" "[B") (.int (Int32.ofNat j))) (.int ((us_byt.getD i []).getD j 0))) := by decide +kernel
theorem uy_s6 : ∀ i, i < 14 → ∀ j, j < 14 → i ≠ j → us_fl[(uy_i6.getD i []).getD j 0]? = some (Cond.not (.eq (us_tm i) (us_tm j))) ∨ us_fl[(uy_i6.getD i []).getD j 0]? = some (Cond.not (.eq (us_tm j) (us_tm i))) := by decide +kernel
theorem uy_s7 : us_fl[4]? = some (Cond.eq (.static "java/lang/String" "COMPACT_STRINGS" "Z") (.int 1)) := by decide +kernel
theorem uy_s8 : us_fl[5]? = some (Cond.isRef (.static "jdk/internal/util/Preconditions" "SIOOBE_FORMATTER" "Ljava/util/function/BiFunction;")) := by decide +kernel
theorem uy_s9 : us_fl[352]? = some (Cond.eq (.string RX3 89) (.string RL 118)) := by decide +kernel
theorem uy_d1 : us_fl[10]? = some (Cond.arrayOf (.static "java/lang/Integer" "DigitOnes" "[B") .byte) ∧ us_fl[11]? = some (Cond.eq (.length (.static "java/lang/Integer" "DigitOnes" "[B")) (.int (Int32.ofNat 100))) := by decide +kernel
theorem uy_d2 : us_fl[113]? = some (Cond.arrayOf (.static "java/lang/Integer" "DigitTens" "[B") .byte) ∧ us_fl[114]? = some (Cond.eq (.length (.static "java/lang/Integer" "DigitTens" "[B")) (.int (Int32.ofNat 100))) := by decide +kernel
theorem uy_d3 : ∀ j, j < 100 → us_fl[uy_i7.getD j 0]? = some (Cond.eq (.elem (.static "java/lang/Integer" "DigitOnes" "[B") (.int (Int32.ofNat j))) (.int (us_dO j))) := by decide +kernel
theorem uy_d4 : ∀ j, j < 100 → us_fl[uy_i8.getD j 0]? = some (Cond.eq (.elem (.static "java/lang/Integer" "DigitTens" "[B") (.int (Int32.ofNat j))) (.int (us_dT j))) := by decide +kernel
def us_sxX : List Nat := [561, 562, 563, 564, 565, 566, 567, 568, 569, 570]
def us_sxL : List Nat := [1092, 1093, 1094, 1095, 1128]
theorem us_rXk : ∀ i, i < 10 → lw_tbl[us_sxX.getD i 0]? = some (Cond.stringRef RX3 (ub_six.getD i 0) (ub_stx.getD i "")) := by decide +kernel
theorem us_rLk : ∀ i, i < 5 → lw_tbl[us_sxL.getD i 0]? = some (Cond.stringRef RL (us_six.getD i 0) (us_stx.getD i "")) := by decide +kernel
theorem us_Z0 {s : State} {b : Nat} (hts : ∀ w ∈ lw_tbl, w.before #[Value.ref b] s = true) (hgv : (Jvm.Cond.and given_1 narrow_1).before #[Value.ref b] s = true) : ∃ E : us_E, us_Z E (fun q : Nat => s.heap.size ≤ q) s s.heap := by
  have hs := flat_of_before _ hgv
  have hm : ∀ (k : Nat) (w : Cond), us_fl[k]? = some w → w.before #[Value.ref b] s = true := fun k w h => hs w (List.mem_of_getElem? h)
  have hA : ∀ a : Nat, a < s.heap.size → ¬ (s.heap.size ≤ a) := fun a h => Nat.not_le.mpr h
  obtain ⟨adK, adV, h1, h2⟩ := vk_Sof (args := #[Value.ref b]) (s := s) (N := 14) (tm := us_tm) (len := us_len) (byt := us_byt) (A := fun q : Nat => s.heap.size ≤ q)
    (by decide +kernel)
    (fun i hi => hm _ _ (uy_s1 i hi)) (fun i hi => hm _ _ (uy_s2 i hi)) (fun i hi => hm _ _ (uy_s3 i hi)) (fun i hi => hm _ _ (uy_s4 i hi)) (fun i hi j hj => hm _ _ (uy_s5 i hi j hj))
    (fun i j hi hj hne => (uy_s6 i hi j hj hne).imp (fun h => hm _ _ h) (fun h => hm _ _ h)) hA
  obtain ⟨r1, e1, t1⟩ := va_Tof (args := #[Value.ref b]) (s := s) (tm := .static "java/lang/Integer" "DigitOnes" "[B") (ty := .byte) (N := 100) (f := fun j => .int (us_dO j)) (A := fun q : Nat => s.heap.size ≤ q) (by decide) (hm _ _ uy_d1.1) (va_eqt (hm _ _ uy_d1.2)) (fun j hj => va_eqt (hm _ _ (uy_d3 j hj))) hA
  obtain ⟨r2, e2, t2⟩ := va_Tof (args := #[Value.ref b]) (s := s) (tm := .static "java/lang/Integer" "DigitTens" "[B") (ty := .byte) (N := 100) (f := fun j => .int (us_dT j)) (A := fun q : Nat => s.heap.size ≤ q) (by decide) (hm _ _ uy_d2.1) (va_eqt (hm _ _ uy_d2.2)) (fun j hj => va_eqt (hm _ _ (uy_d4 j hj))) hA
  have h9 : (Term.string RX3 89).eval #[Value.ref b] s none [] s = some (.ref (adK 9)) := h2 9 (by decide)
  have h10 : (Term.string RL 118).eval #[Value.ref b] s none [] s = some (.ref (adK 9)) := by
    first | exact va_eqR (hm _ _ uy_s9) h9 | exact va_eqv (hm _ _ uy_s9) h9
  refine ⟨(adK, adV, r1, r2), h1, va_Zof (hts (.laysStatic "java/lang/String" "COMPACT_STRINGS" "Z") (List.mem_of_getElem? (i := 585) (by decide +kernel))) (hts (.initialized "java/lang/String") (List.mem_of_getElem? (i := 45) (by decide +kernel))) (va_eqi (hm _ _ uy_s7)) hA, va_Zqof (hts (.laysStatic "jdk/internal/util/Preconditions" "SIOOBE_FORMATTER" "Ljava/util/function/BiFunction;") (List.mem_of_getElem? (i := 601) (by decide +kernel))) (hts (.initialized "jdk/internal/util/Preconditions") (List.mem_of_getElem? (i := 47) (by decide +kernel))) (hm _ _ uy_s8) hA, fun i hi => ?_, fun i hi => ?_, va_Zof (hts (.laysStatic "java/lang/Integer" "DigitOnes" "[B") (List.mem_of_getElem? (i := 890) (by decide +kernel))) (hts (.initialized "java/lang/Integer") (List.mem_of_getElem? (i := 49) (by decide +kernel))) e1 hA, t1, va_Zof (hts (.laysStatic "java/lang/Integer" "DigitTens" "[B") (List.mem_of_getElem? (i := 892) (by decide +kernel))) (hts (.initialized "java/lang/Integer") (List.mem_of_getElem? (i := 49) (by decide +kernel))) e2 hA, t2, va_Nw.of rfl (hts (.castable "[B" "java/lang/Cloneable") (List.mem_of_getElem? (i := 877) (by decide +kernel)))⟩
  · have h3 := h2 i (by omega)
    rw [us_tm, if_pos hi] at h3
    exact vk_R.of (hts _ (List.mem_of_getElem? (us_rXk i hi))) h3
  · refine vk_R.of (hts _ (List.mem_of_getElem? (us_rLk i hi))) ?_
    rcases (show i = 0 ∨ i = 1 ∨ i = 2 ∨ i = 3 ∨ i = 4 by omega) with rfl | rfl | rfl | rfl | rfl
    · exact h10
    · exact h2 10 (by decide)
    · exact h2 11 (by decide)
    · exact h2 12 (by decide)
    · exact h2 13 (by decide)
