section UL56
variable {p : Program} {l : Launch} {e : Env} {s : State} {m : MethodId} {args : Array Value} {below : List Frame} {meth : Method} {c : Code} {Q : State → Prop} {D : va_G} {cI cT : ClassId} {A : Nat → Prop} {b L : Nat} {xs : Nat → Int32} {h0 m0 : Nat} {ad md : Nat → Nat} {i cells slots cnt : Nat} {adK adV : Nat → Nat}
theorem ul_guard : ∀ {L i : Nat}, L ≤ 2048 → i ≤ 4096 → ¬ (nI L - 4 < nI i) → i + 4 ≤ L := by
  intro L i hL hi h
  by_cases h4 : 4 ≤ L
  · rw [show (4 : Int32) = nI 4 from rfl, pk_sub h4] at h
    apply Nat.le_of_not_lt
    intro h5
    exact h (nI_lt (by omega) (by omega))
  · exfalso
    apply h
    have hneg : nI L - 4 < 0 := by
      rcases (show L = 0 ∨ L = 1 ∨ L = 2 ∨ L = 3 by omega) with rfl | rfl | rfl | rfl <;> decide
    exact Int32.lt_of_lt_of_le hneg (nI_pos' (by omega))
theorem ul_and (x : Int32) : ∃ k, k < 64 ∧ x &&& 63 = nI k := by
  refine ⟨(x &&& 63).toBitVec.toNat, ?_, ?_⟩
  · have e : (x &&& 63).toBitVec = x.toBitVec &&& 63#32 := rfl
    rw [e, BitVec.toNat_and]
    have h63 : (63#32).toNat = 2 ^ 6 - 1 := by decide
    rw [h63, Nat.and_two_pow_sub_one_eq_mod]
    omega
  · apply Int32.toBitVec_inj.mp
    apply BitVec.eq_of_toNat_eq
    show (x &&& 63).toBitVec.toNat = (BitVec.ofNat 32 (x &&& 63).toBitVec.toNat).toNat
    rw [BitVec.toNat_ofNat, Nat.mod_eq_of_lt (BitVec.isLt _)]
set_option maxRecDepth 20000 in
set_option maxHeartbeats 4000000 in
theorem ul_body (hZ : ub_Z adK adV A s s.heap) (K : ub_kx p s m args meth c cL_law 8 RL wsL_law D cI cT A) (hX : va_X b L xs s s.heap) (hbl : b < s.heap.size) (hbA : ¬ A b) (hi : i + 4 ≤ L) (hL : L ≤ 2048) (hcn : cnt + 31 < 16384) (hrc : cells + 36 ≤ 600000) (hrs : slots + 506 ≤ 7302250) (hN : ulGo p l e s m args below meth c Q D cI cT A b h0 m0 ad md i (cells + 36) (slots + 506) (cnt + 31) 1027) : ulGo p l e s m args below meth c Q D cI cT A b h0 m0 ad md i cells slots cnt 26 := by
  intro X z lr ld hn hf ll lc T tr on0 ps0 ok0 om0 tl tc G fl0 ch0 wy0 dt0 is0 tn0 he0 en0 ln0 iw0 id0 bf0 pa0 v0 kp0 sv0 tx0 li0 H locs ls hR hP hD hS hl
  obtain ⟨hx, hb, hml, hown, hts, hK, hNN, hA⟩ := id K
  refine lv_aload_n hx hb dL_law_26 rfl (lv_at hl 3 rfl) ?_
  refine lv_iload_n hx hb dL_law_27 rfl (lv_at hl 0 rfl) ?_
  refine va_sld hx hb hX hbl hbA hS (vp_in_nI (by omega) (by omega)) dL_law_28 ?_
  refine lv_bipush (v := 63) hx hb dL_law_29 (by decide) ?_
  refine lv_iand hx hb dL_law_31 ?_
  obtain ⟨k, hk, ek⟩ := ul_and (xs (nI i).toNatClampNeg)
  rw [ek]
  by_cases h35 : k < 35
  · rcases (show k = 0 ∨ k = 1 ∨ k = 2 ∨ k = 3 ∨ k = 4 ∨ k = 5 ∨ k = 6 ∨ k = 7 ∨ k = 8 ∨ k = 9 ∨ k = 10 ∨ k = 11 ∨ k = 12 ∨ k = 13 ∨ k = 14 ∨ k = 15 ∨ k = 16 ∨ k = 17 ∨ k = 18 ∨ k = 19 ∨ k = 20 ∨ k = 21 ∨ k = 22 ∨ k = 23 ∨ k = 24 ∨ k = 25 ∨ k = 26 ∨ k = 27 ∨ k = 28 ∨ k = 29 ∨ k = 30 ∨ k = 31 ∨ k = 32 ∨ k = 33 ∨ k = 34 by omega) with rfl | rfl | rfl | rfl | rfl | rfl | rfl | rfl | rfl | rfl | rfl | rfl | rfl | rfl | rfl | rfl | rfl | rfl | rfl | rfl | rfl | rfl | rfl | rfl | rfl | rfl | rfl | rfl | rfl | rfl | rfl | rfl | rfl | rfl | rfl
    · exact lv_tableIn (tgt := 188) (off := 156) hx hb dL_law_32 (by decide) (by decide) (by decide) (by decide) (ul_case0 K hX hbl hbA hi hL hcn hrc hrs hN X z lr ld hn hf ll lc T tr on0 ps0 ok0 om0 tl tc G fl0 ch0 wy0 dt0 is0 tn0 he0 en0 ln0 iw0 id0 bf0 pa0 v0 kp0 sv0 tx0 li0 H locs ls hR hP hD hS hl)
    · exact lv_tableIn (tgt := 211) (off := 179) hx hb dL_law_32 (by decide) (by decide) (by decide) (by decide) (ul_case1 K hX hbl hbA hi hL hcn hrc hrs hN X z lr ld hn hf ll lc T tr on0 ps0 ok0 om0 tl tc G fl0 ch0 wy0 dt0 is0 tn0 he0 en0 ln0 iw0 id0 bf0 pa0 v0 kp0 sv0 tx0 li0 H locs ls hR hP hD hS hl)
    · exact lv_tableIn (tgt := 244) (off := 212) hx hb dL_law_32 (by decide) (by decide) (by decide) (by decide) (ul_case2 K hX hbl hbA hi hL hcn hrc hrs hN X z lr ld hn hf ll lc T tr on0 ps0 ok0 om0 tl tc G fl0 ch0 wy0 dt0 is0 tn0 he0 en0 ln0 iw0 id0 bf0 pa0 v0 kp0 sv0 tx0 li0 H locs ls hR hP hD hS hl)
    · exact lv_tableIn (tgt := 277) (off := 245) hx hb dL_law_32 (by decide) (by decide) (by decide) (by decide) (ul_case3 K hX hbl hbA hi hL hcn hrc hrs hN X z lr ld hn hf ll lc T tr on0 ps0 ok0 om0 tl tc G fl0 ch0 wy0 dt0 is0 tn0 he0 en0 ln0 iw0 id0 bf0 pa0 v0 kp0 sv0 tx0 li0 H locs ls hR hP hD hS hl)
    · exact lv_tableIn (tgt := 310) (off := 278) hx hb dL_law_32 (by decide) (by decide) (by decide) (by decide) (ul_case4 K hX hbl hbA hi hL hcn hrc hrs hN X z lr ld hn hf ll lc T tr on0 ps0 ok0 om0 tl tc G fl0 ch0 wy0 dt0 is0 tn0 he0 en0 ln0 iw0 id0 bf0 pa0 v0 kp0 sv0 tx0 li0 H locs ls hR hP hD hS hl)
    · exact lv_tableIn (tgt := 343) (off := 311) hx hb dL_law_32 (by decide) (by decide) (by decide) (by decide) (ul_case5 K hX hbl hbA hi hL hcn hrc hrs hN X z lr ld hn hf ll lc T tr on0 ps0 ok0 om0 tl tc G fl0 ch0 wy0 dt0 is0 tn0 he0 en0 ln0 iw0 id0 bf0 pa0 v0 kp0 sv0 tx0 li0 H locs ls hR hP hD hS hl)
    · exact lv_tableIn (tgt := 386) (off := 354) hx hb dL_law_32 (by decide) (by decide) (by decide) (by decide) (ul_case6 K hX hbl hbA hi hL hcn hrc hrs hN X z lr ld hn hf ll lc T tr on0 ps0 ok0 om0 tl tc G fl0 ch0 wy0 dt0 is0 tn0 he0 en0 ln0 iw0 id0 bf0 pa0 v0 kp0 sv0 tx0 li0 H locs ls hR hP hD hS hl)
    · exact lv_tableIn (tgt := 409) (off := 377) hx hb dL_law_32 (by decide) (by decide) (by decide) (by decide) (ul_case7 K hX hbl hbA hi hL hcn hrc hrs hN X z lr ld hn hf ll lc T tr on0 ps0 ok0 om0 tl tc G fl0 ch0 wy0 dt0 is0 tn0 he0 en0 ln0 iw0 id0 bf0 pa0 v0 kp0 sv0 tx0 li0 H locs ls hR hP hD hS hl)
    · exact lv_tableIn (tgt := 422) (off := 390) hx hb dL_law_32 (by decide) (by decide) (by decide) (by decide) (ul_case8 K hX hbl hbA hi hL hcn hrc hrs hN X z lr ld hn hf ll lc T tr on0 ps0 ok0 om0 tl tc G fl0 ch0 wy0 dt0 is0 tn0 he0 en0 ln0 iw0 id0 bf0 pa0 v0 kp0 sv0 tx0 li0 H locs ls hR hP hD hS hl)
    · exact lv_tableIn (tgt := 435) (off := 403) hx hb dL_law_32 (by decide) (by decide) (by decide) (by decide) (ul_case9 K hX hbl hbA hi hL hcn hrc hrs hN X z lr ld hn hf ll lc T tr on0 ps0 ok0 om0 tl tc G fl0 ch0 wy0 dt0 is0 tn0 he0 en0 ln0 iw0 id0 bf0 pa0 v0 kp0 sv0 tx0 li0 H locs ls hR hP hD hS hl)
    · exact lv_tableIn (tgt := 448) (off := 416) hx hb dL_law_32 (by decide) (by decide) (by decide) (by decide) (ul_case10 K hX hbl hbA hi hL hcn hrc hrs hN X z lr ld hn hf ll lc T tr on0 ps0 ok0 om0 tl tc G fl0 ch0 wy0 dt0 is0 tn0 he0 en0 ln0 iw0 id0 bf0 pa0 v0 kp0 sv0 tx0 li0 H locs ls hR hP hD hS hl)
    · exact lv_tableIn (tgt := 481) (off := 449) hx hb dL_law_32 (by decide) (by decide) (by decide) (by decide) (ul_case11 K hX hbl hbA hi hL hcn hrc hrs hN X z lr ld hn hf ll lc T tr on0 ps0 ok0 om0 tl tc G fl0 ch0 wy0 dt0 is0 tn0 he0 en0 ln0 iw0 id0 bf0 pa0 v0 kp0 sv0 tx0 li0 H locs ls hR hP hD hS hl)
    · exact lv_tableIn (tgt := 514) (off := 482) hx hb dL_law_32 (by decide) (by decide) (by decide) (by decide) (ul_case12 K hX hbl hbA hi hL hcn hrc hrs hN X z lr ld hn hf ll lc T tr on0 ps0 ok0 om0 tl tc G fl0 ch0 wy0 dt0 is0 tn0 he0 en0 ln0 iw0 id0 bf0 pa0 v0 kp0 sv0 tx0 li0 H locs ls hR hP hD hS hl)
    · exact lv_tableIn (tgt := 527) (off := 495) hx hb dL_law_32 (by decide) (by decide) (by decide) (by decide) (ul_case13 K hX hbl hbA hi hL hcn hrc hrs hN X z lr ld hn hf ll lc T tr on0 ps0 ok0 om0 tl tc G fl0 ch0 wy0 dt0 is0 tn0 he0 en0 ln0 iw0 id0 bf0 pa0 v0 kp0 sv0 tx0 li0 H locs ls hR hP hD hS hl)
    · exact lv_tableIn (tgt := 540) (off := 508) hx hb dL_law_32 (by decide) (by decide) (by decide) (by decide) (ul_case14 K hX hbl hbA hi hL hcn hrc hrs hN X z lr ld hn hf ll lc T tr on0 ps0 ok0 om0 tl tc G fl0 ch0 wy0 dt0 is0 tn0 he0 en0 ln0 iw0 id0 bf0 pa0 v0 kp0 sv0 tx0 li0 H locs ls hR hP hD hS hl)
    · exact lv_tableIn (tgt := 573) (off := 541) hx hb dL_law_32 (by decide) (by decide) (by decide) (by decide) (ul_case15 K hX hbl hbA hi hL hcn hrc hrs hN X z lr ld hn hf ll lc T tr on0 ps0 ok0 om0 tl tc G fl0 ch0 wy0 dt0 is0 tn0 he0 en0 ln0 iw0 id0 bf0 pa0 v0 kp0 sv0 tx0 li0 H locs ls hR hP hD hS hl)
    · exact lv_tableIn (tgt := 596) (off := 564) hx hb dL_law_32 (by decide) (by decide) (by decide) (by decide) (ul_case16 K hX hbl hbA hi hL hcn hrc hrs hN X z lr ld hn hf ll lc T tr on0 ps0 ok0 om0 tl tc G fl0 ch0 wy0 dt0 is0 tn0 he0 en0 ln0 iw0 id0 bf0 pa0 v0 kp0 sv0 tx0 li0 H locs ls hR hP hD hS hl)
    · exact lv_tableIn (tgt := 619) (off := 587) hx hb dL_law_32 (by decide) (by decide) (by decide) (by decide) (ul_case17 K hX hbl hbA hi hL hcn hrc hrs hN X z lr ld hn hf ll lc T tr on0 ps0 ok0 om0 tl tc G fl0 ch0 wy0 dt0 is0 tn0 he0 en0 ln0 iw0 id0 bf0 pa0 v0 kp0 sv0 tx0 li0 H locs ls hR hP hD hS hl)
    · exact lv_tableIn (tgt := 642) (off := 610) hx hb dL_law_32 (by decide) (by decide) (by decide) (by decide) (ul_case18 K hX hbl hbA hi hL hcn hrc hrs hN X z lr ld hn hf ll lc T tr on0 ps0 ok0 om0 tl tc G fl0 ch0 wy0 dt0 is0 tn0 he0 en0 ln0 iw0 id0 bf0 pa0 v0 kp0 sv0 tx0 li0 H locs ls hR hP hD hS hl)
    · exact lv_tableIn (tgt := 675) (off := 643) hx hb dL_law_32 (by decide) (by decide) (by decide) (by decide) (ul_case19 K hX hbl hbA hi hL hcn hrc hrs hN X z lr ld hn hf ll lc T tr on0 ps0 ok0 om0 tl tc G fl0 ch0 wy0 dt0 is0 tn0 he0 en0 ln0 iw0 id0 bf0 pa0 v0 kp0 sv0 tx0 li0 H locs ls hR hP hD hS hl)
    · exact lv_tableIn (tgt := 688) (off := 656) hx hb dL_law_32 (by decide) (by decide) (by decide) (by decide) (ul_case20 K hX hbl hbA hi hL hcn hrc hrs hN X z lr ld hn hf ll lc T tr on0 ps0 ok0 om0 tl tc G fl0 ch0 wy0 dt0 is0 tn0 he0 en0 ln0 iw0 id0 bf0 pa0 v0 kp0 sv0 tx0 li0 H locs ls hR hP hD hS hl)
    · exact lv_tableIn (tgt := 711) (off := 679) hx hb dL_law_32 (by decide) (by decide) (by decide) (by decide) (ul_case21 K hX hbl hbA hi hL hcn hrc hrs hN X z lr ld hn hf ll lc T tr on0 ps0 ok0 om0 tl tc G fl0 ch0 wy0 dt0 is0 tn0 he0 en0 ln0 iw0 id0 bf0 pa0 v0 kp0 sv0 tx0 li0 H locs ls hR hP hD hS hl)
    · exact lv_tableIn (tgt := 734) (off := 702) hx hb dL_law_32 (by decide) (by decide) (by decide) (by decide) (ul_case22 K hX hbl hbA hi hL hcn hrc hrs hN X z lr ld hn hf ll lc T tr on0 ps0 ok0 om0 tl tc G fl0 ch0 wy0 dt0 is0 tn0 he0 en0 ln0 iw0 id0 bf0 pa0 v0 kp0 sv0 tx0 li0 H locs ls hR hP hD hS hl)
    · exact lv_tableIn (tgt := 757) (off := 725) hx hb dL_law_32 (by decide) (by decide) (by decide) (by decide) (ul_case23 hZ K hX hbl hbA hi hL hcn hrc hrs hN X z lr ld hn hf ll lc T tr on0 ps0 ok0 om0 tl tc G fl0 ch0 wy0 dt0 is0 tn0 he0 en0 ln0 iw0 id0 bf0 pa0 v0 kp0 sv0 tx0 li0 H locs ls hR hP hD hS hl)
    · exact lv_tableIn (tgt := 770) (off := 738) hx hb dL_law_32 (by decide) (by decide) (by decide) (by decide) (ul_case24 K hX hbl hbA hi hL hcn hrc hrs hN X z lr ld hn hf ll lc T tr on0 ps0 ok0 om0 tl tc G fl0 ch0 wy0 dt0 is0 tn0 he0 en0 ln0 iw0 id0 bf0 pa0 v0 kp0 sv0 tx0 li0 H locs ls hR hP hD hS hl)
    · exact lv_tableIn (tgt := 793) (off := 761) hx hb dL_law_32 (by decide) (by decide) (by decide) (by decide) (ul_case25 K hX hbl hbA hi hL hcn hrc hrs hN X z lr ld hn hf ll lc T tr on0 ps0 ok0 om0 tl tc G fl0 ch0 wy0 dt0 is0 tn0 he0 en0 ln0 iw0 id0 bf0 pa0 v0 kp0 sv0 tx0 li0 H locs ls hR hP hD hS hl)
    · exact lv_tableIn (tgt := 806) (off := 774) hx hb dL_law_32 (by decide) (by decide) (by decide) (by decide) (ul_case26 K hX hbl hbA hi hL hcn hrc hrs hN X z lr ld hn hf ll lc T tr on0 ps0 ok0 om0 tl tc G fl0 ch0 wy0 dt0 is0 tn0 he0 en0 ln0 iw0 id0 bf0 pa0 v0 kp0 sv0 tx0 li0 H locs ls hR hP hD hS hl)
    · exact lv_tableIn (tgt := 829) (off := 797) hx hb dL_law_32 (by decide) (by decide) (by decide) (by decide) (ul_case27 K hX hbl hbA hi hL hcn hrc hrs hN X z lr ld hn hf ll lc T tr on0 ps0 ok0 om0 tl tc G fl0 ch0 wy0 dt0 is0 tn0 he0 en0 ln0 iw0 id0 bf0 pa0 v0 kp0 sv0 tx0 li0 H locs ls hR hP hD hS hl)
    · exact lv_tableIn (tgt := 868) (off := 836) hx hb dL_law_32 (by decide) (by decide) (by decide) (by decide) (ul_case28 K hX hbl hbA hi hL hcn hrc hrs hN X z lr ld hn hf ll lc T tr on0 ps0 ok0 om0 tl tc G fl0 ch0 wy0 dt0 is0 tn0 he0 en0 ln0 iw0 id0 bf0 pa0 v0 kp0 sv0 tx0 li0 H locs ls hR hP hD hS hl)
    · exact lv_tableIn (tgt := 891) (off := 859) hx hb dL_law_32 (by decide) (by decide) (by decide) (by decide) (ul_case29 K hX hbl hbA hi hL hcn hrc hrs hN X z lr ld hn hf ll lc T tr on0 ps0 ok0 om0 tl tc G fl0 ch0 wy0 dt0 is0 tn0 he0 en0 ln0 iw0 id0 bf0 pa0 v0 kp0 sv0 tx0 li0 H locs ls hR hP hD hS hl)
    · exact lv_tableIn (tgt := 904) (off := 872) hx hb dL_law_32 (by decide) (by decide) (by decide) (by decide) (ul_case30 K hX hbl hbA hi hL hcn hrc hrs hN X z lr ld hn hf ll lc T tr on0 ps0 ok0 om0 tl tc G fl0 ch0 wy0 dt0 is0 tn0 he0 en0 ln0 iw0 id0 bf0 pa0 v0 kp0 sv0 tx0 li0 H locs ls hR hP hD hS hl)
    · exact lv_tableIn (tgt := 945) (off := 913) hx hb dL_law_32 (by decide) (by decide) (by decide) (by decide) (ul_case31 K hX hbl hbA hi hL hcn hrc hrs hN X z lr ld hn hf ll lc T tr on0 ps0 ok0 om0 tl tc G fl0 ch0 wy0 dt0 is0 tn0 he0 en0 ln0 iw0 id0 bf0 pa0 v0 kp0 sv0 tx0 li0 H locs ls hR hP hD hS hl)
    · exact lv_tableIn (tgt := 988) (off := 956) hx hb dL_law_32 (by decide) (by decide) (by decide) (by decide) (ul_case32 K hX hbl hbA hi hL hcn hrc hrs hN X z lr ld hn hf ll lc T tr on0 ps0 ok0 om0 tl tc G fl0 ch0 wy0 dt0 is0 tn0 he0 en0 ln0 iw0 id0 bf0 pa0 v0 kp0 sv0 tx0 li0 H locs ls hR hP hD hS hl)
    · exact lv_tableIn (tgt := 1001) (off := 969) hx hb dL_law_32 (by decide) (by decide) (by decide) (by decide) (ul_case33 K hX hbl hbA hi hL hcn hrc hrs hN X z lr ld hn hf ll lc T tr on0 ps0 ok0 om0 tl tc G fl0 ch0 wy0 dt0 is0 tn0 he0 en0 ln0 iw0 id0 bf0 pa0 v0 kp0 sv0 tx0 li0 H locs ls hR hP hD hS hl)
    · exact lv_tableIn (tgt := 1014) (off := 982) hx hb dL_law_32 (by decide) (by decide) (by decide) (by decide) (ul_case34 K hX hbl hbA hi hL hcn hrc hrs hN X z lr ld hn hf ll lc T tr on0 ps0 ok0 om0 tl tc G fl0 ch0 wy0 dt0 is0 tn0 he0 en0 ln0 iw0 id0 bf0 pa0 v0 kp0 sv0 tx0 li0 H locs ls hR hP hD hS hl)
  · refine lv_tableOut (tgt := 1027) hx hb dL_law_32 (Or.inr (by rw [nI_toInt (by omega)]; omega)) (by decide) ?_
    refine W.widen (k := cells + 36) (n := slots + 506) (by omega) (by omega) ?_
    obtain ⟨f, past, n, h, q, t, g, a1, a2, a3, a4, a5, a6, a7, a8, a9, hI, hC, hH, hR, hXt, hLl, hSn⟩ := hR
    exact hN X z lr ld hn hf ll lc T tr on0 ps0 ok0 om0 tl tc G fl0 ch0 wy0 dt0 is0 tn0 he0 en0 ln0 iw0 id0 bf0 pa0 v0 kp0 sv0 tx0 li0 H locs ls ⟨f, past, n, h, q, t, g, a1, a2, a3, a4, a5, a6, a7, a8, a9, um_I_up (by omega) (by omega) hI, hC, um_H_mono (by omega) (by omega) hH, hR, hXt, hLl, ulS_mono (by omega) (by omega) hSn⟩ hP hD hS hl
set_option maxRecDepth 20000 in
theorem ul_loop (hZ : ub_Z adK adV A s s.heap) (K : ub_kx p s m args meth c cL_law 8 RL wsL_law D cI cT A) (hX : va_X b L xs s s.heap) (hbl : b < s.heap.size) (hbA : ¬ A b) (hL : L ≤ 2048) (hE : ∀ (H : Heap) (locs : List Loc) (ls : Array Slot) (cells slots : Nat), cells ≤ 600000 → slots ≤ 7302250 → va_S A s.heap H locs → W p l e room_1 s m args below meth c H locs cells slots Q (F0 m 1033 ls [])) : ∀ (r i cells slots cnt : Nat), L ≤ i + 4 * r → i ≤ 2052 → cells + 36 * r ≤ 600000 → slots + 506 * r ≤ 7302250 → cnt + 31 * r < 16384 → ulGo p l e s m args below meth c Q D cI cT A b h0 m0 ad md i cells slots cnt 18
  | 0, i, cells, slots, cnt, h1, h2, h3, h4, h5 => by
    intro X z lr ld hn hf ll lc T tr on0 ps0 ok0 om0 tl tc G fl0 ch0 wy0 dt0 is0 tn0 he0 en0 ln0 iw0 id0 bf0 pa0 v0 kp0 sv0 tx0 li0 H locs ls hR hP hD hS hl
    obtain ⟨hx, hb, hml, hown, hts, hK, hNN, hA⟩ := id K
    refine lv_iload_n hx hb dL_law_18 rfl (lv_at hl 0 rfl) ?_
    refine lv_aload_n hx hb dL_law_19 rfl (lv_at hl 3 rfl) ?_
    refine va_slen hx hb hX hbl hbA hS dL_law_20 ?_
    refine lv_iconst (v := 4) hx hb dL_law_21 (by decide) ?_
    refine lv_isub hx hb dL_law_22 ?_
    refine lv_icmp_gt (tgt := 1033) hx hb dL_law_23 (by decide) (fun _ => hE H locs ls cells slots (by omega) (by omega) hS) (fun hg => ?_)
    have hi : i + 4 ≤ L := ul_guard hL (by omega) (fun h => hg h)
    omega
  | r + 1, i, cells, slots, cnt, h1, h2, h3, h4, h5 => by
    intro X z lr ld hn hf ll lc T tr on0 ps0 ok0 om0 tl tc G fl0 ch0 wy0 dt0 is0 tn0 he0 en0 ln0 iw0 id0 bf0 pa0 v0 kp0 sv0 tx0 li0 H locs ls hR hP hD hS hl
    obtain ⟨hx, hb, hml, hown, hts, hK, hNN, hA⟩ := id K
    refine lv_iload_n hx hb dL_law_18 rfl (lv_at hl 0 rfl) ?_
    refine lv_aload_n hx hb dL_law_19 rfl (lv_at hl 3 rfl) ?_
    refine va_slen hx hb hX hbl hbA hS dL_law_20 ?_
    refine lv_iconst (v := 4) hx hb dL_law_21 (by decide) ?_
    refine lv_isub hx hb dL_law_22 ?_
    refine lv_icmp_gt (tgt := 1033) hx hb dL_law_23 (by decide) (fun _ => hE H locs ls cells slots (by omega) (by omega) hS) (fun hg => ?_)
    have hi : i + 4 ≤ L := ul_guard hL (by omega) (fun h => hg h)
    have g5 : cnt + 31 < 16384 := Nat.lt_of_le_of_lt (by rw [Nat.mul_succ]; omega) h5
    have g3 : cells + 36 ≤ 600000 := Nat.le_trans (by rw [Nat.mul_succ]; omega) h3
    have g4 : slots + 506 ≤ 7302250 := Nat.le_trans (by rw [Nat.mul_succ]; omega) h4
    refine ul_body hZ K hX hbl hbA hi hL g5 g3 g4 ?_ X z lr ld hn hf ll lc T tr on0 ps0 ok0 om0 tl tc G fl0 ch0 wy0 dt0 is0 tn0 he0 en0 ln0 iw0 id0 bf0 pa0 v0 kp0 sv0 tx0 li0 H locs ls hR hP hD hS hl
    intro X z lr ld hn hf ll lc T tr on0 ps0 ok0 om0 tl tc G fl0 ch0 wy0 dt0 is0 tn0 he0 en0 ln0 iw0 id0 bf0 pa0 v0 kp0 sv0 tx0 li0 H locs ls hR hP hD hS hl
    refine lv_iinc (x := nI i) (v := nI (i + 4)) (lv' := [(3, .int (nI (i + 4))), (2, .ref m0), (1, .ref h0), (0, .ref b)]) (k := 0) hx hb dL_law_1027 hl rfl (by rw [show Int32.ofInt 4 = nI 4 from rfl, nI_add]) (by decide) rfl (fun ls hl => ?_)
    refine lv_goto (tgt := 18) hx hb dL_law_1030 (by decide) ?_
    exact ul_loop hZ K hX hbl hbA hL hE r (i + 4) _ _ _ (by omega) (by omega) (by omega) (by omega) (by omega) X z lr ld hn hf ll lc T tr on0 ps0 ok0 om0 tl tc G fl0 ch0 wy0 dt0 is0 tn0 he0 en0 ln0 iw0 id0 bf0 pa0 v0 kp0 sv0 tx0 li0 H locs ls hR hP hD hS hl
end UL56
