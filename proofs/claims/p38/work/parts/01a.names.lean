-- ===== PART A: goes FIRST, ahead of the names: the tables' words, and 'selects' of the private methods out of them =====
/-- a private method of a class that the tables say can be made, by its rows of tables_1 -/
def lw_okq (q : MethodName × Nat) : Prop := (q.1.cls ≠ "java/lang/invoke/MethodHandle" ∧ q.1.cls ≠ "java/lang/invoke/VarHandle") ∧ Cond.instantiable q.1.cls q.2 ∈ tables_1 ∧ Cond.privateMethod q.1 ∈ tables_1 ∧ Cond.instanceMethod q.1 ∈ tables_1
theorem lw_p0 : lw_okq (⟨"UnheardBells$History", "rowAt", "(I)LUnheardBells$Tower;"⟩, 3) := ⟨⟨by decide +kernel, by decide +kernel⟩, List.mem_of_getElem? (i := 184) (by decide +kernel), List.mem_of_getElem? (i := 290) (by decide +kernel), List.mem_of_getElem? (i := 291) (by decide +kernel)⟩
theorem lw_p1 : lw_okq (⟨"UnheardBells", "bringRope", "(I)I"⟩, 9) := ⟨⟨by decide +kernel, by decide +kernel⟩, List.mem_of_getElem? (i := 23) (by decide +kernel), List.mem_of_getElem? (i := 326) (by decide +kernel), List.mem_of_getElem? (i := 327) (by decide +kernel)⟩
theorem lw_p2 : lw_okq (⟨"UnheardBells", "refuse", "(II)I"⟩, 9) := ⟨⟨by decide +kernel, by decide +kernel⟩, List.mem_of_getElem? (i := 23) (by decide +kernel), List.mem_of_getElem? (i := 333) (by decide +kernel), List.mem_of_getElem? (i := 334) (by decide +kernel)⟩
theorem lw_p3 : lw_okq (⟨"UnheardBells", "settle", "(I)I"⟩, 9) := ⟨⟨by decide +kernel, by decide +kernel⟩, List.mem_of_getElem? (i := 23) (by decide +kernel), List.mem_of_getElem? (i := 344) (by decide +kernel), List.mem_of_getElem? (i := 345) (by decide +kernel)⟩
theorem lw_p4 : lw_okq (⟨"UnheardBells", "switchSensor", "(II)I"⟩, 9) := ⟨⟨by decide +kernel, by decide +kernel⟩, List.mem_of_getElem? (i := 23) (by decide +kernel), List.mem_of_getElem? (i := 357) (by decide +kernel), List.mem_of_getElem? (i := 358) (by decide +kernel)⟩
theorem lw_p5 : lw_okq (⟨"UnheardBells", "oilRope", "(II)I"⟩, 9) := ⟨⟨by decide +kernel, by decide +kernel⟩, List.mem_of_getElem? (i := 23) (by decide +kernel), List.mem_of_getElem? (i := 376) (by decide +kernel), List.mem_of_getElem? (i := 377) (by decide +kernel)⟩
theorem lw_p6 : lw_okq (⟨"UnheardBells", "letWait", "(III)I"⟩, 9) := ⟨⟨by decide +kernel, by decide +kernel⟩, List.mem_of_getElem? (i := 23) (by decide +kernel), List.mem_of_getElem? (i := 384) (by decide +kernel), List.mem_of_getElem? (i := 385) (by decide +kernel)⟩
theorem lw_p7 : lw_okq (⟨"UnheardBells$Pulls", "isAheadOf", "(IIII)Z"⟩, 4) := ⟨⟨by decide +kernel, by decide +kernel⟩, List.mem_of_getElem? (i := 78) (by decide +kernel), List.mem_of_getElem? (i := 398) (by decide +kernel), List.mem_of_getElem? (i := 399) (by decide +kernel)⟩
theorem lw_p8 : lw_okq (⟨"UnheardBells$Pulls", "carry", "(II)V"⟩, 4) := ⟨⟨by decide +kernel, by decide +kernel⟩, List.mem_of_getElem? (i := 78) (by decide +kernel), List.mem_of_getElem? (i := 403) (by decide +kernel), List.mem_of_getElem? (i := 404) (by decide +kernel)⟩
theorem lw_p9 : lw_okq (⟨"UnheardBells", "ringNext", "()I"⟩, 9) := ⟨⟨by decide +kernel, by decide +kernel⟩, List.mem_of_getElem? (i := 23) (by decide +kernel), List.mem_of_getElem? (i := 412) (by decide +kernel), List.mem_of_getElem? (i := 413) (by decide +kernel)⟩
theorem lw_p10 : lw_okq (⟨"UnheardBells$Tower", "miss", "(I)V"⟩, 12) := ⟨⟨by decide +kernel, by decide +kernel⟩, List.mem_of_getElem? (i := 31) (by decide +kernel), List.mem_of_getElem? (i := 439) (by decide +kernel), List.mem_of_getElem? (i := 440) (by decide +kernel)⟩
theorem lw_p11 : lw_okq (⟨"UnheardBells$Tower", "answer", "(II)V"⟩, 12) := ⟨⟨by decide +kernel, by decide +kernel⟩, List.mem_of_getElem? (i := 31) (by decide +kernel), List.mem_of_getElem? (i := 443) (by decide +kernel), List.mem_of_getElem? (i := 444) (by decide +kernel)⟩
theorem lw_p12 : lw_okq (⟨"UnheardBells", "ringHour", "()I"⟩, 9) := ⟨⟨by decide +kernel, by decide +kernel⟩, List.mem_of_getElem? (i := 23) (by decide +kernel), List.mem_of_getElem? (i := 467) (by decide +kernel), List.mem_of_getElem? (i := 468) (by decide +kernel)⟩
theorem lw_p13 : lw_okq (⟨"UnheardBells$Orders", "readOrder", "(LUnheardBells$Text;)Z"⟩, 4) := ⟨⟨by decide +kernel, by decide +kernel⟩, List.mem_of_getElem? (i := 218) (by decide +kernel), List.mem_of_getElem? (i := 516) (by decide +kernel), List.mem_of_getElem? (i := 517) (by decide +kernel)⟩
theorem lw_p14 : lw_okq (⟨"UnheardBells$Orders", "shapeOf", "(I)Ljava/lang/String;"⟩, 4) := ⟨⟨by decide +kernel, by decide +kernel⟩, List.mem_of_getElem? (i := 218) (by decide +kernel), List.mem_of_getElem? (i := 525) (by decide +kernel), List.mem_of_getElem? (i := 526) (by decide +kernel)⟩
theorem lw_p15 : lw_okq (⟨"UnheardBells$Orders", "readNumber", "(LUnheardBells$Text;CI)Z"⟩, 4) := ⟨⟨by decide +kernel, by decide +kernel⟩, List.mem_of_getElem? (i := 218) (by decide +kernel), List.mem_of_getElem? (i := 592) (by decide +kernel), List.mem_of_getElem? (i := 593) (by decide +kernel)⟩
def lw_privs_1 : List (MethodName × Nat) := [(⟨"UnheardBells$History", "rowAt", "(I)LUnheardBells$Tower;"⟩, 3), (⟨"UnheardBells", "bringRope", "(I)I"⟩, 9), (⟨"UnheardBells", "refuse", "(II)I"⟩, 9), (⟨"UnheardBells", "settle", "(I)I"⟩, 9), (⟨"UnheardBells", "switchSensor", "(II)I"⟩, 9), (⟨"UnheardBells", "oilRope", "(II)I"⟩, 9), (⟨"UnheardBells", "letWait", "(III)I"⟩, 9), (⟨"UnheardBells$Pulls", "isAheadOf", "(IIII)Z"⟩, 4), (⟨"UnheardBells$Pulls", "carry", "(II)V"⟩, 4), (⟨"UnheardBells", "ringNext", "()I"⟩, 9), (⟨"UnheardBells$Tower", "miss", "(I)V"⟩, 12), (⟨"UnheardBells$Tower", "answer", "(II)V"⟩, 12), (⟨"UnheardBells", "ringHour", "()I"⟩, 9), (⟨"UnheardBells$Orders", "readOrder", "(LUnheardBells$Text;)Z"⟩, 4), (⟨"UnheardBells$Orders", "shapeOf", "(I)Ljava/lang/String;"⟩, 4), (⟨"UnheardBells$Orders", "readNumber", "(LUnheardBells$Text;CI)Z"⟩, 4)]
theorem lw_r1 : ∀ q ∈ lw_privs_1, lw_okq q := List.forall_mem_cons.mpr ⟨lw_p0, List.forall_mem_cons.mpr ⟨lw_p1, List.forall_mem_cons.mpr ⟨lw_p2, List.forall_mem_cons.mpr ⟨lw_p3, List.forall_mem_cons.mpr ⟨lw_p4, List.forall_mem_cons.mpr ⟨lw_p5, List.forall_mem_cons.mpr ⟨lw_p6, List.forall_mem_cons.mpr ⟨lw_p7, List.forall_mem_cons.mpr ⟨lw_p8, List.forall_mem_cons.mpr ⟨lw_p9, List.forall_mem_cons.mpr ⟨lw_p10, List.forall_mem_cons.mpr ⟨lw_p11, List.forall_mem_cons.mpr ⟨lw_p12, List.forall_mem_cons.mpr ⟨lw_p13, List.forall_mem_cons.mpr ⟨lw_p14, List.forall_mem_cons.mpr ⟨lw_p15, fun _ h => absurd h List.not_mem_nil⟩⟩⟩⟩⟩⟩⟩⟩⟩⟩⟩⟩⟩⟩⟩⟩
theorem lw_p16 : lw_okq (⟨"UnheardBells$Orders", "readSign", "(LUnheardBells$Text;I)Z"⟩, 4) := ⟨⟨by decide +kernel, by decide +kernel⟩, List.mem_of_getElem? (i := 218) (by decide +kernel), List.mem_of_getElem? (i := 596) (by decide +kernel), List.mem_of_getElem? (i := 597) (by decide +kernel)⟩
theorem lw_p17 : lw_okq (⟨"UnheardBells", "carryOut", "(I)I"⟩, 9) := ⟨⟨by decide +kernel, by decide +kernel⟩, List.mem_of_getElem? (i := 23) (by decide +kernel), List.mem_of_getElem? (i := 603) (by decide +kernel), List.mem_of_getElem? (i := 604) (by decide +kernel)⟩
theorem lw_p18 : lw_okq (⟨"UnheardBells", "giveRope", "(II)I"⟩, 9) := ⟨⟨by decide +kernel, by decide +kernel⟩, List.mem_of_getElem? (i := 23) (by decide +kernel), List.mem_of_getElem? (i := 612) (by decide +kernel), List.mem_of_getElem? (i := 613) (by decide +kernel)⟩
theorem lw_p19 : lw_okq (⟨"UnheardBells", "takeAway", "(I)I"⟩, 9) := ⟨⟨by decide +kernel, by decide +kernel⟩, List.mem_of_getElem? (i := 23) (by decide +kernel), List.mem_of_getElem? (i := 616) (by decide +kernel), List.mem_of_getElem? (i := 617) (by decide +kernel)⟩
theorem lw_p20 : lw_okq (⟨"UnheardBells$Tower", "heardToday", "()I"⟩, 12) := ⟨⟨by decide +kernel, by decide +kernel⟩, List.mem_of_getElem? (i := 31) (by decide +kernel), List.mem_of_getElem? (i := 638) (by decide +kernel), List.mem_of_getElem? (i := 639) (by decide +kernel)⟩
theorem lw_p21 : lw_okq (⟨"UnheardBells", "arePullsAccountedFor", "()Z"⟩, 9) := ⟨⟨by decide +kernel, by decide +kernel⟩, List.mem_of_getElem? (i := 23) (by decide +kernel), List.mem_of_getElem? (i := 669) (by decide +kernel), List.mem_of_getElem? (i := 670) (by decide +kernel)⟩
theorem lw_p22 : lw_okq (⟨"UnheardBells", "areRopesAccountedFor", "()Z"⟩, 9) := ⟨⟨by decide +kernel, by decide +kernel⟩, List.mem_of_getElem? (i := 23) (by decide +kernel), List.mem_of_getElem? (i := 673) (by decide +kernel), List.mem_of_getElem? (i := 674) (by decide +kernel)⟩
theorem lw_p23 : lw_okq (⟨"UnheardBells$Tower", "hoursOf", "(I)I"⟩, 12) := ⟨⟨by decide +kernel, by decide +kernel⟩, List.mem_of_getElem? (i := 31) (by decide +kernel), List.mem_of_getElem? (i := 691) (by decide +kernel), List.mem_of_getElem? (i := 692) (by decide +kernel)⟩
theorem lw_p24 : lw_okq (⟨"UnheardBells", "areGuessesTheSame", "()Z"⟩, 9) := ⟨⟨by decide +kernel, by decide +kernel⟩, List.mem_of_getElem? (i := 23) (by decide +kernel), List.mem_of_getElem? (i := 696) (by decide +kernel), List.mem_of_getElem? (i := 697) (by decide +kernel)⟩
theorem lw_p25 : lw_okq (⟨"UnheardBells$Ropes", "isGreaterShare", "(III)Z"⟩, 7) := ⟨⟨by decide +kernel, by decide +kernel⟩, List.mem_of_getElem? (i := 37) (by decide +kernel), List.mem_of_getElem? (i := 709) (by decide +kernel), List.mem_of_getElem? (i := 710) (by decide +kernel)⟩
theorem lw_p26 : lw_okq (⟨"UnheardBells$Ropes", "neighbours", "(II)I"⟩, 7) := ⟨⟨by decide +kernel, by decide +kernel⟩, List.mem_of_getElem? (i := 37) (by decide +kernel), List.mem_of_getElem? (i := 713) (by decide +kernel), List.mem_of_getElem? (i := 714) (by decide +kernel)⟩
theorem lw_p27 : lw_okq (⟨"UnheardBells", "tellRope", "(I)V"⟩, 9) := ⟨⟨by decide +kernel, by decide +kernel⟩, List.mem_of_getElem? (i := 23) (by decide +kernel), List.mem_of_getElem? (i := 917) (by decide +kernel), List.mem_of_getElem? (i := 918) (by decide +kernel)⟩
theorem lw_p28 : lw_okq (⟨"UnheardBells", "tellPulls", "(I)V"⟩, 9) := ⟨⟨by decide +kernel, by decide +kernel⟩, List.mem_of_getElem? (i := 23) (by decide +kernel), List.mem_of_getElem? (i := 932) (by decide +kernel), List.mem_of_getElem? (i := 933) (by decide +kernel)⟩
theorem lw_p29 : lw_okq (⟨"UnheardBells$Ropes", "isRustier", "(II)Z"⟩, 7) := ⟨⟨by decide +kernel, by decide +kernel⟩, List.mem_of_getElem? (i := 37) (by decide +kernel), List.mem_of_getElem? (i := 1072) (by decide +kernel), List.mem_of_getElem? (i := 1073) (by decide +kernel)⟩
theorem lw_p30 : lw_okq (⟨"UnheardBells", "hoursGuessed", "(I)I"⟩, 9) := ⟨⟨by decide +kernel, by decide +kernel⟩, List.mem_of_getElem? (i := 23) (by decide +kernel), List.mem_of_getElem? (i := 1108) (by decide +kernel), List.mem_of_getElem? (i := 1109) (by decide +kernel)⟩
theorem lw_p31 : lw_okq (⟨"UnheardBells$Ropes", "isAhead", "(II)Z"⟩, 7) := ⟨⟨by decide +kernel, by decide +kernel⟩, List.mem_of_getElem? (i := 37) (by decide +kernel), List.mem_of_getElem? (i := 1120) (by decide +kernel), List.mem_of_getElem? (i := 1121) (by decide +kernel)⟩
def lw_privs_2 : List (MethodName × Nat) := [(⟨"UnheardBells$Orders", "readSign", "(LUnheardBells$Text;I)Z"⟩, 4), (⟨"UnheardBells", "carryOut", "(I)I"⟩, 9), (⟨"UnheardBells", "giveRope", "(II)I"⟩, 9), (⟨"UnheardBells", "takeAway", "(I)I"⟩, 9), (⟨"UnheardBells$Tower", "heardToday", "()I"⟩, 12), (⟨"UnheardBells", "arePullsAccountedFor", "()Z"⟩, 9), (⟨"UnheardBells", "areRopesAccountedFor", "()Z"⟩, 9), (⟨"UnheardBells$Tower", "hoursOf", "(I)I"⟩, 12), (⟨"UnheardBells", "areGuessesTheSame", "()Z"⟩, 9), (⟨"UnheardBells$Ropes", "isGreaterShare", "(III)Z"⟩, 7), (⟨"UnheardBells$Ropes", "neighbours", "(II)I"⟩, 7), (⟨"UnheardBells", "tellRope", "(I)V"⟩, 9), (⟨"UnheardBells", "tellPulls", "(I)V"⟩, 9), (⟨"UnheardBells$Ropes", "isRustier", "(II)Z"⟩, 7), (⟨"UnheardBells", "hoursGuessed", "(I)I"⟩, 9), (⟨"UnheardBells$Ropes", "isAhead", "(II)Z"⟩, 7)]
theorem lw_r2 : ∀ q ∈ lw_privs_2, lw_okq q := List.forall_mem_cons.mpr ⟨lw_p16, List.forall_mem_cons.mpr ⟨lw_p17, List.forall_mem_cons.mpr ⟨lw_p18, List.forall_mem_cons.mpr ⟨lw_p19, List.forall_mem_cons.mpr ⟨lw_p20, List.forall_mem_cons.mpr ⟨lw_p21, List.forall_mem_cons.mpr ⟨lw_p22, List.forall_mem_cons.mpr ⟨lw_p23, List.forall_mem_cons.mpr ⟨lw_p24, List.forall_mem_cons.mpr ⟨lw_p25, List.forall_mem_cons.mpr ⟨lw_p26, List.forall_mem_cons.mpr ⟨lw_p27, List.forall_mem_cons.mpr ⟨lw_p28, List.forall_mem_cons.mpr ⟨lw_p29, List.forall_mem_cons.mpr ⟨lw_p30, List.forall_mem_cons.mpr ⟨lw_p31, fun _ h => absurd h List.not_mem_nil⟩⟩⟩⟩⟩⟩⟩⟩⟩⟩⟩⟩⟩⟩⟩⟩
theorem lw_p32 : lw_okq (⟨"UnheardBells", "tellHour", "(I)V"⟩, 9) := ⟨⟨by decide +kernel, by decide +kernel⟩, List.mem_of_getElem? (i := 23) (by decide +kernel), List.mem_of_getElem? (i := 1129) (by decide +kernel), List.mem_of_getElem? (i := 1130) (by decide +kernel)⟩
def lw_privs_3 : List (MethodName × Nat) := [(⟨"UnheardBells", "tellHour", "(I)V"⟩, 9)]
theorem lw_r3 : ∀ q ∈ lw_privs_3, lw_okq q := List.forall_mem_cons.mpr ⟨lw_p32, fun _ h => absurd h List.not_mem_nil⟩
def lw_privs : List (MethodName × Nat) := lw_privs_1 ++ (lw_privs_2 ++ (lw_privs_3))
def lw_tbl : List Cond := k2_sels lw_privs ++ tables_1
theorem lw_privs_ok : ∀ q ∈ lw_privs, lw_okq q := by
  show ∀ q ∈ lw_privs_1 ++ (lw_privs_2 ++ (lw_privs_3)), lw_okq q
  exact List.forall_mem_append.mpr ⟨lw_r1, List.forall_mem_append.mpr ⟨lw_r2, lw_r3⟩⟩
/-- the streams that the claim lets the run draw from -/
abbrev lw_cs : List Choice := [Jvm.Choice.named "NaN.bits"]
theorem lw_bits : nanBits ∈ lw_cs := by first | decide | exact List.mem_cons_self | simp [lw_cs, nanBits]
-- ===== end of PART A; then your names; then what follows =====
/-! ===== BEGIN words of one list among another's, by their places ===== -/
theorem goodIn_r {big : List Cond} (ws : List Cond) (ps : List Nat) (hp : ws = ps.filterMap (fun i => big[i]?)) (h : ws.all goodWord = true) : GoodIn big ws := by
  intro w hw
  have h1 := List.all_eq_true.mp h w hw
  rw [hp] at hw
  obtain ⟨i, -, hi⟩ := List.mem_filterMap.mp hw
  have hm : w ∈ big := by first | exact List.mem_of_getElem? hi | exact List.getElem?_mem hi
  exact ⟨hm, good_of_word h1⟩
theorem goodIn_app {big a b : List Cond} (ha : GoodIn big a) (hb : GoodIn big b) : GoodIn big (a ++ b) := fun w h => (List.mem_append.mp h).elim (ha w) (hb w)
theorem goodIn_ca {big a b : List Cond} {c : Cond} (ha : GoodIn big (c :: a)) (hb : GoodIn big b) : GoodIn big (c :: (a ++ b)) := fun w h => (List.mem_cons.mp h).elim (fun e => ha w (List.mem_cons.mpr (Or.inl e))) (fun h => (List.mem_append.mp h).elim (fun h => ha w (List.mem_cons.mpr (Or.inr h))) (hb w))
theorem goodIn_sub {big ws : List Cond} (hm : ∀ w ∈ ws, w ∈ big) (h : ws.all goodWord = true) : GoodIn big ws := fun w hw => ⟨hm w hw, good_of_word (List.all_eq_true.mp h w hw)⟩
/-! ===== END ===== -/

/-! ===== BEGIN printed: names, fields, word lists, decode rows ===== -/
def RX0 : String := "UnheardBells$Answers"
def TX0 : u_T := fun k => match k with
  | 0 => ("UnheardBells$Answers", "number", "I", false)
  | 1 => ("UnheardBells$Answers", "latest", "I", false)
  | 2 => ("UnheardBells$Answers", "rope", "[I", true)
  | 3 => ("UnheardBells$Answers", "hour", "[I", true)
  | 4 => ("UnheardBells$Answers", "day", "[I", true)
  | _ => ("UnheardBells$Answers", "strength", "[I", true)
def tyX0 : Nat → FieldType := fun k => match k with
  | 0 => .int
  | 1 => .int
  | 2 => .array .int
  | 3 => .array .int
  | 4 => .array .int
  | _ => .array .int
abbrev wsX00 : List Cond := u_ws RX0 TX0 6
theorem nmX0 : ∀ a, a < 6 → ∀ b, b < 6 → a ≠ b → (TX0 a).2.1 ≠ (TX0 b).2.1 := by decide +kernel
theorem tyX0_ok : ∀ k, k < 6 → parseFieldDescriptor (TX0 k).2.2.1 = some (tyX0 k) := by decide +kernel
abbrev cX0_init : ByteArray := prog_2_method_1_code
def yX0_init : MethodName := ⟨RX0, "<init>", "()V"⟩
abbrev cX0_copyFrom : ByteArray := prog_2_method_2_code
def yX0_copyFrom : MethodName := ⟨RX0, "copyFrom", "(LUnheardBells$Answers;)V"⟩
abbrev cX0_has : ByteArray := prog_2_method_3_code
def yX0_has : MethodName := ⟨RX0, "has", "(I)Z"⟩
abbrev cX0_indexOf : ByteArray := prog_2_method_4_code
def yX0_indexOf : MethodName := ⟨RX0, "indexOf", "(I)I"⟩
abbrev cX0_remember : ByteArray := prog_2_method_5_code
def yX0_remember : MethodName := ⟨RX0, "remember", "(IIII)V"⟩
def RX1 : String := "UnheardBells$History"
def TX1 : u_T := fun k => match k with
  | 0 => ("UnheardBells$History", "number", "I", false)
  | 1 => ("UnheardBells$History", "free", "I", false)
  | _ => ("UnheardBells$History", "rows", "[LUnheardBells$Tower;", true)
def tyX1 : Nat → FieldType := fun k => match k with
  | 0 => .int
  | 1 => .int
  | _ => .array (.object "UnheardBells$Tower")
abbrev wsX10 : List Cond := u_ws RX1 TX1 3
theorem nmX1 : ∀ a, a < 3 → ∀ b, b < 3 → a ≠ b → (TX1 a).2.1 ≠ (TX1 b).2.1 := by decide +kernel
theorem tyX1_ok : ∀ k, k < 3 → parseFieldDescriptor (TX1 k).2.2.1 = some (tyX1 k) := by decide +kernel
abbrev cX1_init : ByteArray := prog_3_method_1_code
def yX1_init : MethodName := ⟨RX1, "<init>", "()V"⟩
abbrev cX1_rowAt : ByteArray := prog_3_method_2_code
def yX1_rowAt : MethodName := ⟨RX1, "rowAt", "(I)LUnheardBells$Tower;"⟩
abbrev cX1_note : ByteArray := prog_3_method_3_code
def yX1_note : MethodName := ⟨RX1, "note", "(LUnheardBells$Tower;)V"⟩
abbrev cX1_takeBack : ByteArray := prog_3_method_4_code
def yX1_takeBack : MethodName := ⟨RX1, "takeBack", "(LUnheardBells$Tower;)V"⟩
abbrev cX1_keep : ByteArray := prog_3_method_5_code
def yX1_keep : MethodName := ⟨RX1, "keep", "()V"⟩
abbrev cX1_stepBack : ByteArray := prog_3_method_6_code
def yX1_stepBack : MethodName := ⟨RX1, "stepBack", "(LUnheardBells$Tower;)Z"⟩
def RX2 : String := "UnheardBells$Line"
def TX2 : u_T := fun k => match k with
  | 0 => ("UnheardBells$Line", "length", "I", false)
  | _ => ("UnheardBells$Line", "codes", "[I", true)
def tyX2 : Nat → FieldType := fun k => match k with
  | 0 => .int
  | _ => .array .int
abbrev wsX20 : List Cond := u_ws RX2 TX2 2
theorem nmX2 : ∀ a, a < 2 → ∀ b, b < 2 → a ≠ b → (TX2 a).2.1 ≠ (TX2 b).2.1 := by decide +kernel
theorem tyX2_ok : ∀ k, k < 2 → parseFieldDescriptor (TX2 k).2.2.1 = some (tyX2 k) := by decide +kernel
abbrev cX2_init : ByteArray := prog_4_method_1_code
def yX2_init : MethodName := ⟨RX2, "<init>", "()V"⟩
abbrev cX2_write : ByteArray := prog_4_method_2_code
def yX2_write : MethodName := ⟨RX2, "write", "(I)V"⟩
abbrev cX2_writeNumber : ByteArray := prog_4_method_3_code
def yX2_writeNumber : MethodName := ⟨RX2, "writeNumber", "(I)V"⟩
def RX3 : String := "UnheardBells$Orders"
def TX3 : u_T := fun k => match k with
  | 0 => ("UnheardBells$Orders", "number", "I", false)
  | 1 => ("UnheardBells$Orders", "kinds", "[I", true)
  | 2 => ("UnheardBells$Orders", "numbers", "[I", true)
  | _ => ("UnheardBells$Orders", "position", "I", false)
def tyX3 : Nat → FieldType := fun k => match k with
  | 0 => .int
  | 1 => .array .int
  | 2 => .array .int
  | _ => .int
abbrev wsX30 : List Cond := u_ws RX3 TX3 4
theorem nmX3 : ∀ a, a < 4 → ∀ b, b < 4 → a ≠ b → (TX3 a).2.1 ≠ (TX3 b).2.1 := by decide +kernel
theorem tyX3_ok : ∀ k, k < 4 → parseFieldDescriptor (TX3 k).2.2.1 = some (tyX3 k) := by decide +kernel
abbrev cX3_init : ByteArray := prog_5_method_1_code
def yX3_init : MethodName := ⟨RX3, "<init>", "()V"⟩
abbrev cX3_numberAt : ByteArray := prog_5_method_2_code
def yX3_numberAt : MethodName := ⟨RX3, "numberAt", "(II)I"⟩
abbrev cX3_read : ByteArray := prog_5_method_3_code
def yX3_read : MethodName := ⟨RX3, "read", "(LUnheardBells$Text;)I"⟩
abbrev cX3_readOrder : ByteArray := prog_5_method_4_code
def yX3_readOrder : MethodName := ⟨RX3, "readOrder", "(LUnheardBells$Text;)Z"⟩
abbrev cX3_shapeOf : ByteArray := prog_5_method_5_code
def yX3_shapeOf : MethodName := ⟨RX3, "shapeOf", "(I)Ljava/lang/String;"⟩
abbrev cX3_readSign : ByteArray := prog_5_method_6_code
def yX3_readSign : MethodName := ⟨RX3, "readSign", "(LUnheardBells$Text;I)Z"⟩
abbrev cX3_readNumber : ByteArray := prog_5_method_7_code
def yX3_readNumber : MethodName := ⟨RX3, "readNumber", "(LUnheardBells$Text;CI)Z"⟩
def RX4 : String := "UnheardBells$Pulls"
def TX4 : u_T := fun k => match k with
  | 0 => ("UnheardBells$Pulls", "number", "I", false)
  | 1 => ("UnheardBells$Pulls", "rope", "[I", true)
  | 2 => ("UnheardBells$Pulls", "hour", "[I", true)
  | _ => ("UnheardBells$Pulls", "strength", "[I", true)
def tyX4 : Nat → FieldType := fun k => match k with
  | 0 => .int
  | 1 => .array .int
  | 2 => .array .int
  | _ => .array .int
abbrev wsX40 : List Cond := u_ws RX4 TX4 4
theorem nmX4 : ∀ a, a < 4 → ∀ b, b < 4 → a ≠ b → (TX4 a).2.1 ≠ (TX4 b).2.1 := by decide +kernel
theorem tyX4_ok : ∀ k, k < 4 → parseFieldDescriptor (TX4 k).2.2.1 = some (tyX4 k) := by decide +kernel
abbrev cX4_init : ByteArray := prog_6_method_1_code
def yX4_init : MethodName := ⟨RX4, "<init>", "()V"⟩
abbrev cX4_copyFrom : ByteArray := prog_6_method_2_code
def yX4_copyFrom : MethodName := ⟨RX4, "copyFrom", "(LUnheardBells$Pulls;)V"⟩
abbrev cX4_has : ByteArray := prog_6_method_3_code
def yX4_has : MethodName := ⟨RX4, "has", "(I)Z"⟩
abbrev cX4_isNextAt : ByteArray := prog_6_method_4_code
def yX4_isNextAt : MethodName := ⟨RX4, "isNextAt", "(I)Z"⟩
abbrev cX4_numberOf : ByteArray := prog_6_method_5_code
def yX4_numberOf : MethodName := ⟨RX4, "numberOf", "(I)I"⟩
abbrev cX4_numberIn : ByteArray := prog_6_method_6_code
def yX4_numberIn : MethodName := ⟨RX4, "numberIn", "(I)I"⟩
abbrev cX4_insert : ByteArray := prog_6_method_7_code
def yX4_insert : MethodName := ⟨RX4, "insert", "(III)I"⟩
abbrev cX4_isAheadOf : ByteArray := prog_6_method_8_code
def yX4_isAheadOf : MethodName := ⟨RX4, "isAheadOf", "(IIII)Z"⟩
abbrev cX4_carry : ByteArray := prog_6_method_9_code
def yX4_carry : MethodName := ⟨RX4, "carry", "(II)V"⟩
abbrev cX4_removeFirst : ByteArray := prog_6_method_10_code
def yX4_removeFirst : MethodName := ⟨RX4, "removeFirst", "()V"⟩
abbrev cX4_removeAllOf : ByteArray := prog_6_method_11_code
def yX4_removeAllOf : MethodName := ⟨RX4, "removeAllOf", "(I)V"⟩
def RX5 : String := "UnheardBells$Ropes"
def TX5 : u_T := fun k => match k with
  | 0 => ("UnheardBells$Ropes", "number", "I", false)
  | 1 => ("UnheardBells$Ropes", "parish", "[I", true)
  | 2 => ("UnheardBells$Ropes", "isOn", "[I", true)
  | 3 => ("UnheardBells$Ropes", "rust", "[I", true)
  | 4 => ("UnheardBells$Ropes", "answers", "[I", true)
  | 5 => ("UnheardBells$Ropes", "misses", "[I", true)
  | _ => ("UnheardBells$Ropes", "doubles", "[I", true)
def tyX5 : Nat → FieldType := fun k => match k with
  | 0 => .int
  | 1 => .array .int
  | 2 => .array .int
  | 3 => .array .int
  | 4 => .array .int
  | 5 => .array .int
  | _ => .array .int
abbrev wsX50 : List Cond := u_ws RX5 TX5 7
theorem nmX5 : ∀ a, a < 7 → ∀ b, b < 7 → a ≠ b → (TX5 a).2.1 ≠ (TX5 b).2.1 := by decide +kernel
theorem tyX5_ok : ∀ k, k < 7 → parseFieldDescriptor (TX5 k).2.2.1 = some (tyX5 k) := by decide +kernel
abbrev cX5_init : ByteArray := prog_7_method_1_code
def yX5_init : MethodName := ⟨RX5, "<init>", "()V"⟩
abbrev cX5_copyFrom : ByteArray := prog_7_method_2_code
def yX5_copyFrom : MethodName := ⟨RX5, "copyFrom", "(LUnheardBells$Ropes;)V"⟩
abbrev cX5_has : ByteArray := prog_7_method_3_code
def yX5_has : MethodName := ⟨RX5, "has", "(I)Z"⟩
abbrev cX5_bring : ByteArray := prog_7_method_4_code
def yX5_bring : MethodName := ⟨RX5, "bring", "(I)I"⟩
abbrev cX5_isEnough : ByteArray := prog_7_method_5_code
def yX5_isEnough : MethodName := ⟨RX5, "isEnough", "(II)Z"⟩
abbrev cX5_becomeRustier : ByteArray := prog_7_method_6_code
def yX5_becomeRustier : MethodName := ⟨RX5, "becomeRustier", "(I)V"⟩
abbrev cX5_loseRust : ByteArray := prog_7_method_7_code
def yX5_loseRust : MethodName := ⟨RX5, "loseRust", "(I)V"⟩
abbrev cX5_setOfAll : ByteArray := prog_7_method_8_code
def yX5_setOfAll : MethodName := ⟨RX5, "setOfAll", "()I"⟩
abbrev cX5_setOf : ByteArray := prog_7_method_9_code
def yX5_setOf : MethodName := ⟨RX5, "setOf", "(I)I"⟩
abbrev cX5_sumOf : ByteArray := prog_7_method_10_code
def yX5_sumOf : MethodName := ⟨RX5, "sumOf", "([II)I"⟩
abbrev cX5_placeByRust : ByteArray := prog_7_method_11_code
def yX5_placeByRust : MethodName := ⟨RX5, "placeByRust", "(I)I"⟩
abbrev cX5_isRustier : ByteArray := prog_7_method_12_code
def yX5_isRustier : MethodName := ⟨RX5, "isRustier", "(II)Z"⟩
abbrev cX5_placeByAnswers : ByteArray := prog_7_method_13_code
def yX5_placeByAnswers : MethodName := ⟨RX5, "placeByAnswers", "(I)I"⟩
abbrev cX5_isAhead : ByteArray := prog_7_method_14_code
def yX5_isAhead : MethodName := ⟨RX5, "isAhead", "(II)Z"⟩
abbrev cX5_guessByParishes : ByteArray := prog_7_method_15_code
def yX5_guessByParishes : MethodName := ⟨RX5, "guessByParishes", "(I)I"⟩
abbrev cX5_guessByRopes : ByteArray := prog_7_method_16_code
def yX5_guessByRopes : MethodName := ⟨RX5, "guessByRopes", "(I)I"⟩
abbrev cX5_isGreaterShare : ByteArray := prog_7_method_17_code
def yX5_isGreaterShare : MethodName := ⟨RX5, "isGreaterShare", "(III)Z"⟩
abbrev cX5_neighbours : ByteArray := prog_7_method_18_code
def yX5_neighbours : MethodName := ⟨RX5, "neighbours", "(II)I"⟩
def RX6 : String := "UnheardBells$Text"
def TX6 : u_T := fun k => match k with
  | 0 => ("UnheardBells$Text", "length", "I", false)
  | _ => ("UnheardBells$Text", "codes", "[I", true)
def tyX6 : Nat → FieldType := fun k => match k with
  | 0 => .int
  | _ => .array .int
abbrev wsX60 : List Cond := u_ws RX6 TX6 2
theorem nmX6 : ∀ a, a < 2 → ∀ b, b < 2 → a ≠ b → (TX6 a).2.1 ≠ (TX6 b).2.1 := by decide +kernel
theorem tyX6_ok : ∀ k, k < 2 → parseFieldDescriptor (TX6 k).2.2.1 = some (tyX6 k) := by decide +kernel
abbrev cX6_init : ByteArray := prog_8_method_1_code
def yX6_init : MethodName := ⟨RX6, "<init>", "()V"⟩
abbrev cX6_codeAt : ByteArray := prog_8_method_3_code
def yX6_codeAt : MethodName := ⟨RX6, "codeAt", "(I)I"⟩
def RX7 : String := "UnheardBells$Tower"
def TX7 : u_T := fun k => match k with
  | 0 => ("UnheardBells$Tower", "ropes", "LUnheardBells$Ropes;", true)
  | 1 => ("UnheardBells$Tower", "pulls", "LUnheardBells$Pulls;", true)
  | 2 => ("UnheardBells$Tower", "remembered", "LUnheardBells$Answers;", true)
  | 3 => ("UnheardBells$Tower", "ringers", "[I", true)
  | 4 => ("UnheardBells$Tower", "hour", "I", false)
  | 5 => ("UnheardBells$Tower", "day", "I", false)
  | 6 => ("UnheardBells$Tower", "came", "I", false)
  | 7 => ("UnheardBells$Tower", "rung", "I", false)
  | 8 => ("UnheardBells$Tower", "answers", "I", false)
  | 9 => ("UnheardBells$Tower", "misses", "I", false)
  | 10 => ("UnheardBells$Tower", "doubles", "I", false)
  | _ => ("UnheardBells$Tower", "takenAway", "I", false)
def tyX7 : Nat → FieldType := fun k => match k with
  | 0 => .object "UnheardBells$Ropes"
  | 1 => .object "UnheardBells$Pulls"
  | 2 => .object "UnheardBells$Answers"
  | 3 => .array .int
  | 4 => .int
  | 5 => .int
  | 6 => .int
  | 7 => .int
  | 8 => .int
  | 9 => .int
  | 10 => .int
  | _ => .int
abbrev wsX70 : List Cond := u_ws RX7 TX7 12
theorem nmX7 : ∀ a, a < 12 → ∀ b, b < 12 → a ≠ b → (TX7 a).2.1 ≠ (TX7 b).2.1 := by decide +kernel
theorem tyX7_ok : ∀ k, k < 12 → parseFieldDescriptor (TX7 k).2.2.1 = some (tyX7 k) := by decide +kernel
abbrev cX7_init : ByteArray := prog_9_method_1_code
def yX7_init : MethodName := ⟨RX7, "<init>", "()V"⟩
abbrev cX7_copyFrom : ByteArray := prog_9_method_2_code
def yX7_copyFrom : MethodName := ⟨RX7, "copyFrom", "(LUnheardBells$Tower;)V"⟩
abbrev cX7_ringFirst : ByteArray := prog_9_method_3_code
def yX7_ringFirst : MethodName := ⟨RX7, "ringFirst", "()I"⟩
abbrev cX7_miss : ByteArray := prog_9_method_4_code
def yX7_miss : MethodName := ⟨RX7, "miss", "(I)V"⟩
abbrev cX7_answer : ByteArray := prog_9_method_5_code
def yX7_answer : MethodName := ⟨RX7, "answer", "(II)V"⟩
abbrev cX7_endDay : ByteArray := prog_9_method_6_code
def yX7_endDay : MethodName := ⟨RX7, "endDay", "()I"⟩
abbrev cX7_heardToday : ByteArray := prog_9_method_7_code
def yX7_heardToday : MethodName := ⟨RX7, "heardToday", "()I"⟩
abbrev cX7_answersAhead : ByteArray := prog_9_method_8_code
def yX7_answersAhead : MethodName := ⟨RX7, "answersAhead", "(I)I"⟩
abbrev cX7_hoursOf : ByteArray := prog_9_method_9_code
def yX7_hoursOf : MethodName := ⟨RX7, "hoursOf", "(I)I"⟩
def RX8 : String := "UnheardBells"
def TX8 : u_T := fun k => match k with
  | 0 => ("UnheardBells", "now", "LUnheardBells$Tower;", true)
  | 1 => ("UnheardBells", "trial", "LUnheardBells$Tower;", true)
  | 2 => ("UnheardBells", "history", "LUnheardBells$History;", true)
  | 3 => ("UnheardBells", "text", "LUnheardBells$Text;", true)
  | 4 => ("UnheardBells", "orders", "LUnheardBells$Orders;", true)
  | 5 => ("UnheardBells", "line", "LUnheardBells$Line;", true)
  | 6 => ("UnheardBells", "snapshot", "LUnheardBells$Tower;", false)
  | 7 => ("UnheardBells", "lastReason", "I", false)
  | _ => ("UnheardBells", "lastDetail", "I", false)
def tyX8 : Nat → FieldType := fun k => match k with
  | 0 => .object "UnheardBells$Tower"
  | 1 => .object "UnheardBells$Tower"
  | 2 => .object "UnheardBells$History"
  | 3 => .object "UnheardBells$Text"
  | 4 => .object "UnheardBells$Orders"
  | 5 => .object "UnheardBells$Line"
  | 6 => .object "UnheardBells$Tower"
  | 7 => .int
  | _ => .int
abbrev wsX80 : List Cond := u_ws RX8 TX8 9
theorem nmX8 : ∀ a, a < 9 → ∀ b, b < 9 → a ≠ b → (TX8 a).2.1 ≠ (TX8 b).2.1 := by decide +kernel
theorem tyX8_ok : ∀ k, k < 9 → parseFieldDescriptor (TX8 k).2.2.1 = some (tyX8 k) := by decide +kernel
abbrev cX8_init : ByteArray := prog_1_method_1_code
def yX8_init : MethodName := ⟨RX8, "<init>", "()V"⟩
abbrev cX8_rope : ByteArray := prog_1_method_2_code
def yX8_rope : MethodName := ⟨RX8, "rope", "(I)I"⟩
abbrev cX8_move : ByteArray := prog_1_method_3_code
def yX8_move : MethodName := ⟨RX8, "move", "(II)I"⟩
abbrev cX8_sensor : ByteArray := prog_1_method_4_code
def yX8_sensor : MethodName := ⟨RX8, "sensor", "(II)I"⟩
abbrev cX8_oil : ByteArray := prog_1_method_5_code
def yX8_oil : MethodName := ⟨RX8, "oil", "(II)I"⟩
abbrev cX8_ropeOf : ByteArray := prog_1_method_6_code
def yX8_ropeOf : MethodName := ⟨RX8, "ropeOf", "(II)I"⟩
abbrev cX8_pull : ByteArray := prog_1_method_7_code
def yX8_pull : MethodName := ⟨RX8, "pull", "(III)I"⟩
abbrev cX8_cancel : ByteArray := prog_1_method_8_code
def yX8_cancel : MethodName := ⟨RX8, "cancel", "(I)I"⟩
abbrev cX8_ring : ByteArray := prog_1_method_9_code
def yX8_ring : MethodName := ⟨RX8, "ring", "()I"⟩
abbrev cX8_hour : ByteArray := prog_1_method_10_code
def yX8_hour : MethodName := ⟨RX8, "hour", "()I"⟩
abbrev cX8_end : ByteArray := prog_1_method_11_code
def yX8_end : MethodName := ⟨RX8, "end", "()I"⟩
abbrev cX8_waiting : ByteArray := prog_1_method_12_code
def yX8_waiting : MethodName := ⟨RX8, "waiting", "(II)I"⟩
abbrev cX8_would : ByteArray := prog_1_method_13_code
def yX8_would : MethodName := ⟨RX8, "would", "(II)I"⟩
abbrev cX8_forecast : ByteArray := prog_1_method_14_code
def yX8_forecast : MethodName := ⟨RX8, "forecast", "()I"⟩
abbrev cX8_forecastAgain : ByteArray := prog_1_method_15_code
def yX8_forecastAgain : MethodName := ⟨RX8, "forecastAgain", "()I"⟩
abbrev cX8_answerOf : ByteArray := prog_1_method_16_code
def yX8_answerOf : MethodName := ⟨RX8, "answerOf", "(II)I"⟩
abbrev cX8_answered : ByteArray := prog_1_method_17_code
def yX8_answered : MethodName := ⟨RX8, "answered", "(I)I"⟩
abbrev cX8_guess : ByteArray := prog_1_method_18_code
def yX8_guess : MethodName := ⟨RX8, "guess", "(I)I"⟩
abbrev cX8_guessAgain : ByteArray := prog_1_method_19_code
def yX8_guessAgain : MethodName := ⟨RX8, "guessAgain", "(I)I"⟩
abbrev cX8_parishOf : ByteArray := prog_1_method_20_code
def yX8_parishOf : MethodName := ⟨RX8, "parishOf", "(II)I"⟩
abbrev cX8_busiest : ByteArray := prog_1_method_21_code
def yX8_busiest : MethodName := ⟨RX8, "busiest", "()I"⟩
abbrev cX8_rustiest : ByteArray := prog_1_method_22_code
def yX8_rustiest : MethodName := ⟨RX8, "rustiest", "(I)I"⟩
abbrev cX8_ranked : ByteArray := prog_1_method_23_code
def yX8_ranked : MethodName := ⟨RX8, "ranked", "(I)I"⟩
abbrev cX8_run : ByteArray := prog_1_method_25_code
def yX8_run : MethodName := ⟨RX8, "run", "()I"⟩
abbrev cX8_tell : ByteArray := prog_1_method_26_code
def yX8_tell : MethodName := ⟨RX8, "tell", "(I)I"⟩
abbrev cX8_tellDay : ByteArray := prog_1_method_27_code
def yX8_tellDay : MethodName := ⟨RX8, "tellDay", "()I"⟩
abbrev cX8_character : ByteArray := prog_1_method_28_code
def yX8_character : MethodName := ⟨RX8, "character", "(I)I"⟩
abbrev cX8_reason : ByteArray := prog_1_method_29_code
def yX8_reason : MethodName := ⟨RX8, "reason", "(Z)I"⟩
abbrev cX8_account : ByteArray := prog_1_method_30_code
def yX8_account : MethodName := ⟨RX8, "account", "(I)I"⟩
abbrev cX8_isBalanced : ByteArray := prog_1_method_31_code
def yX8_isBalanced : MethodName := ⟨RX8, "isBalanced", "()I"⟩
abbrev cX8_meanRust : ByteArray := prog_1_method_32_code
def yX8_meanRust : MethodName := ⟨RX8, "meanRust", "()D"⟩
abbrev cX8_answerShare : ByteArray := prog_1_method_33_code
def yX8_answerShare : MethodName := ⟨RX8, "answerShare", "()F"⟩
abbrev cX8_undo : ByteArray := prog_1_method_34_code
def yX8_undo : MethodName := ⟨RX8, "undo", "()I"⟩
abbrev cX8_save : ByteArray := prog_1_method_35_code
def yX8_save : MethodName := ⟨RX8, "save", "()I"⟩
abbrev cX8_restore : ByteArray := prog_1_method_36_code
def yX8_restore : MethodName := ⟨RX8, "restore", "()I"⟩
abbrev cX8_settle : ByteArray := prog_1_method_37_code
def yX8_settle : MethodName := ⟨RX8, "settle", "(I)I"⟩
abbrev cX8_refuse : ByteArray := prog_1_method_38_code
def yX8_refuse : MethodName := ⟨RX8, "refuse", "(II)I"⟩
abbrev cX8_bringRope : ByteArray := prog_1_method_39_code
def yX8_bringRope : MethodName := ⟨RX8, "bringRope", "(I)I"⟩
abbrev cX8_giveRope : ByteArray := prog_1_method_40_code
def yX8_giveRope : MethodName := ⟨RX8, "giveRope", "(II)I"⟩
abbrev cX8_switchSensor : ByteArray := prog_1_method_41_code
def yX8_switchSensor : MethodName := ⟨RX8, "switchSensor", "(II)I"⟩
abbrev cX8_oilRope : ByteArray := prog_1_method_42_code
