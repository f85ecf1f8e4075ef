/-! ===== BEGIN words of one list among another's, by their places ===== -/
theorem goodIn_r {big : List Cond} (ws : List Cond) (ps : List Nat) (hp : ws = ps.filterMap (fun i => big[i]?)) (h : ws.all goodWord = true) : GoodIn big ws := by
  intro w hw
  have h1 := List.all_eq_true.mp h w hw
  rw [hp] at hw
  obtain ⟨i, -, hi⟩ := List.mem_filterMap.mp hw
  have hm : w ∈ big := by first | exact List.mem_of_getElem? hi | exact List.getElem?_mem hi
  exact ⟨hm, good_of_word h1⟩
theorem goodIn_app {big a b : List Cond} (ha : GoodIn big a) (hb : GoodIn big b) : GoodIn big (a ++ b) := fun w h => (List.mem_append.mp h).elim (ha w) (hb w)
theorem goodIn_ca {big a b : List Cond} {c : Cond} (ha : GoodIn big (c :: a)) (hb : GoodIn big b) : GoodIn big (c :: (a ++ b)) := fun w h => (List.mem_cons.mp h).elim (fun e => ha w (List.mem_cons.mpr (Or.inl e))) (fun h => (List.mem_append.mp h).elim (fun h => ha w (List.mem_cons.mpr (Or.inr h))) (hb w))
theorem goodIn_sub {big ws : List Cond} (hm : ∀ w ∈ ws, w ∈ big) (h : ws.all goodWord = true) : GoodIn big ws := fun w hw => ⟨hm w hw, good_of_word (List.all_eq_true.mp h w hw)⟩
/-! ===== END ===== -/

/-! ===== BEGIN printed: names, fields, word lists, decode rows ===== -/
def RX0 : String := "UnheardBells$Answers"
def TX0 : u_T := fun k => match k with
  | 0 => ("UnheardBells$Answers", "number", "I", false)
  | 1 => ("UnheardBells$Answers", "latest", "I", false)
  | 2 => ("UnheardBells$Answers", "rope", "[I", true)
  | 3 => ("UnheardBells$Answers", "hour", "[I", true)
  | 4 => ("UnheardBells$Answers", "day", "[I", true)
  | _ => ("UnheardBells$Answers", "strength", "[I", true)
def tyX0 : Nat → FieldType := fun k => match k with
  | 0 => .int
  | 1 => .int
  | 2 => .array .int
  | 3 => .array .int
  | 4 => .array .int
  | _ => .array .int
abbrev wsX00 : List Cond := u_ws RX0 TX0 6
theorem nmX0 : ∀ a, a < 6 → ∀ b, b < 6 → a ≠ b → (TX0 a).2.1 ≠ (TX0 b).2.1 := by decide +kernel
theorem tyX0_ok : ∀ k, k < 6 → parseFieldDescriptor (TX0 k).2.2.1 = some (tyX0 k) := by decide +kernel
abbrev cX0_init : ByteArray := prog_2_method_1_code
def yX0_init : MethodName := ⟨RX0, "<init>", "()V"⟩
abbrev cX0_copyFrom : ByteArray := prog_2_method_2_code
def yX0_copyFrom : MethodName := ⟨RX0, "copyFrom", "(LUnheardBells$Answers;)V"⟩
abbrev cX0_has : ByteArray := prog_2_method_3_code
def yX0_has : MethodName := ⟨RX0, "has", "(I)Z"⟩
abbrev cX0_indexOf : ByteArray := prog_2_method_4_code
def yX0_indexOf : MethodName := ⟨RX0, "indexOf", "(I)I"⟩
abbrev cX0_remember : ByteArray := prog_2_method_5_code
def yX0_remember : MethodName := ⟨RX0, "remember", "(IIII)V"⟩
def RX1 : String := "UnheardBells$History"
def TX1 : u_T := fun k => match k with
  | 0 => ("UnheardBells$History", "number", "I", false)
  | 1 => ("UnheardBells$History", "free", "I", false)
  | _ => ("UnheardBells$History", "rows", "[LUnheardBells$Tower;", true)
def tyX1 : Nat → FieldType := fun k => match k with
  | 0 => .int
  | 1 => .int
  | _ => .array (.object "UnheardBells$Tower")
abbrev wsX10 : List Cond := u_ws RX1 TX1 3
theorem nmX1 : ∀ a, a < 3 → ∀ b, b < 3 → a ≠ b → (TX1 a).2.1 ≠ (TX1 b).2.1 := by decide +kernel
theorem tyX1_ok : ∀ k, k < 3 → parseFieldDescriptor (TX1 k).2.2.1 = some (tyX1 k) := by decide +kernel
abbrev cX1_init : ByteArray := prog_3_method_1_code
def yX1_init : MethodName := ⟨RX1, "<init>", "()V"⟩
abbrev cX1_rowAt : ByteArray := prog_3_method_2_code
def yX1_rowAt : MethodName := ⟨RX1, "rowAt", "(I)LUnheardBells$Tower;"⟩
abbrev cX1_note : ByteArray := prog_3_method_3_code
def yX1_note : MethodName := ⟨RX1, "note", "(LUnheardBells$Tower;)V"⟩
abbrev cX1_takeBack : ByteArray := prog_3_method_4_code
def yX1_takeBack : MethodName := ⟨RX1, "takeBack", "(LUnheardBells$Tower;)V"⟩
abbrev cX1_keep : ByteArray := prog_3_method_5_code
def yX1_keep : MethodName := ⟨RX1, "keep", "()V"⟩
abbrev cX1_stepBack : ByteArray := prog_3_method_6_code
def yX1_stepBack : MethodName := ⟨RX1, "stepBack", "(LUnheardBells$Tower;)Z"⟩
def RX2 : String := "UnheardBells$Line"
def TX2 : u_T := fun k => match k with
  | 0 => ("UnheardBells$Line", "length", "I", false)
  | _ => ("UnheardBells$Line", "codes", "[I", true)
def tyX2 : Nat → FieldType := fun k => match k with
  | 0 => .int
  | _ => .array .int
abbrev wsX20 : List Cond := u_ws RX2 TX2 2
theorem nmX2 : ∀ a, a < 2 → ∀ b, b < 2 → a ≠ b → (TX2 a).2.1 ≠ (TX2 b).2.1 := by decide +kernel
theorem tyX2_ok : ∀ k, k < 2 → parseFieldDescriptor (TX2 k).2.2.1 = some (tyX2 k) := by decide +kernel
abbrev cX2_init : ByteArray := prog_4_method_1_code
def yX2_init : MethodName := ⟨RX2, "<init>", "()V"⟩
abbrev cX2_write : ByteArray := prog_4_method_2_code
def yX2_write : MethodName := ⟨RX2, "write", "(I)V"⟩
abbrev cX2_writeNumber : ByteArray := prog_4_method_3_code
def yX2_writeNumber : MethodName := ⟨RX2, "writeNumber", "(I)V"⟩
def RX3 : String := "UnheardBells$Orders"
def TX3 : u_T := fun k => match k with
  | 0 => ("UnheardBells$Orders", "number", "I", false)
  | 1 => ("UnheardBells$Orders", "kinds", "[I", true)
  | 2 => ("UnheardBells$Orders", "numbers", "[I", true)
  | _ => ("UnheardBells$Orders", "position", "I", false)
def tyX3 : Nat → FieldType := fun k => match k with
  | 0 => .int
  | 1 => .array .int
  | 2 => .array .int
  | _ => .int
abbrev wsX30 : List Cond := u_ws RX3 TX3 4
theorem nmX3 : ∀ a, a < 4 → ∀ b, b < 4 → a ≠ b → (TX3 a).2.1 ≠ (TX3 b).2.1 := by decide +kernel
theorem tyX3_ok : ∀ k, k < 4 → parseFieldDescriptor (TX3 k).2.2.1 = some (tyX3 k) := by decide +kernel
abbrev cX3_init : ByteArray := prog_5_method_1_code
def yX3_init : MethodName := ⟨RX3, "<init>", "()V"⟩
abbrev cX3_numberAt : ByteArray := prog_5_method_2_code
def yX3_numberAt : MethodName := ⟨RX3, "numberAt", "(II)I"⟩
abbrev cX3_read : ByteArray := prog_5_method_3_code
def yX3_read : MethodName := ⟨RX3, "read", "(LUnheardBells$Text;)I"⟩
abbrev cX3_readOrder : ByteArray := prog_5_method_4_code
def yX3_readOrder : MethodName := ⟨RX3, "readOrder", "(LUnheardBells$Text;)Z"⟩
abbrev cX3_shapeOf : ByteArray := prog_5_method_5_code
def yX3_shapeOf : MethodName := ⟨RX3, "shapeOf", "(I)Ljava/lang/String;"⟩
abbrev cX3_readSign : ByteArray := prog_5_method_6_code
def yX3_readSign : MethodName := ⟨RX3, "readSign", "(LUnheardBells$Text;I)Z"⟩
abbrev cX3_readNumber : ByteArray := prog_5_method_7_code
def yX3_readNumber : MethodName := ⟨RX3, "readNumber", "(LUnheardBells$Text;CI)Z"⟩
def RX4 : String := "UnheardBells$Pulls"
def TX4 : u_T := fun k => match k with
  | 0 => ("UnheardBells$Pulls", "number", "I", false)
  | 1 => ("UnheardBells$Pulls", "rope", "[I", true)
  | 2 => ("UnheardBells$Pulls", "hour", "[I", true)
  | _ => ("UnheardBells$Pulls", "strength", "[I", true)
def tyX4 : Nat → FieldType := fun k => match k with
  | 0 => .int
  | 1 => .array .int
  | 2 => .array .int
  | _ => .array .int
abbrev wsX40 : List Cond := u_ws RX4 TX4 4
theorem nmX4 : ∀ a, a < 4 → ∀ b, b < 4 → a ≠ b → (TX4 a).2.1 ≠ (TX4 b).2.1 := by decide +kernel
theorem tyX4_ok : ∀ k, k < 4 → parseFieldDescriptor (TX4 k).2.2.1 = some (tyX4 k) := by decide +kernel
abbrev cX4_init : ByteArray := prog_6_method_1_code
def yX4_init : MethodName := ⟨RX4, "<init>", "()V"⟩
abbrev cX4_copyFrom : ByteArray := prog_6_method_2_code
def yX4_copyFrom : MethodName := ⟨RX4, "copyFrom", "(LUnheardBells$Pulls;)V"⟩
abbrev cX4_has : ByteArray := prog_6_method_3_code
def yX4_has : MethodName := ⟨RX4, "has", "(I)Z"⟩
abbrev cX4_isNextAt : ByteArray := prog_6_method_4_code
def yX4_isNextAt : MethodName := ⟨RX4, "isNextAt", "(I)Z"⟩
abbrev cX4_numberOf : ByteArray := prog_6_method_5_code
def yX4_numberOf : MethodName := ⟨RX4, "numberOf", "(I)I"⟩
abbrev cX4_numberIn : ByteArray := prog_6_method_6_code
def yX4_numberIn : MethodName := ⟨RX4, "numberIn", "(I)I"⟩
abbrev cX4_insert : ByteArray := prog_6_method_7_code
def yX4_insert : MethodName := ⟨RX4, "insert", "(III)I"⟩
abbrev cX4_isAheadOf : ByteArray := prog_6_method_8_code
def yX4_isAheadOf : MethodName := ⟨RX4, "isAheadOf", "(IIII)Z"⟩
abbrev cX4_carry : ByteArray := prog_6_method_9_code
def yX4_carry : MethodName := ⟨RX4, "carry", "(II)V"⟩
abbrev cX4_removeFirst : ByteArray := prog_6_method_10_code
def yX4_removeFirst : MethodName := ⟨RX4, "removeFirst", "()V"⟩
abbrev cX4_removeAllOf : ByteArray := prog_6_method_11_code
def yX4_removeAllOf : MethodName := ⟨RX4, "removeAllOf", "(I)V"⟩
def RX5 : String := "UnheardBells$Ropes"
def TX5 : u_T := fun k => match k with
  | 0 => ("UnheardBells$Ropes", "number", "I", false)
  | 1 => ("UnheardBells$Ropes", "parish", "[I", true)
  | 2 => ("UnheardBells$Ropes", "isOn", "[I", true)
  | 3 => ("UnheardBells$Ropes", "rust", "[I", true)
  | 4 => ("UnheardBells$Ropes", "answers", "[I", true)
  | 5 => ("UnheardBells$Ropes", "misses", "[I", true)
  | _ => ("UnheardBells$Ropes", "doubles", "[I", true)
def tyX5 : Nat → FieldType := fun k => match k with
  | 0 => .int
  | 1 => .array .int
  | 2 => .array .int
  | 3 => .array .int
  | 4 => .array .int
  | 5 => .array .int
  | _ => .array .int
abbrev wsX50 : List Cond := u_ws RX5 TX5 7
theorem nmX5 : ∀ a, a < 7 → ∀ b, b < 7 → a ≠ b → (TX5 a).2.1 ≠ (TX5 b).2.1 := by decide +kernel
theorem tyX5_ok : ∀ k, k < 7 → parseFieldDescriptor (TX5 k).2.2.1 = some (tyX5 k) := by decide +kernel
abbrev cX5_init : ByteArray := prog_7_method_1_code
def yX5_init : MethodName := ⟨RX5, "<init>", "()V"⟩
abbrev cX5_copyFrom : ByteArray := prog_7_method_2_code
def yX5_copyFrom : MethodName := ⟨RX5, "copyFrom", "(LUnheardBells$Ropes;)V"⟩
abbrev cX5_has : ByteArray := prog_7_method_3_code
def yX5_has : MethodName := ⟨RX5, "has", "(I)Z"⟩
abbrev cX5_bring : ByteArray := prog_7_method_4_code
def yX5_bring : MethodName := ⟨RX5, "bring", "(I)I"⟩
abbrev cX5_isEnough : ByteArray := prog_7_method_5_code
def yX5_isEnough : MethodName := ⟨RX5, "isEnough", "(II)Z"⟩
abbrev cX5_becomeRustier : ByteArray := prog_7_method_6_code
def yX5_becomeRustier : MethodName := ⟨RX5, "becomeRustier", "(I)V"⟩
abbrev cX5_loseRust : ByteArray := prog_7_method_7_code
def yX5_loseRust : MethodName := ⟨RX5, "loseRust", "(I)V"⟩
abbrev cX5_setOfAll : ByteArray := prog_7_method_8_code
def yX5_setOfAll : MethodName := ⟨RX5, "setOfAll", "()I"⟩
abbrev cX5_setOf : ByteArray := prog_7_method_9_code
def yX5_setOf : MethodName := ⟨RX5, "setOf", "(I)I"⟩
abbrev cX5_sumOf : ByteArray := prog_7_method_10_code
def yX5_sumOf : MethodName := ⟨RX5, "sumOf", "([II)I"⟩
abbrev cX5_placeByRust : ByteArray := prog_7_method_11_code
def yX5_placeByRust : MethodName := ⟨RX5, "placeByRust", "(I)I"⟩
abbrev cX5_isRustier : ByteArray := prog_7_method_12_code
def yX5_isRustier : MethodName := ⟨RX5, "isRustier", "(II)Z"⟩
abbrev cX5_placeByAnswers : ByteArray := prog_7_method_13_code
def yX5_placeByAnswers : MethodName := ⟨RX5, "placeByAnswers", "(I)I"⟩
abbrev cX5_isAhead : ByteArray := prog_7_method_14_code
def yX5_isAhead : MethodName := ⟨RX5, "isAhead", "(II)Z"⟩
abbrev cX5_guessByParishes : ByteArray := prog_7_method_15_code
def yX5_guessByParishes : MethodName := ⟨RX5, "guessByParishes", "(I)I"⟩
abbrev cX5_guessByRopes : ByteArray := prog_7_method_16_code
def yX5_guessByRopes : MethodName := ⟨RX5, "guessByRopes", "(I)I"⟩
abbrev cX5_isGreaterShare : ByteArray := prog_7_method_17_code
def yX5_isGreaterShare : MethodName := ⟨RX5, "isGreaterShare", "(III)Z"⟩
abbrev cX5_neighbours : ByteArray := prog_7_method_18_code
def yX5_neighbours : MethodName := ⟨RX5, "neighbours", "(II)I"⟩
def RX6 : String := "UnheardBells$Text"
def TX6 : u_T := fun k => match k with
  | 0 => ("UnheardBells$Text", "length", "I", false)
  | _ => ("UnheardBells$Text", "codes", "[I", true)
def tyX6 : Nat → FieldType := fun k => match k with
  | 0 => .int
  | _ => .array .int
abbrev wsX60 : List Cond := u_ws RX6 TX6 2
theorem nmX6 : ∀ a, a < 2 → ∀ b, b < 2 → a ≠ b → (TX6 a).2.1 ≠ (TX6 b).2.1 := by decide +kernel
theorem tyX6_ok : ∀ k, k < 2 → parseFieldDescriptor (TX6 k).2.2.1 = some (tyX6 k) := by decide +kernel
abbrev cX6_init : ByteArray := prog_8_method_1_code
def yX6_init : MethodName := ⟨RX6, "<init>", "()V"⟩
abbrev cX6_codeAt : ByteArray := prog_8_method_3_code
def yX6_codeAt : MethodName := ⟨RX6, "codeAt", "(I)I"⟩
def RX7 : String := "UnheardBells$Tower"
def TX7 : u_T := fun k => match k with
  | 0 => ("UnheardBells$Tower", "ropes", "LUnheardBells$Ropes;", true)
  | 1 => ("UnheardBells$Tower", "pulls", "LUnheardBells$Pulls;", true)
  | 2 => ("UnheardBells$Tower", "remembered", "LUnheardBells$Answers;", true)
  | 3 => ("UnheardBells$Tower", "ringers", "[I", true)
  | 4 => ("UnheardBells$Tower", "hour", "I", false)
  | 5 => ("UnheardBells$Tower", "day", "I", false)
  | 6 => ("UnheardBells$Tower", "came", "I", false)
  | 7 => ("UnheardBells$Tower", "rung", "I", false)
  | 8 => ("UnheardBells$Tower", "answers", "I", false)
  | 9 => ("UnheardBells$Tower", "misses", "I", false)
  | 10 => ("UnheardBells$Tower", "doubles", "I", false)
  | _ => ("UnheardBells$Tower", "takenAway", "I", false)
def tyX7 : Nat → FieldType := fun k => match k with
  | 0 => .object "UnheardBells$Ropes"
  | 1 => .object "UnheardBells$Pulls"
  | 2 => .object "UnheardBells$Answers"
  | 3 => .array .int
  | 4 => .int
  | 5 => .int
  | 6 => .int
  | 7 => .int
  | 8 => .int
  | 9 => .int
  | 10 => .int
  | _ => .int
abbrev wsX70 : List Cond := u_ws RX7 TX7 12
theorem nmX7 : ∀ a, a < 12 → ∀ b, b < 12 → a ≠ b → (TX7 a).2.1 ≠ (TX7 b).2.1 := by decide +kernel
theorem tyX7_ok : ∀ k, k < 12 → parseFieldDescriptor (TX7 k).2.2.1 = some (tyX7 k) := by decide +kernel
abbrev cX7_init : ByteArray := prog_9_method_1_code
def yX7_init : MethodName := ⟨RX7, "<init>", "()V"⟩
abbrev cX7_copyFrom : ByteArray := prog_9_method_2_code
def yX7_copyFrom : MethodName := ⟨RX7, "copyFrom", "(LUnheardBells$Tower;)V"⟩
abbrev cX7_ringFirst : ByteArray := prog_9_method_3_code
def yX7_ringFirst : MethodName := ⟨RX7, "ringFirst", "()I"⟩
abbrev cX7_miss : ByteArray := prog_9_method_4_code
def yX7_miss : MethodName := ⟨RX7, "miss", "(I)V"⟩
abbrev cX7_answer : ByteArray := prog_9_method_5_code
def yX7_answer : MethodName := ⟨RX7, "answer", "(II)V"⟩
abbrev cX7_endDay : ByteArray := prog_9_method_6_code
def yX7_endDay : MethodName := ⟨RX7, "endDay", "()I"⟩
abbrev cX7_heardToday : ByteArray := prog_9_method_7_code
def yX7_heardToday : MethodName := ⟨RX7, "heardToday", "()I"⟩
abbrev cX7_answersAhead : ByteArray := prog_9_method_8_code
def yX7_answersAhead : MethodName := ⟨RX7, "answersAhead", "(I)I"⟩
abbrev cX7_hoursOf : ByteArray := prog_9_method_9_code
def yX7_hoursOf : MethodName := ⟨RX7, "hoursOf", "(I)I"⟩
def RX8 : String := "UnheardBells"
def TX8 : u_T := fun k => match k with
  | 0 => ("UnheardBells", "now", "LUnheardBells$Tower;", true)
  | 1 => ("UnheardBells", "trial", "LUnheardBells$Tower;", true)
  | 2 => ("UnheardBells", "history", "LUnheardBells$History;", true)
  | 3 => ("UnheardBells", "text", "LUnheardBells$Text;", true)
  | 4 => ("UnheardBells", "orders", "LUnheardBells$Orders;", true)
  | 5 => ("UnheardBells", "line", "LUnheardBells$Line;", true)
  | 6 => ("UnheardBells", "snapshot", "LUnheardBells$Tower;", false)
  | 7 => ("UnheardBells", "lastReason", "I", false)
  | _ => ("UnheardBells", "lastDetail", "I", false)
def tyX8 : Nat → FieldType := fun k => match k with
  | 0 => .object "UnheardBells$Tower"
  | 1 => .object "UnheardBells$Tower"
  | 2 => .object "UnheardBells$History"
  | 3 => .object "UnheardBells$Text"
  | 4 => .object "UnheardBells$Orders"
  | 5 => .object "UnheardBells$Line"
  | 6 => .object "UnheardBells$Tower"
  | 7 => .int
  | _ => .int
abbrev wsX80 : List Cond := u_ws RX8 TX8 9
theorem nmX8 : ∀ a, a < 9 → ∀ b, b < 9 → a ≠ b → (TX8 a).2.1 ≠ (TX8 b).2.1 := by decide +kernel
theorem tyX8_ok : ∀ k, k < 9 → parseFieldDescriptor (TX8 k).2.2.1 = some (tyX8 k) := by decide +kernel
abbrev cX8_init : ByteArray := prog_1_method_1_code
def yX8_init : MethodName := ⟨RX8, "<init>", "()V"⟩
abbrev cX8_rope : ByteArray := prog_1_method_2_code
def yX8_rope : MethodName := ⟨RX8, "rope", "(I)I"⟩
abbrev cX8_move : ByteArray := prog_1_method_3_code
def yX8_move : MethodName := ⟨RX8, "move", "(II)I"⟩
abbrev cX8_sensor : ByteArray := prog_1_method_4_code
def yX8_sensor : MethodName := ⟨RX8, "sensor", "(II)I"⟩
abbrev cX8_oil : ByteArray := prog_1_method_5_code
def yX8_oil : MethodName := ⟨RX8, "oil", "(II)I"⟩
abbrev cX8_ropeOf : ByteArray := prog_1_method_6_code
def yX8_ropeOf : MethodName := ⟨RX8, "ropeOf", "(II)I"⟩
abbrev cX8_pull : ByteArray := prog_1_method_7_code
def yX8_pull : MethodName := ⟨RX8, "pull", "(III)I"⟩
abbrev cX8_cancel : ByteArray := prog_1_method_8_code
def yX8_cancel : MethodName := ⟨RX8, "cancel", "(I)I"⟩
abbrev cX8_ring : ByteArray := prog_1_method_9_code
def yX8_ring : MethodName := ⟨RX8, "ring", "()I"⟩
abbrev cX8_hour : ByteArray := prog_1_method_10_code
def yX8_hour : MethodName := ⟨RX8, "hour", "()I"⟩
abbrev cX8_end : ByteArray := prog_1_method_11_code
def yX8_end : MethodName := ⟨RX8, "end", "()I"⟩
abbrev cX8_waiting : ByteArray := prog_1_method_12_code
def yX8_waiting : MethodName := ⟨RX8, "waiting", "(II)I"⟩
abbrev cX8_would : ByteArray := prog_1_method_13_code
def yX8_would : MethodName := ⟨RX8, "would", "(II)I"⟩
abbrev cX8_forecast : ByteArray := prog_1_method_14_code
def yX8_forecast : MethodName := ⟨RX8, "forecast", "()I"⟩
abbrev cX8_forecastAgain : ByteArray := prog_1_method_15_code
def yX8_forecastAgain : MethodName := ⟨RX8, "forecastAgain", "()I"⟩
abbrev cX8_answerOf : ByteArray := prog_1_method_16_code
def yX8_answerOf : MethodName := ⟨RX8, "answerOf", "(II)I"⟩
abbrev cX8_answered : ByteArray := prog_1_method_17_code
def yX8_answered : MethodName := ⟨RX8, "answered", "(I)I"⟩
abbrev cX8_guess : ByteArray := prog_1_method_18_code
def yX8_guess : MethodName := ⟨RX8, "guess", "(I)I"⟩
abbrev cX8_guessAgain : ByteArray := prog_1_method_19_code
def yX8_guessAgain : MethodName := ⟨RX8, "guessAgain", "(I)I"⟩
abbrev cX8_parishOf : ByteArray := prog_1_method_20_code
def yX8_parishOf : MethodName := ⟨RX8, "parishOf", "(II)I"⟩
abbrev cX8_busiest : ByteArray := prog_1_method_21_code
def yX8_busiest : MethodName := ⟨RX8, "busiest", "()I"⟩
abbrev cX8_rustiest : ByteArray := prog_1_method_22_code
def yX8_rustiest : MethodName := ⟨RX8, "rustiest", "(I)I"⟩
abbrev cX8_ranked : ByteArray := prog_1_method_23_code
def yX8_ranked : MethodName := ⟨RX8, "ranked", "(I)I"⟩
abbrev cX8_run : ByteArray := prog_1_method_25_code
def yX8_run : MethodName := ⟨RX8, "run", "()I"⟩
abbrev cX8_tell : ByteArray := prog_1_method_26_code
def yX8_tell : MethodName := ⟨RX8, "tell", "(I)I"⟩
abbrev cX8_tellDay : ByteArray := prog_1_method_27_code
def yX8_tellDay : MethodName := ⟨RX8, "tellDay", "()I"⟩
abbrev cX8_character : ByteArray := prog_1_method_28_code
def yX8_character : MethodName := ⟨RX8, "character", "(I)I"⟩
abbrev cX8_reason : ByteArray := prog_1_method_29_code
def yX8_reason : MethodName := ⟨RX8, "reason", "(Z)I"⟩
abbrev cX8_account : ByteArray := prog_1_method_30_code
def yX8_account : MethodName := ⟨RX8, "account", "(I)I"⟩
abbrev cX8_isBalanced : ByteArray := prog_1_method_31_code
def yX8_isBalanced : MethodName := ⟨RX8, "isBalanced", "()I"⟩
abbrev cX8_meanRust : ByteArray := prog_1_method_32_code
def yX8_meanRust : MethodName := ⟨RX8, "meanRust", "()D"⟩
abbrev cX8_answerShare : ByteArray := prog_1_method_33_code
def yX8_answerShare : MethodName := ⟨RX8, "answerShare", "()F"⟩
abbrev cX8_undo : ByteArray := prog_1_method_34_code
def yX8_undo : MethodName := ⟨RX8, "undo", "()I"⟩
abbrev cX8_save : ByteArray := prog_1_method_35_code
def yX8_save : MethodName := ⟨RX8, "save", "()I"⟩
abbrev cX8_restore : ByteArray := prog_1_method_36_code
def yX8_restore : MethodName := ⟨RX8, "restore", "()I"⟩
abbrev cX8_settle : ByteArray := prog_1_method_37_code
def yX8_settle : MethodName := ⟨RX8, "settle", "(I)I"⟩
abbrev cX8_refuse : ByteArray := prog_1_method_38_code
def yX8_refuse : MethodName := ⟨RX8, "refuse", "(II)I"⟩
abbrev cX8_bringRope : ByteArray := prog_1_method_39_code
def yX8_bringRope : MethodName := ⟨RX8, "bringRope", "(I)I"⟩
abbrev cX8_giveRope : ByteArray := prog_1_method_40_code
def yX8_giveRope : MethodName := ⟨RX8, "giveRope", "(II)I"⟩
abbrev cX8_switchSensor : ByteArray := prog_1_method_41_code
def yX8_switchSensor : MethodName := ⟨RX8, "switchSensor", "(II)I"⟩
abbrev cX8_oilRope : ByteArray := prog_1_method_42_code
def yX8_oilRope : MethodName := ⟨RX8, "oilRope", "(II)I"⟩
abbrev cX8_letWait : ByteArray := prog_1_method_43_code
def yX8_letWait : MethodName := ⟨RX8, "letWait", "(III)I"⟩
abbrev cX8_takeAway : ByteArray := prog_1_method_44_code
def yX8_takeAway : MethodName := ⟨RX8, "takeAway", "(I)I"⟩
abbrev cX8_ringNext : ByteArray := prog_1_method_45_code
def yX8_ringNext : MethodName := ⟨RX8, "ringNext", "()I"⟩
abbrev cX8_ringHour : ByteArray := prog_1_method_46_code
def yX8_ringHour : MethodName := ⟨RX8, "ringHour", "()I"⟩
abbrev cX8_carryOut : ByteArray := prog_1_method_47_code
def yX8_carryOut : MethodName := ⟨RX8, "carryOut", "(I)I"⟩
abbrev cX8_hoursGuessed : ByteArray := prog_1_method_48_code
def yX8_hoursGuessed : MethodName := ⟨RX8, "hoursGuessed", "(I)I"⟩
abbrev cX8_arePullsAccountedFor : ByteArray := prog_1_method_49_code
def yX8_arePullsAccountedFor : MethodName := ⟨RX8, "arePullsAccountedFor", "()Z"⟩
abbrev cX8_areRopesAccountedFor : ByteArray := prog_1_method_50_code
def yX8_areRopesAccountedFor : MethodName := ⟨RX8, "areRopesAccountedFor", "()Z"⟩
abbrev cX8_areGuessesTheSame : ByteArray := prog_1_method_51_code
def yX8_areGuessesTheSame : MethodName := ⟨RX8, "areGuessesTheSame", "()Z"⟩
abbrev cX8_tellRope : ByteArray := prog_1_method_52_code
def yX8_tellRope : MethodName := ⟨RX8, "tellRope", "(I)V"⟩
abbrev cX8_tellPulls : ByteArray := prog_1_method_53_code
def yX8_tellPulls : MethodName := ⟨RX8, "tellPulls", "(I)V"⟩
abbrev cX8_tellHour : ByteArray := prog_1_method_54_code
def yX8_tellHour : MethodName := ⟨RX8, "tellHour", "(I)V"⟩
abbrev cX8_isParish : ByteArray := prog_1_method_55_code
def yX8_isParish : MethodName := ⟨RX8, "isParish", "(I)Z"⟩
abbrev cX8_isHour : ByteArray := prog_1_method_56_code
def yX8_isHour : MethodName := ⟨RX8, "isHour", "(I)Z"⟩
abbrev cX8_isStrength : ByteArray := prog_1_method_57_code
def yX8_isStrength : MethodName := ⟨RX8, "isStrength", "(I)Z"⟩
abbrev cX8_isDigit : ByteArray := prog_1_method_58_code
def yX8_isDigit : MethodName := ⟨RX8, "isDigit", "(I)Z"⟩
abbrev cX8_bit : ByteArray := prog_1_method_59_code
def yX8_bit : MethodName := ⟨RX8, "bit", "(I)I"⟩
abbrev cX8_isIn : ByteArray := prog_1_method_60_code
def yX8_isIn : MethodName := ⟨RX8, "isIn", "(II)Z"⟩
abbrev cX8_at : ByteArray := prog_1_method_61_code
def yX8_at : MethodName := ⟨RX8, "at", "([II)I"⟩
abbrev cX8_put : ByteArray := prog_1_method_62_code
def yX8_put : MethodName := ⟨RX8, "put", "([III)V"⟩
abbrev cX8_add : ByteArray := prog_1_method_63_code
def yX8_add : MethodName := ⟨RX8, "add", "([III)V"⟩
abbrev cX8_sum : ByteArray := prog_1_method_64_code
def yX8_sum : MethodName := ⟨RX8, "sum", "([I)I"⟩
abbrev cX8_copy : ByteArray := prog_1_method_65_code
def yX8_copy : MethodName := ⟨RX8, "copy", "([I[I)V"⟩
def RX9 : String := "UnheardBellsLaw$Bits"
def TX9 : u_T := fun k => match k with
  | _ => ("UnheardBellsLaw$Bits", "bits", "I", false)
def tyX9 : Nat → FieldType := fun k => match k with
  | _ => .int
abbrev wsX90 : List Cond := u_ws RX9 TX9 1
theorem nmX9 : ∀ a, a < 1 → ∀ b, b < 1 → a ≠ b → (TX9 a).2.1 ≠ (TX9 b).2.1 := by decide +kernel
theorem tyX9_ok : ∀ k, k < 1 → parseFieldDescriptor (TX9 k).2.2.1 = some (tyX9 k) := by decide +kernel
abbrev cX9_init : ByteArray := prog_11_method_1_code
def yX9_init : MethodName := ⟨RX9, "<init>", "(I)V"⟩
abbrev cX9_next : ByteArray := prog_11_method_2_code
def yX9_next : MethodName := ⟨RX9, "next", "(I)I"⟩
def RX10 : String := "UnheardBellsModel"
def TX10 : u_T := fun k => match k with
  | _ => ("", "", "", false)
def tyX10 : Nat → FieldType := fun k => match k with
  | _ => .int
abbrev wsX100 : List Cond := u_ws RX10 TX10 0
theorem nmX10 : ∀ a, a < 0 → ∀ b, b < 0 → a ≠ b → (TX10 a).2.1 ≠ (TX10 b).2.1 := by decide +kernel
theorem tyX10_ok : ∀ k, k < 0 → parseFieldDescriptor (TX10 k).2.2.1 = some (tyX10 k) := by decide +kernel
def RJ5 : String := "java/lang/AbstractStringBuilder"
def TJ5 : u_T := fun k => match k with
  | _ => ("", "", "", false)
def tyJ5 : Nat → FieldType := fun k => match k with
  | _ => .int
abbrev wsJ50 : List Cond := u_ws RJ5 TJ5 0
theorem nmJ5 : ∀ a, a < 0 → ∀ b, b < 0 → a ≠ b → (TJ5 a).2.1 ≠ (TJ5 b).2.1 := by decide +kernel
theorem tyJ5_ok : ∀ k, k < 0 → parseFieldDescriptor (TJ5 k).2.2.1 = some (tyJ5 k) := by decide +kernel
abbrev cJ5_init_d00df : ByteArray := prog_13_method_2_code
def yJ5_init_d00df : MethodName := ⟨RJ5, "<init>", "(I)V"⟩
abbrev cJ5_length_8abf5 : ByteArray := prog_13_method_6_code
def yJ5_length_8abf5 : MethodName := ⟨RJ5, "length", "()I"⟩
abbrev cJ5_ensureCapacityInternal_d00df : ByteArray := prog_13_method_9_code
def yJ5_ensureCapacityInternal_d00df : MethodName := ⟨RJ5, "ensureCapacityInternal", "(I)V"⟩
abbrev cJ5_newCapacity_0f7a4 : ByteArray := prog_13_method_10_code
def yJ5_newCapacity_0f7a4 : MethodName := ⟨RJ5, "newCapacity", "(I)I"⟩
abbrev cJ5_inflate_da8c8 : ByteArray := prog_13_method_11_code
def yJ5_inflate_da8c8 : MethodName := ⟨RJ5, "inflate", "()V"⟩
abbrev cJ5_append_cf1ce : ByteArray := prog_13_method_22_code
def yJ5_append_cf1ce : MethodName := ⟨RJ5, "append", "(Ljava/lang/String;)Ljava/lang/AbstractStringBuilder;"⟩
abbrev cJ5_appendNull_278bc : ByteArray := prog_13_method_26_code
def yJ5_appendNull_278bc : MethodName := ⟨RJ5, "appendNull", "()Ljava/lang/AbstractStringBuilder;"⟩
abbrev cJ5_append_3fe6f : ByteArray := prog_13_method_31_code
def yJ5_append_3fe6f : MethodName := ⟨RJ5, "append", "(C)Ljava/lang/AbstractStringBuilder;"⟩
abbrev cJ5_append_c97b9 : ByteArray := prog_13_method_32_code
def yJ5_append_c97b9 : MethodName := ⟨RJ5, "append", "(I)Ljava/lang/AbstractStringBuilder;"⟩
abbrev cJ5_getValue_6d5f1 : ByteArray := prog_13_method_64_code
def yJ5_getValue_6d5f1 : MethodName := ⟨RJ5, "getValue", "()[B"⟩
abbrev cJ5_isLatin1_aae02 : ByteArray := prog_13_method_68_code
def yJ5_isLatin1_aae02 : MethodName := ⟨RJ5, "isLatin1", "()Z"⟩
abbrev cJ5_inflateIfNeededFor_a7421 : ByteArray := prog_13_method_71_code
def yJ5_inflateIfNeededFor_a7421 : MethodName := ⟨RJ5, "inflateIfNeededFor", "(Ljava/lang/String;)V"⟩
abbrev cJ5_putStringAt_47b60 : ByteArray := prog_13_method_73_code
def yJ5_putStringAt_47b60 : MethodName := ⟨RJ5, "putStringAt", "(ILjava/lang/String;)V"⟩
def RJx8e188 : String := "java/lang/Cloneable"
def TJx8e188 : u_T := fun k => match k with
  | _ => ("", "", "", false)
def tyJx8e188 : Nat → FieldType := fun k => match k with
  | _ => .int
theorem nmJx8e188 : ∀ a, a < 0 → ∀ b, b < 0 → a ≠ b → (TJx8e188 a).2.1 ≠ (TJx8e188 b).2.1 := by decide +kernel
theorem tyJx8e188_ok : ∀ k, k < 0 → parseFieldDescriptor (TJx8e188 k).2.2.1 = some (tyJx8e188 k) := by decide +kernel
def RJ6 : String := "java/lang/Integer"
def TJ6 : u_T := fun k => match k with
  | _ => ("", "", "", false)
def tyJ6 : Nat → FieldType := fun k => match k with
  | _ => .int
abbrev wsJ60 : List Cond := u_ws RJ6 TJ6 0
theorem nmJ6 : ∀ a, a < 0 → ∀ b, b < 0 → a ≠ b → (TJ6 a).2.1 ≠ (TJ6 b).2.1 := by decide +kernel
theorem tyJ6_ok : ∀ k, k < 0 → parseFieldDescriptor (TJ6 k).2.2.1 = some (tyJ6 k) := by decide +kernel
abbrev cJ6_getChars_ba4f3 : ByteArray := prog_15_method_12_code
def yJ6_getChars_ba4f3 : MethodName := ⟨RJ6, "getChars", "(II[B)I"⟩
abbrev cJ6_stringSize_0f7a4 : ByteArray := prog_15_method_13_code
def yJ6_stringSize_0f7a4 : MethodName := ⟨RJ6, "stringSize", "(I)I"⟩
abbrev cJ6_bitCount_0f7a4 : ByteArray := prog_15_method_49_code
def yJ6_bitCount_0f7a4 : MethodName := ⟨RJ6, "bitCount", "(I)I"⟩
def RJ9 : String := "java/lang/Math"
def TJ9 : u_T := fun k => match k with
  | _ => ("", "", "", false)
def tyJ9 : Nat → FieldType := fun k => match k with
  | _ => .int
abbrev wsJ90 : List Cond := u_ws RJ9 TJ9 0
theorem nmJ9 : ∀ a, a < 0 → ∀ b, b < 0 → a ≠ b → (TJ9 a).2.1 ≠ (TJ9 b).2.1 := by decide +kernel
theorem tyJ9_ok : ∀ k, k < 0 → parseFieldDescriptor (TJ9 k).2.2.1 = some (tyJ9 k) := by decide +kernel
abbrev cJ9_floorMod_7cf53 : ByteArray := prog_16_method_50_code
def yJ9_floorMod_7cf53 : MethodName := ⟨RJ9, "floorMod", "(II)I"⟩
abbrev cJ9_max_7cf53 : ByteArray := prog_16_method_65_code
def yJ9_max_7cf53 : MethodName := ⟨RJ9, "max", "(II)I"⟩
abbrev cJ9_min_7cf53 : ByteArray := prog_16_method_69_code
def yJ9_min_7cf53 : MethodName := ⟨RJ9, "min", "(II)I"⟩
def RJ0 : String := "java/lang/String"
def TJ0 : u_T := fun k => match k with
  | 0 => ("java/lang/String", "value", "[B", true)
  | 1 => ("java/lang/String", "coder", "B", true)
  | 2 => ("java/lang/String", "hash", "I", false)
  | _ => ("java/lang/String", "hashIsZero", "Z", false)
def tyJ0 : Nat → FieldType := fun k => match k with
  | 0 => .array .byte
  | 1 => .byte
  | 2 => .int
  | _ => .boolean
abbrev wsJ00 : List Cond := u_ws RJ0 TJ0 4
theorem nmJ0 : ∀ a, a < 4 → ∀ b, b < 4 → a ≠ b → (TJ0 a).2.1 ≠ (TJ0 b).2.1 := by decide +kernel
theorem tyJ0_ok : ∀ k, k < 4 → parseFieldDescriptor (TJ0 k).2.2.1 = some (tyJ0 k) := by decide +kernel
abbrev cJ0_init_81219 : ByteArray := prog_17_method_53_code
def yJ0_init_81219 : MethodName := ⟨RJ0, "<init>", "(Ljava/lang/StringBuilder;)V"⟩
abbrev cJ0_length_8abf5 : ByteArray := prog_17_method_54_code
def yJ0_length_8abf5 : MethodName := ⟨RJ0, "length", "()I"⟩
abbrev cJ0_isEmpty_aae02 : ByteArray := prog_17_method_55_code
def yJ0_isEmpty_aae02 : MethodName := ⟨RJ0, "isEmpty", "()Z"⟩
abbrev cJ0_charAt_5068e : ByteArray := prog_17_method_56_code
def yJ0_charAt_5068e : MethodName := ⟨RJ0, "charAt", "(I)C"⟩
abbrev cJ0_equals_9ea2d : ByteArray := prog_17_method_66_code
def yJ0_equals_9ea2d : MethodName := ⟨RJ0, "equals", "(Ljava/lang/Object;)Z"⟩
abbrev cJ0_getBytes_840e7 : ByteArray := prog_17_method_147_code
def yJ0_getBytes_840e7 : MethodName := ⟨RJ0, "getBytes", "([BIB)V"⟩
abbrev cJ0_init_db425 : ByteArray := prog_17_method_150_code
def yJ0_init_db425 : MethodName := ⟨RJ0, "<init>", "(Ljava/lang/AbstractStringBuilder;Ljava/lang/Void;)V"⟩
abbrev cJ0_coder_7d493 : ByteArray := prog_17_method_152_code
def yJ0_coder_7d493 : MethodName := ⟨RJ0, "coder", "()B"⟩
abbrev cJ0_isLatin1_aae02 : ByteArray := prog_17_method_154_code
def yJ0_isLatin1_aae02 : MethodName := ⟨RJ0, "isLatin1", "()Z"⟩
abbrev cJ0_checkIndex_df160 : ByteArray := prog_17_method_155_code
def yJ0_checkIndex_df160 : MethodName := ⟨RJ0, "checkIndex", "(II)V"⟩
abbrev cJ0_checkBoundsOffCount_cabcc : ByteArray := prog_17_method_157_code
def yJ0_checkBoundsOffCount_cabcc : MethodName := ⟨RJ0, "checkBoundsOffCount", "(III)I"⟩
abbrev cJ0_checkBoundsBeginEnd_23922 : ByteArray := prog_17_method_158_code
def yJ0_checkBoundsBeginEnd_23922 : MethodName := ⟨RJ0, "checkBoundsBeginEnd", "(III)V"⟩
def RJ4 : String := "java/lang/StringBuilder"
def TJ4 : u_T := fun k => match k with
  | 0 => ("java/lang/AbstractStringBuilder", "value", "[B", false)
  | 1 => ("java/lang/AbstractStringBuilder", "coder", "B", false)
  | 2 => ("java/lang/AbstractStringBuilder", "maybeLatin1", "Z", false)
  | _ => ("java/lang/AbstractStringBuilder", "count", "I", false)
def tyJ4 : Nat → FieldType := fun k => match k with
  | 0 => .array .byte
  | 1 => .byte
  | 2 => .boolean
  | _ => .int
abbrev wsJ40 : List Cond := u_ws RJ4 TJ4 4
theorem nmJ4 : ∀ a, a < 4 → ∀ b, b < 4 → a ≠ b → (TJ4 a).2.1 ≠ (TJ4 b).2.1 := by decide +kernel
theorem tyJ4_ok : ∀ k, k < 4 → parseFieldDescriptor (TJ4 k).2.2.1 = some (tyJ4 k) := by decide +kernel
abbrev cJ4_init_da8c8 : ByteArray := prog_18_method_1_code
def yJ4_init_da8c8 : MethodName := ⟨RJ4, "<init>", "()V"⟩
abbrev cJ4_append_15ec4 : ByteArray := prog_18_method_7_code
def yJ4_append_15ec4 : MethodName := ⟨RJ4, "append", "(Ljava/lang/String;)Ljava/lang/StringBuilder;"⟩
abbrev cJ4_append_cf468 : ByteArray := prog_18_method_14_code
def yJ4_append_cf468 : MethodName := ⟨RJ4, "append", "(C)Ljava/lang/StringBuilder;"⟩
abbrev cJ4_append_bf812 : ByteArray := prog_18_method_15_code
def yJ4_append_bf812 : MethodName := ⟨RJ4, "append", "(I)Ljava/lang/StringBuilder;"⟩
abbrev cJ4_toString_0e30d : ByteArray := prog_18_method_42_code
def yJ4_toString_0e30d : MethodName := ⟨RJ4, "toString", "()Ljava/lang/String;"⟩
abbrev cJ4_length_8abf5 : ByteArray := prog_18_method_93_code
def yJ4_length_8abf5 : MethodName := ⟨RJ4, "length", "()I"⟩
def RJ1 : String := "java/lang/StringLatin1"
def TJ1 : u_T := fun k => match k with
  | _ => ("", "", "", false)
def tyJ1 : Nat → FieldType := fun k => match k with
  | _ => .int
abbrev wsJ10 : List Cond := u_ws RJ1 TJ1 0
theorem nmJ1 : ∀ a, a < 0 → ∀ b, b < 0 → a ≠ b → (TJ1 a).2.1 ≠ (TJ1 b).2.1 := by decide +kernel
theorem tyJ1_ok : ∀ k, k < 0 → parseFieldDescriptor (TJ1 k).2.2.1 = some (tyJ1 k) := by decide +kernel
abbrev cJ1_charAt_3b067 : ByteArray := prog_19_method_2_code
def yJ1_charAt_3b067 : MethodName := ⟨RJ1, "charAt", "([BI)C"⟩
abbrev cJ1_canEncode_fc78d : ByteArray := prog_19_method_3_code
def yJ1_canEncode_fc78d : MethodName := ⟨RJ1, "canEncode", "(C)Z"⟩
abbrev cJ1_equals_b5fdf : ByteArray := prog_19_method_13_code
def yJ1_equals_b5fdf : MethodName := ⟨RJ1, "equals", "([B[B)Z"⟩
abbrev cJ1_inflate_0e8fd : ByteArray := prog_19_method_50_code
def yJ1_inflate_0e8fd : MethodName := ⟨RJ1, "inflate", "([BI[BII)V"⟩
def RJ2 : String := "java/lang/StringUTF16"
def TJ2 : u_T := fun k => match k with
  | _ => ("", "", "", false)
def tyJ2 : Nat → FieldType := fun k => match k with
  | _ => .int
abbrev wsJ20 : List Cond := u_ws RJ2 TJ2 0
theorem nmJ2 : ∀ a, a < 0 → ∀ b, b < 0 → a ≠ b → (TJ2 a).2.1 ≠ (TJ2 b).2.1 := by decide +kernel
theorem tyJ2_ok : ∀ k, k < 0 → parseFieldDescriptor (TJ2 k).2.2.1 = some (tyJ2 k) := by decide +kernel
abbrev cJ2_newBytesFor_77867 : ByteArray := prog_20_method_2_code
def yJ2_newBytesFor_77867 : MethodName := ⟨RJ2, "newBytesFor", "(I)[B"⟩
abbrev cJ2_newBytesLength_0f7a4 : ByteArray := prog_20_method_3_code
def yJ2_newBytesLength_0f7a4 : MethodName := ⟨RJ2, "newBytesLength", "(I)I"⟩
abbrev cJ2_putChar_b72d1 : ByteArray := prog_20_method_4_code
def yJ2_putChar_b72d1 : MethodName := ⟨RJ2, "putChar", "([BII)V"⟩
abbrev cJ2_getChar_3b067 : ByteArray := prog_20_method_5_code
def yJ2_getChar_3b067 : MethodName := ⟨RJ2, "getChar", "([BI)C"⟩
abbrev cJ2_length_9d52b : ByteArray := prog_20_method_6_code
def yJ2_length_9d52b : MethodName := ⟨RJ2, "length", "([B)I"⟩
abbrev cJ2_coderFromArrayLen_85cad : ByteArray := prog_20_method_15_code
def yJ2_coderFromArrayLen_85cad : MethodName := ⟨RJ2, "coderFromArrayLen", "([BI)B"⟩
abbrev cJ2_compress_39247 : ByteArray := prog_20_method_17_code
def yJ2_compress_39247 : MethodName := ⟨RJ2, "compress", "([BII)[B"⟩
abbrev cJ2_compress_5af95 : ByteArray := prog_20_method_22_code
def yJ2_compress_5af95 : MethodName := ⟨RJ2, "compress", "([BI[BII)I"⟩
abbrev cJ2_putCharSB_b72d1 : ByteArray := prog_20_method_71_code
def yJ2_putCharSB_b72d1 : MethodName := ⟨RJ2, "putCharSB", "([BII)V"⟩
abbrev cJ2_getChars_46870 : ByteArray := prog_20_method_77_code
def yJ2_getChars_46870 : MethodName := ⟨RJ2, "getChars", "(III[B)I"⟩
abbrev cJ2_putCharsAt_cd4e5 : ByteArray := prog_20_method_81_code
def yJ2_putCharsAt_cd4e5 : MethodName := ⟨RJ2, "putCharsAt", "([BICCCC)I"⟩
abbrev cJ2_charAt_3b067 : ByteArray := prog_20_method_83_code
def yJ2_charAt_3b067 : MethodName := ⟨RJ2, "charAt", "([BI)C"⟩
abbrev cJ2_inflate_0e8fd : ByteArray := prog_20_method_86_code
def yJ2_inflate_0e8fd : MethodName := ⟨RJ2, "inflate", "([BI[BII)V"⟩
abbrev cJ2_getChars_ba4f3 : ByteArray := prog_20_method_89_code
def yJ2_getChars_ba4f3 : MethodName := ⟨RJ2, "getChars", "(II[B)I"⟩
abbrev cJ2_checkIndex_2214a : ByteArray := prog_20_method_91_code
def yJ2_checkIndex_2214a : MethodName := ⟨RJ2, "checkIndex", "(I[B)V"⟩
abbrev cJ2_checkBoundsBeginEnd_d044e : ByteArray := prog_20_method_93_code
def yJ2_checkBoundsBeginEnd_d044e : MethodName := ⟨RJ2, "checkBoundsBeginEnd", "(II[B)V"⟩
abbrev cJ2_checkBoundsOffCount_d044e : ByteArray := prog_20_method_94_code
def yJ2_checkBoundsOffCount_d044e : MethodName := ⟨RJ2, "checkBoundsOffCount", "(II[B)V"⟩
def RJ10 : String := "java/lang/System"
def TJ10 : u_T := fun k => match k with
  | _ => ("", "", "", false)
def tyJ10 : Nat → FieldType := fun k => match k with
  | _ => .int
abbrev wsJ100 : List Cond := u_ws RJ10 TJ10 0
theorem nmJ10 : ∀ a, a < 0 → ∀ b, b < 0 → a ≠ b → (TJ10 a).2.1 ≠ (TJ10 b).2.1 := by decide +kernel
theorem tyJ10_ok : ∀ k, k < 0 → parseFieldDescriptor (TJ10 k).2.2.1 = some (tyJ10 k) := by decide +kernel
def RJ7 : String := "java/util/Arrays"
def TJ7 : u_T := fun k => match k with
  | _ => ("", "", "", false)
def tyJ7 : Nat → FieldType := fun k => match k with
  | _ => .int
abbrev wsJ70 : List Cond := u_ws RJ7 TJ7 0
theorem nmJ7 : ∀ a, a < 0 → ∀ b, b < 0 → a ≠ b → (TJ7 a).2.1 ≠ (TJ7 b).2.1 := by decide +kernel
theorem tyJ7_ok : ∀ k, k < 0 → parseFieldDescriptor (TJ7 k).2.2.1 = some (tyJ7 k) := by decide +kernel
abbrev cJ7_copyOf_9075b : ByteArray := prog_22_method_121_code
def yJ7_copyOf_9075b : MethodName := ⟨RJ7, "copyOf", "([BI)[B"⟩
abbrev cJ7_checkLength_df160 : ByteArray := prog_22_method_131_code
def yJ7_checkLength_df160 : MethodName := ⟨RJ7, "checkLength", "(II)V"⟩
abbrev cJ7_copyOfRange_39247 : ByteArray := prog_22_method_132_code
def yJ7_copyOfRange_39247 : MethodName := ⟨RJ7, "copyOfRange", "([BII)[B"⟩
abbrev cJ7_copyOfRangeByte_39247 : ByteArray := prog_22_method_133_code
def yJ7_copyOfRangeByte_39247 : MethodName := ⟨RJ7, "copyOfRangeByte", "([BII)[B"⟩
def RJ8 : String := "jdk/internal/util/ArraysSupport"
def TJ8 : u_T := fun k => match k with
  | _ => ("", "", "", false)
def tyJ8 : Nat → FieldType := fun k => match k with
  | _ => .int
abbrev wsJ80 : List Cond := u_ws RJ8 TJ8 0
theorem nmJ8 : ∀ a, a < 0 → ∀ b, b < 0 → a ≠ b → (TJ8 a).2.1 ≠ (TJ8 b).2.1 := by decide +kernel
theorem tyJ8_ok : ∀ k, k < 0 → parseFieldDescriptor (TJ8 k).2.2.1 = some (tyJ8 k) := by decide +kernel
abbrev cJ8_newLength_cabcc : ByteArray := prog_23_method_27_code
def yJ8_newLength_cabcc : MethodName := ⟨RJ8, "newLength", "(III)I"⟩
abbrev cJ8_hugeLength_7cf53 : ByteArray := prog_23_method_28_code
def yJ8_hugeLength_7cf53 : MethodName := ⟨RJ8, "hugeLength", "(II)I"⟩
def RJ3 : String := "jdk/internal/util/Preconditions"
def TJ3 : u_T := fun k => match k with
  | _ => ("", "", "", false)
def tyJ3 : Nat → FieldType := fun k => match k with
  | _ => .int
abbrev wsJ30 : List Cond := u_ws RJ3 TJ3 0
theorem nmJ3 : ∀ a, a < 0 → ∀ b, b < 0 → a ≠ b → (TJ3 a).2.1 ≠ (TJ3 b).2.1 := by decide +kernel
theorem tyJ3_ok : ∀ k, k < 0 → parseFieldDescriptor (TJ3 k).2.2.1 = some (tyJ3 k) := by decide +kernel
abbrev cJ3_checkIndex_8e157 : ByteArray := prog_24_method_11_code
def yJ3_checkIndex_8e157 : MethodName := ⟨RJ3, "checkIndex", "(IILjava/util/function/BiFunction;)I"⟩
abbrev cJ3_checkFromToIndex_8c36e : ByteArray := prog_24_method_12_code
def yJ3_checkFromToIndex_8c36e : MethodName := ⟨RJ3, "checkFromToIndex", "(IIILjava/util/function/BiFunction;)I"⟩
abbrev cJ3_checkFromIndexSize_8c36e : ByteArray := prog_24_method_13_code
def yJ3_checkFromIndexSize_8c36e : MethodName := ⟨RJ3, "checkFromIndexSize", "(IIILjava/util/function/BiFunction;)I"⟩
def RL : String := "UnheardBellsLaw"
abbrev cL_cell : ByteArray := method_2_code
def yL_cell : MethodName := ⟨RL, "cell", "([II)I"⟩
abbrev cL_some : ByteArray := method_4_code
def yL_some : MethodName := ⟨RL, "some", "(LUnheardBellsLaw$Bits;I)I"⟩
abbrev cL_acts : ByteArray := method_5_code
def yL_acts : MethodName := ⟨RL, "acts", "(LUnheardBells;ILUnheardBellsLaw$Bits;)I"⟩
abbrev cL_line : ByteArray := method_6_code
def yL_line : MethodName := ⟨RL, "line", "(LUnheardBells;I)Ljava/lang/String;"⟩
abbrev cL_told : ByteArray := method_7_code
def yL_told : MethodName := ⟨RL, "told", "(LUnheardBells;)Ljava/lang/String;"⟩
abbrev cL_stock : ByteArray := method_8_code
def yL_stock : MethodName := ⟨RL, "stock", "(LUnheardBells;)I"⟩
abbrev cL_pulls : ByteArray := method_9_code
def yL_pulls : MethodName := ⟨RL, "pulls", "(LUnheardBells;)Z"⟩
abbrev cL_ropes : ByteArray := method_10_code
def yL_ropes : MethodName := ⟨RL, "ropes", "(LUnheardBells;)Z"⟩
abbrev cL_guess : ByteArray := method_11_code
def yL_guess : MethodName := ⟨RL, "guess", "(LUnheardBells;I)I"⟩
abbrev cL_parishes : ByteArray := method_12_code
def yL_parishes : MethodName := ⟨RL, "parishes", "(LUnheardBells;)Z"⟩
abbrev cL_answers : ByteArray := method_13_code
def yL_answers : MethodName := ⟨RL, "answers", "(LUnheardBells;)Z"⟩
abbrev cL_foretold : ByteArray := method_14_code
def yL_foretold : MethodName := ⟨RL, "foretold", "(LUnheardBells;)Z"⟩
abbrev cL_law : ByteArray := code
def yL_law : MethodName := ⟨RL, "law", "([I)Z"⟩
abbrev vwCl : List vw_C := [(RJ0, TJ0, 4), (RJ4, TJ4, 4), (RX0, TX0, 6), (RX1, TX1, 3), (RX2, TX2, 2), (RX3, TX3, 4), (RX4, TX4, 4), (RX5, TX5, 7), (RX6, TX6, 2), (RX7, TX7, 12), (RX8, TX8, 9), (RX9, TX9, 1)]
