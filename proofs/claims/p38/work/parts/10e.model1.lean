/-! ===== the reference of the whole check, as functions alone: mathematics; no bytecode of it is in this claim ===== -/
def ufX9_fail (ym_fails : Int32) (l1 : Int32) : Option (Int32 × Int32) :=
  some (l1, l1)
def ufX9_refuses (ym_detail : Int32) (ym_fails : Int32) (ym_why : Int32) (l1 : Int32) (l2 : Int32) : Option (Int32 × Int32 × Int32 × Int32) :=
  ub_b2 (ufX9_fail ym_fails (-1014)) fun x_1 ym_fails_2 =>
  some (x_1, l2, ym_fails_2, l1)
def ufX9_isIn (l0 : Int32) (l1 : Int32) (l2 : Int32) : Option (Int32) :=
  if l0 < l1 then
    some (0)
  else
    if l2 < l0 then
      some (0)
    else
      some (1)
def ulX9_lays_2 (n_p0 : Nat) (n_p1 : Nat) (yo : Nat → Int32) : Nat → (Nat → Int32) → Int32 → Option ((Nat → Int32))
  | 0, _, _ => none
  | k + 1, ym, l2 =>
    if 235 ≤ l2 then
      some (ym)
    else
      ub_gd l2 n_p1 <|
      ub_gd l2 n_p0 <|
      ub_nm (upd ym (Int32.toNatClampNeg l2) (yo (Int32.toNatClampNeg l2))) fun ym_1 =>
      ulX9_lays_2 n_p0 n_p1 yo k ym_1 (l2 + 1)
def ufX9_lays (n_p0 : Nat) (n_p1 : Nat) (ym : Nat → Int32) (yo : Nat → Int32) : Option ((Nat → Int32)) :=
  ulX9_lays_2 n_p0 n_p1 yo ub_F ym 0
def ufX9_begins (ym_fails : Int32) (ym_before : Nat → Int32) (ym_v : Nat → Int32) : Option (Int32 × (Nat → Int32)) :=
  ub_b1 (ufX9_lays 235 235 ym_before ym_v) fun ym_before_1 =>
  some (0, ym_before_1)
def ulX9_ends_75 (ym_changes : Int32) (ym_before : Nat → Int32) (ym_v : Nat → Int32) (l1 : Int32) : Nat → (Nat → Int32) → Int32 → Option (Int32 × Int32 × (Nat → Int32) × (Nat → Int32))
  | 0, _, _ => none
  | k + 1, ym_past, l2 =>
    if 235 ≤ l2 then
      some (l1, ym_changes + 1, ym_past, ym_v)
    else
      ub_gd l2 235 <|
      ub_gd ((ym_changes * 235) + l2) 1880 <|
      ub_nm (upd ym_past (Int32.toNatClampNeg ((ym_changes * 235) + l2)) (ym_before (Int32.toNatClampNeg l2))) fun ym_past_1 =>
      ulX9_ends_75 ym_changes ym_before ym_v l1 k ym_past_1 (l2 + 1)
def ulX9_ends_34 (ym_changes : Int32) (ym_before : Nat → Int32) (ym_v : Nat → Int32) (l1 : Int32) : Nat → (Nat → Int32) → Int32 → Option (Int32 × Int32 × (Nat → Int32) × (Nat → Int32))
  | 0, _, _ => none
  | k + 1, ym_past, l2 =>
    if 1645 ≤ l2 then
      ulX9_ends_75 (ym_changes - 1) ym_before ym_v l1 ub_F ym_past 0
    else
      ub_gd (l2 + 235) 1880 <|
      ub_gd l2 1880 <|
      ub_nm (upd ym_past (Int32.toNatClampNeg l2) (ym_past (Int32.toNatClampNeg (l2 + 235)))) fun ym_past_2 =>
      ulX9_ends_34 ym_changes ym_before ym_v l1 k ym_past_2 (l2 + 1)
def ufX9_ends (ym_changes : Int32) (ym_fails : Int32) (ym_before : Nat → Int32) (ym_past : Nat → Int32) (ym_v : Nat → Int32) (l1 : Int32) : Option (Int32 × Int32 × (Nat → Int32) × (Nat → Int32)) :=
  if ym_fails = 0 then
    if ym_changes = 8 then
      ulX9_ends_34 ym_changes ym_before ym_v l1 ub_F ym_past 0
    else
      ulX9_ends_75 ym_changes ym_before ym_v l1 ub_F ym_past 0
  else
    ub_b1 (ufX9_lays 235 235 ym_v ym_before) fun ym_v_3 =>
    some (ym_fails, ym_changes, ym_past, ym_v_3)
def ufX9_at (l0 : Int32) (l1 : Int32) : Option (Int32) :=
  some ((11 + (6 * l0)) + l1)
def ufX9_isRope (ym_v : Nat → Int32) (l1 : Int32) : Option (Int32) :=
  ub_gd 0 235 <|
  ub_b1 (ufX9_isIn l1 0 ((ym_v (Int32.toNatClampNeg 0)) - 1)) fun x_1 =>
  ub_bz x_1 <|
  some (x_1)
def ufX9_isParish (l0 : Int32) : Option (Int32) :=
  ub_b1 (ufX9_isIn l0 0 3) fun x_1 =>
  ub_bz x_1 <|
  some (x_1)
def ufX9_pulled (ym_v : Nat → Int32) (l1 : Int32) (l2 : Int32) : Option (Int32) :=
  ub_gd ((83 + (3 * l1)) + l2) 235 <|
  ub_nm (ym_v (Int32.toNatClampNeg ((83 + (3 * l1)) + l2))) fun x_1 =>
  some (x_1)
def ufX9_comes (ym_detail : Int32) (ym_fails : Int32) (ym_why : Int32) (ym_v : Nat → Int32) (l1 : Int32) : Option (Int32 × Int32 × Int32 × Int32 × (Nat → Int32)) :=
  ub_b1 (ufX9_isParish l1) fun x_1 =>
  if x_1 = 0 then
    ub_b2 (ufX9_fail ym_fails (-1012)) fun x_11 ym_fails_12 =>
    some (x_11, ym_detail, ym_fails_12, ym_why, ym_v)
  else
    ub_gd 0 235 <|
    if (ym_v (Int32.toNatClampNeg 0)) = 12 then
      ub_b4 (ufX9_refuses ym_detail ym_fails ym_why 1 12) fun x_7 ym_detail_8 ym_fails_9 ym_why_10 =>
      some (x_7, ym_detail_8, ym_fails_9, ym_why_10, ym_v)
    else
      ub_b1 (ufX9_at (ym_v (Int32.toNatClampNeg 0)) 0) fun x_2 =>
      ub_gd x_2 235 <|
      ub_nm (upd ym_v (Int32.toNatClampNeg x_2) l1) fun ym_v_3 =>
      ub_b1 (ufX9_at (ym_v (Int32.toNatClampNeg 0)) 1) fun x_4 =>
      ub_gd x_4 235 <|
      ub_nm (upd ym_v_3 (Int32.toNatClampNeg x_4) 1) fun ym_v_5 =>
      ub_gd 0 235 <|
      ub_gd 0 235 <|
      ub_nm (upd ym_v_5 (Int32.toNatClampNeg 0) ((ym_v_5 (Int32.toNatClampNeg 0)) + 1)) fun ym_v_6 =>
      some (ym_v (Int32.toNatClampNeg 0), ym_detail, ym_fails, ym_why, ym_v_6)
def ufX9_rope (ym_changes : Int32) (ym_detail : Int32) (ym_fails : Int32) (ym_why : Int32) (ym_before : Nat → Int32) (ym_past : Nat → Int32) (ym_v : Nat → Int32) (l1 : Int32) : Option (Int32 × Int32 × Int32 × Int32 × Int32 × (Nat → Int32) × (Nat → Int32) × (Nat → Int32)) :=
  ub_b2 (ufX9_begins ym_fails ym_before ym_v) fun ym_fails_1 ym_before_2 =>
  ub_b5 (ufX9_comes ym_detail ym_fails_1 ym_why ym_v l1) fun x_3 ym_detail_4 ym_fails_5 ym_why_6 ym_v_7 =>
  ub_b4 (ufX9_ends ym_changes ym_fails_5 ym_before_2 ym_past ym_v_7 x_3) fun x_8 ym_changes_9 ym_past_10 ym_v_11 =>
  some (x_8, ym_changes_9, ym_detail_4, ym_fails_5, ym_why_6, ym_before_2, ym_past_10, ym_v_11)
def ufX9_sets (ym_detail : Int32) (ym_fails : Int32) (ym_why : Int32) (ym_v : Nat → Int32) (l1 : Int32) (l2 : Int32) : Option (Int32 × Int32 × Int32 × Int32 × (Nat → Int32)) :=
  ub_gd l1 235 <|
  if (ym_v (Int32.toNatClampNeg l1)) = l2 then
    ub_b4 (ufX9_refuses ym_detail ym_fails ym_why 4 l2) fun x_2 ym_detail_3 ym_fails_4 ym_why_5 =>
    some (x_2, ym_detail_3, ym_fails_4, ym_why_5, ym_v)
  else
    ub_gd l1 235 <|
    ub_nm (upd ym_v (Int32.toNatClampNeg l1) l2) fun ym_v_1 =>
    some (ym_v (Int32.toNatClampNeg l1), ym_detail, ym_fails, ym_why, ym_v_1)
def ufX9_moves (ym_detail : Int32) (ym_fails : Int32) (ym_why : Int32) (ym_v : Nat → Int32) (l1 : Int32) (l2 : Int32) : Option (Int32 × Int32 × Int32 × Int32 × (Nat → Int32)) :=
  ub_b1 (ufX9_isRope ym_v l1) fun x_1 =>
  if x_1 = 0 then
    ub_b2 (ufX9_fail ym_fails (-1011)) fun x_11 ym_fails_12 =>
    some (x_11, ym_detail, ym_fails_12, ym_why, ym_v)
  else
    ub_b1 (ufX9_isParish l2) fun x_2 =>
    if x_2 = 0 then
      ub_b2 (ufX9_fail ym_fails (-1012)) fun x_3 ym_fails_4 =>
      some (x_3, ym_detail, ym_fails_4, ym_why, ym_v)
    else
      ub_b1 (ufX9_at l1 0) fun x_5 =>
      ub_b5 (ufX9_sets ym_detail ym_fails ym_why ym_v x_5 l2) fun x_6 ym_detail_7 ym_fails_8 ym_why_9 ym_v_10 =>
      some (x_6, ym_detail_7, ym_fails_8, ym_why_9, ym_v_10)
def ufX9_move (ym_changes : Int32) (ym_detail : Int32) (ym_fails : Int32) (ym_why : Int32) (ym_before : Nat → Int32) (ym_past : Nat → Int32) (ym_v : Nat → Int32) (l1 : Int32) (l2 : Int32) : Option (Int32 × Int32 × Int32 × Int32 × Int32 × (Nat → Int32) × (Nat → Int32) × (Nat → Int32)) :=
  ub_b2 (ufX9_begins ym_fails ym_before ym_v) fun ym_fails_1 ym_before_2 =>
  ub_b5 (ufX9_moves ym_detail ym_fails_1 ym_why ym_v l1 l2) fun x_3 ym_detail_4 ym_fails_5 ym_why_6 ym_v_7 =>
  ub_b4 (ufX9_ends ym_changes ym_fails_5 ym_before_2 ym_past ym_v_7 x_3) fun x_8 ym_changes_9 ym_past_10 ym_v_11 =>
  some (x_8, ym_changes_9, ym_detail_4, ym_fails_5, ym_why_6, ym_before_2, ym_past_10, ym_v_11)
def ulX9_switches_50 (ym_detail : Int32) (ym_fails : Int32) (ym_why : Int32) (ym_v : Nat → Int32) : Nat → Int32 → Int32 → Option (Int32 × Int32 × Int32 × Int32 × (Nat → Int32))
  | 0, _, _ => none
  | k + 1, l4, l5 =>
    ub_gd 0 235 <|
    if (ym_v (Int32.toNatClampNeg 0)) ≤ l5 then
      some (l4, ym_detail, ym_fails, ym_why, ym_v)
    else
      ub_b1 (ufX9_at l5 1) fun x_9 =>
      ub_gd x_9 235 <|
      ulX9_switches_50 ym_detail ym_fails ym_why ym_v k (l4 + (ym_v (Int32.toNatClampNeg x_9))) (l5 + 1)
def ufX9_switches (ym_detail : Int32) (ym_fails : Int32) (ym_why : Int32) (ym_v : Nat → Int32) (l1 : Int32) (l2 : Int32) : Option (Int32 × Int32 × Int32 × Int32 × (Nat → Int32)) :=
  ub_b1 (ufX9_isRope ym_v l1) fun x_1 =>
  if x_1 = 0 then
    ub_b2 (ufX9_fail ym_fails (-1011)) fun x_12 ym_fails_13 =>
    some (x_12, ym_detail, ym_fails_13, ym_why, ym_v)
  else
    ub_b1 (ufX9_isIn l2 0 1) fun x_2 =>
    if x_2 = 0 then
      ub_b2 (ufX9_fail ym_fails (-1012)) fun x_10 ym_fails_11 =>
      some (x_10, ym_detail, ym_fails_11, ym_why, ym_v)
    else
      ub_b1 (ufX9_at l1 1) fun x_3 =>
      ub_b5 (ufX9_sets ym_detail ym_fails ym_why ym_v x_3 l2) fun x_4 ym_detail_5 ym_fails_6 ym_why_7 ym_v_8 =>
      ulX9_switches_50 ym_detail_5 ym_fails_6 ym_why_7 ym_v_8 ub_F 0 0
def ufX9_sensor (ym_changes : Int32) (ym_detail : Int32) (ym_fails : Int32) (ym_why : Int32) (ym_before : Nat → Int32) (ym_past : Nat → Int32) (ym_v : Nat → Int32) (l1 : Int32) (l2 : Int32) : Option (Int32 × Int32 × Int32 × Int32 × Int32 × (Nat → Int32) × (Nat → Int32) × (Nat → Int32)) :=
  ub_b2 (ufX9_begins ym_fails ym_before ym_v) fun ym_fails_1 ym_before_2 =>
  ub_b5 (ufX9_switches ym_detail ym_fails_1 ym_why ym_v l1 l2) fun x_3 ym_detail_4 ym_fails_5 ym_why_6 ym_v_7 =>
  ub_b4 (ufX9_ends ym_changes ym_fails_5 ym_before_2 ym_past ym_v_7 x_3) fun x_8 ym_changes_9 ym_past_10 ym_v_11 =>
  some (x_8, ym_changes_9, ym_detail_4, ym_fails_5, ym_why_6, ym_before_2, ym_past_10, ym_v_11)
def ufX9_oils (ym_detail : Int32) (ym_fails : Int32) (ym_why : Int32) (ym_v : Nat → Int32) (l1 : Int32) (l2 : Int32) : Option (Int32 × Int32 × Int32 × Int32 × (Nat → Int32)) :=
  ub_b1 (ufX9_isRope ym_v l1) fun x_1 =>
  if x_1 = 0 then
    ub_b2 (ufX9_fail ym_fails (-1011)) fun x_12 ym_fails_13 =>
    some (x_12, ym_detail, ym_fails_13, ym_why, ym_v)
  else
    ub_b1 (ufX9_isIn l2 1 9) fun x_2 =>
    if x_2 = 0 then
      ub_b2 (ufX9_fail ym_fails (-1012)) fun x_10 ym_fails_11 =>
      some (x_10, ym_detail, ym_fails_11, ym_why, ym_v)
    else
      ub_b1 (ufX9_at l1 2) fun x_3 =>
      ub_gd x_3 235 <|
      if l2 ≤ (ym_v (Int32.toNatClampNeg x_3)) then
        ub_b1 (ufX9_at l1 2) fun x_4 =>
        ub_gd x_4 235 <|
        ub_gd x_4 235 <|
        ub_nm (upd ym_v (Int32.toNatClampNeg x_4) ((ym_v (Int32.toNatClampNeg x_4)) - l2)) fun ym_v_5 =>
        some ((ym_v (Int32.toNatClampNeg x_3)) - l2, ym_detail, ym_fails, ym_why, ym_v_5)
      else
        ub_b4 (ufX9_refuses ym_detail ym_fails ym_why 5 (ym_v (Int32.toNatClampNeg x_3))) fun x_6 ym_detail_7 ym_fails_8 ym_why_9 =>
        some (x_6, ym_detail_7, ym_fails_8, ym_why_9, ym_v)
def ufX9_oil (ym_changes : Int32) (ym_detail : Int32) (ym_fails : Int32) (ym_why : Int32) (ym_before : Nat → Int32) (ym_past : Nat → Int32) (ym_v : Nat → Int32) (l1 : Int32) (l2 : Int32) : Option (Int32 × Int32 × Int32 × Int32 × Int32 × (Nat → Int32) × (Nat → Int32) × (Nat → Int32)) :=
  ub_b2 (ufX9_begins ym_fails ym_before ym_v) fun ym_fails_1 ym_before_2 =>
  ub_b5 (ufX9_oils ym_detail ym_fails_1 ym_why ym_v l1 l2) fun x_3 ym_detail_4 ym_fails_5 ym_why_6 ym_v_7 =>
  ub_b4 (ufX9_ends ym_changes ym_fails_5 ym_before_2 ym_past ym_v_7 x_3) fun x_8 ym_changes_9 ym_past_10 ym_v_11 =>
  some (x_8, ym_changes_9, ym_detail_4, ym_fails_5, ym_why_6, ym_before_2, ym_past_10, ym_v_11)
def ulX9_waitingOf_4 (ym_v : Nat → Int32) (l1 : Int32) : Nat → Int32 → Int32 → Option (Int32)
  | 0, _, _ => none
  | k + 1, l2, l3 =>
    ub_gd 1 235 <|
    if (ym_v (Int32.toNatClampNeg 1)) ≤ l3 then
      some (l2)
    else
      ub_b1 (ufX9_pulled ym_v l3 0) fun x_1 =>
      if x_1 = l1 then
        ulX9_waitingOf_4 ym_v l1 k (l2 + 1) (l3 + 1)
      else
        ulX9_waitingOf_4 ym_v l1 k (l2 + 0) (l3 + 1)
def ufX9_waitingOf (ym_v : Nat → Int32) (l1 : Int32) : Option (Int32) :=
  ulX9_waitingOf_4 ym_v l1 ub_F 0 0
def ufX9_ropeOf (ym_v : Nat → Int32) (l1 : Int32) (l2 : Int32) : Option (Int32) :=
  ub_b1 (ufX9_isRope ym_v l1) fun x_1 =>
  if x_1 = 0 then
    some ((-1011))
  else
    ub_b1 (ufX9_isIn l2 0 5) fun x_2 =>
    if x_2 = 0 then
      if l2 = 6 then
        ub_b1 (ufX9_waitingOf ym_v l1) fun x_3 =>
        some (x_3)
      else
        some ((-1012))
    else
      ub_b1 (ufX9_at l1 l2) fun x_4 =>
      ub_gd x_4 235 <|
      some (ym_v (Int32.toNatClampNeg x_4))
def ujX9_isAhead_49 (t0 : Int32) : Option (Int32) :=
  if 0 < t0 then
    some (0)
  else
    some (1)
def ujX9_isAhead_29 (ym_v : Nat → Int32) (l1 : Int32) (l2 : Int32) (t0 : Int32) : Option (Int32) :=
  if t0 = 0 then
    ub_b1 (ufX9_pulled ym_v l1 0) fun x_3 =>
    ujX9_isAhead_49 (x_3 - l2)
  else
    ujX9_isAhead_49 t0
def ufX9_isAhead (ym_v : Nat → Int32) (l1 : Int32) (l2 : Int32) (l3 : Int32) (l4 : Int32) : Option (Int32) :=
  ub_b1 (ufX9_pulled ym_v l1 1) fun x_1 =>
  if (x_1 - l3) = 0 then
    ub_b1 (ufX9_pulled ym_v l1 2) fun x_2 =>
    ujX9_isAhead_29 ym_v l1 l2 (l4 - x_2)
  else
    ujX9_isAhead_29 ym_v l1 l2 (x_1 - l3)
def ujX9_waits_36 (ym_detail : Int32) (ym_fails : Int32) (ym_why : Int32) (ym_v : Nat → Int32) : Option (Int32 × Int32 × Int32 × Int32 × (Nat → Int32)) :=
  ub_b2 (ufX9_fail ym_fails (-1012)) fun x_3 ym_fails_4 =>
  some (x_3, ym_detail, ym_fails_4, ym_why, ym_v)
def ujX9_waits_161 (ym_detail : Int32) (ym_fails : Int32) (ym_why : Int32) (ym_v : Nat → Int32) (l1 : Int32) (l2 : Int32) (l3 : Int32) (l4 : Int32) : Option (Int32 × Int32 × Int32 × Int32 × (Nat → Int32)) :=
  ub_gd (83 + (3 * l4)) 235 <|
  ub_nm (upd ym_v (Int32.toNatClampNeg (83 + (3 * l4))) l1) fun ym_v_6 =>
  ub_gd ((83 + (3 * l4)) + 1) 235 <|
  ub_nm (upd ym_v_6 (Int32.toNatClampNeg ((83 + (3 * l4)) + 1)) l2) fun ym_v_7 =>
  ub_gd ((83 + (3 * l4)) + 2) 235 <|
  ub_nm (upd ym_v_7 (Int32.toNatClampNeg ((83 + (3 * l4)) + 2)) l3) fun ym_v_8 =>
  ub_gd 1 235 <|
  ub_gd 1 235 <|
  ub_nm (upd ym_v_8 (Int32.toNatClampNeg 1) ((ym_v_8 (Int32.toNatClampNeg 1)) + 1)) fun ym_v_9 =>
  ub_gd 4 235 <|
  ub_gd 4 235 <|
  ub_nm (upd ym_v_9 (Int32.toNatClampNeg 4) ((ym_v_9 (Int32.toNatClampNeg 4)) + 1)) fun ym_v_10 =>
  some (l4, ym_detail, ym_fails, ym_why, ym_v_10)
def ulX9_waits_111 (nx89 : (Nat → Int32) → Int32 → Option (Int32 × Int32 × Int32 × Int32 × (Nat → Int32))) (ym_detail : Int32) (ym_fails : Int32) (ym_why : Int32) (l1 : Int32) (l2 : Int32) (l3 : Int32) (l4 : Int32) : Nat → (Nat → Int32) → Int32 → Option (Int32 × Int32 × Int32 × Int32 × (Nat → Int32))
  | 0, _, _ => none
  | k + 1, ym_v, l5 =>
    if 3 ≤ l5 then
      nx89 ym_v (l4 + (-1))
    else
      ub_gd (((83 + (3 * l4)) - 3) + l5) 235 <|
      ub_nm (ym_v (Int32.toNatClampNeg (((83 + (3 * l4)) - 3) + l5))) fun x_12 =>
      ub_gd ((83 + (3 * l4)) + l5) 235 <|
      ub_nm (upd ym_v (Int32.toNatClampNeg ((83 + (3 * l4)) + l5)) x_12) fun ym_v_13 =>
      ulX9_waits_111 nx89 ym_detail ym_fails ym_why l1 l2 l3 l4 k ym_v_13 (l5 + 1)
def ulX9_waits_89 (ym_detail : Int32) (ym_fails : Int32) (ym_why : Int32) (l1 : Int32) (l2 : Int32) (l3 : Int32) : Nat → (Nat → Int32) → Int32 → Option (Int32 × Int32 × Int32 × Int32 × (Nat → Int32))
  | 0, _, _ => none
  | k + 1, ym_v, l4 =>
    if l4 ≤ 0 then
      ujX9_waits_161 ym_detail ym_fails ym_why ym_v l1 l2 l3 l4
    else
      ub_b1 (ufX9_isAhead ym_v (l4 - 1) l1 l2 l3) fun x_11 =>
      if x_11 = 0 then
        ulX9_waits_111 (fun ym_v' l4' => ulX9_waits_89 ym_detail ym_fails ym_why l1 l2 l3 k ym_v' l4') ym_detail ym_fails ym_why l1 l2 l3 l4 ub_F ym_v 0
      else
        ujX9_waits_161 ym_detail ym_fails ym_why ym_v l1 l2 l3 l4
def ufX9_waits (ym_detail : Int32) (ym_fails : Int32) (ym_why : Int32) (ym_v : Nat → Int32) (l1 : Int32) (l2 : Int32) (l3 : Int32) : Option (Int32 × Int32 × Int32 × Int32 × (Nat → Int32)) :=
  ub_b1 (ufX9_isRope ym_v l1) fun x_1 =>
  if x_1 = 0 then
    ub_b2 (ufX9_fail ym_fails (-1011)) fun x_22 ym_fails_23 =>
    some (x_22, ym_detail, ym_fails_23, ym_why, ym_v)
  else
    ub_b1 (ufX9_isIn l2 0 23) fun x_2 =>
    if x_2 = 0 then
      ujX9_waits_36 ym_detail ym_fails ym_why ym_v
    else
      ub_b1 (ufX9_isIn l3 1 9) fun x_5 =>
      if x_5 = 0 then
        ujX9_waits_36 ym_detail ym_fails ym_why ym_v
      else
        ub_gd 2 235 <|
        if (ym_v (Int32.toNatClampNeg 2)) ≤ l2 then
          ub_gd 1 235 <|
          if (ym_v (Int32.toNatClampNeg 1)) = 16 then
            ub_b4 (ufX9_refuses ym_detail ym_fails ym_why 1 16) fun x_14 ym_detail_15 ym_fails_16 ym_why_17 =>
            some (x_14, ym_detail_15, ym_fails_16, ym_why_17, ym_v)
          else
            ulX9_waits_89 ym_detail ym_fails ym_why l1 l2 l3 ub_F ym_v (ym_v (Int32.toNatClampNeg 1))
        else
          ub_gd 2 235 <|
          ub_b4 (ufX9_refuses ym_detail ym_fails ym_why 2 (ym_v (Int32.toNatClampNeg 2))) fun x_18 ym_detail_19 ym_fails_20 ym_why_21 =>
          some (x_18, ym_detail_19, ym_fails_20, ym_why_21, ym_v)
def ufX9_pull (ym_changes : Int32) (ym_detail : Int32) (ym_fails : Int32) (ym_why : Int32) (ym_before : Nat → Int32) (ym_past : Nat → Int32) (ym_v : Nat → Int32) (l1 : Int32) (l2 : Int32) (l3 : Int32) : Option (Int32 × Int32 × Int32 × Int32 × Int32 × (Nat → Int32) × (Nat → Int32) × (Nat → Int32)) :=
  ub_b2 (ufX9_begins ym_fails ym_before ym_v) fun ym_fails_1 ym_before_2 =>
  ub_b5 (ufX9_waits ym_detail ym_fails_1 ym_why ym_v l1 l2 l3) fun x_3 ym_detail_4 ym_fails_5 ym_why_6 ym_v_7 =>
  ub_b4 (ufX9_ends ym_changes ym_fails_5 ym_before_2 ym_past ym_v_7 x_3) fun x_8 ym_changes_9 ym_past_10 ym_v_11 =>
  some (x_8, ym_changes_9, ym_detail_4, ym_fails_5, ym_why_6, ym_before_2, ym_past_10, ym_v_11)
def ujX9_goes_40 (nx7 : (Nat → Int32) → Int32 → Option ((Nat → Int32))) (ym_v : Nat → Int32) (l2 : Int32) (t1 : Int32) (t2 : Int32) : Option ((Nat → Int32)) :=
  ub_gd t1 235 <|
  ub_nm (upd ym_v (Int32.toNatClampNeg t1) t2) fun ym_v_2 =>
  nx7 ym_v_2 (l2 + 1)
def ulX9_goes_7 : Nat → (Nat → Int32) → Int32 → Option ((Nat → Int32))
  | 0, _, _ => none
  | k + 1, ym_v, l2 =>
    if 131 ≤ l2 then
      ub_gd 1 235 <|
      ub_gd 1 235 <|
      ub_nm (upd ym_v (Int32.toNatClampNeg 1) ((ym_v (Int32.toNatClampNeg 1)) - 1)) fun ym_v_1 =>
      some (ym_v_1)
    else
      if 131 ≤ (l2 + 3) then
        ujX9_goes_40 (fun ym_v' l2' => ulX9_goes_7 k ym_v' l2') ym_v l2 l2 0
      else
        ub_gd (l2 + 3) 235 <|
        ujX9_goes_40 (fun ym_v' l2' => ulX9_goes_7 k ym_v' l2') ym_v l2 l2 (ym_v (Int32.toNatClampNeg (l2 + 3)))
def ufX9_goes (ym_v : Nat → Int32) (l1 : Int32) : Option ((Nat → Int32)) :=
  ulX9_goes_7 ub_F ym_v (83 + (3 * l1))
def ulX9_cancels_48 (ym_detail : Int32) (ym_fails : Int32) (ym_why : Int32) (l1 : Int32) (l2 : Int32) : Nat → (Nat → Int32) → Int32 → Option (Int32 × Int32 × Int32 × Int32 × (Nat → Int32))
  | 0, _, _ => none
  | k + 1, ym_v, l3 =>
    if l3 < 0 then
      ub_gd 8 235 <|
      ub_gd 8 235 <|
      ub_nm (upd ym_v (Int32.toNatClampNeg 8) ((ym_v (Int32.toNatClampNeg 8)) + l2)) fun ym_v_3 =>
      ub_gd 1 235 <|
      some (ym_v_3 (Int32.toNatClampNeg 1), ym_detail, ym_fails, ym_why, ym_v_3)
    else
      ub_b1 (ufX9_pulled ym_v l3 0) fun x_4 =>
      if x_4 = l1 then
        ub_b1 (ufX9_goes ym_v l3) fun ym_v_5 =>
        ulX9_cancels_48 ym_detail ym_fails ym_why l1 l2 k ym_v_5 (l3 + (-1))
      else
        ulX9_cancels_48 ym_detail ym_fails ym_why l1 l2 k ym_v (l3 + (-1))
def ufX9_cancels (ym_detail : Int32) (ym_fails : Int32) (ym_why : Int32) (ym_v : Nat → Int32) (l1 : Int32) : Option (Int32 × Int32 × Int32 × Int32 × (Nat → Int32)) :=
  ub_b1 (ufX9_isRope ym_v l1) fun x_1 =>
  if x_1 = 0 then
    ub_b2 (ufX9_fail ym_fails (-1011)) fun x_10 ym_fails_11 =>
    some (x_10, ym_detail, ym_fails_11, ym_why, ym_v)
  else
    ub_b1 (ufX9_waitingOf ym_v l1) fun x_2 =>
    if x_2 = 0 then
      ub_gd 1 235 <|
      ub_b4 (ufX9_refuses ym_detail ym_fails ym_why 6 (ym_v (Int32.toNatClampNeg 1))) fun x_6 ym_detail_7 ym_fails_8 ym_why_9 =>
      some (x_6, ym_detail_7, ym_fails_8, ym_why_9, ym_v)
    else
      ub_gd 1 235 <|
      ulX9_cancels_48 ym_detail ym_fails ym_why l1 x_2 ub_F ym_v ((ym_v (Int32.toNatClampNeg 1)) - 1)
def ufX9_cancel (ym_changes : Int32) (ym_detail : Int32) (ym_fails : Int32) (ym_why : Int32) (ym_before : Nat → Int32) (ym_past : Nat → Int32) (ym_v : Nat → Int32) (l1 : Int32) : Option (Int32 × Int32 × Int32 × Int32 × Int32 × (Nat → Int32) × (Nat → Int32) × (Nat → Int32)) :=
  ub_b2 (ufX9_begins ym_fails ym_before ym_v) fun ym_fails_1 ym_before_2 =>
  ub_b5 (ufX9_cancels ym_detail ym_fails_1 ym_why ym_v l1) fun x_3 ym_detail_4 ym_fails_5 ym_why_6 ym_v_7 =>
  ub_b4 (ufX9_ends ym_changes ym_fails_5 ym_before_2 ym_past ym_v_7 x_3) fun x_8 ym_changes_9 ym_past_10 ym_v_11 =>
  some (x_8, ym_changes_9, ym_detail_4, ym_fails_5, ym_why_6, ym_before_2, ym_past_10, ym_v_11)
def ufX9_isHeard (ym_v : Nat → Int32) (l1 : Int32) (l2 : Int32) : Option (Int32) :=
  ub_b1 (ufX9_at l1 1) fun x_1 =>
  ub_gd x_1 235 <|
  if (ym_v (Int32.toNatClampNeg x_1)) = 1 then
    ub_b1 (ufX9_at l1 2) fun x_2 =>
    ub_gd x_2 235 <|
    if l2 ≤ (ym_v (Int32.toNatClampNeg x_2)) then
      some (0)
    else
      some (1)
  else
    some (0)
def ujX9_answers_177 (ym_v : Nat → Int32) (t1 : Int32) (t2 : Int32) : Option ((Nat → Int32)) :=
  ub_gd t1 235 <|
  ub_nm (upd ym_v (Int32.toNatClampNeg t1) t2) fun ym_v_10 =>
  some (ym_v_10)
def ulX9_answers_74 (l1 : Int32) (l2 : Int32) (l3 : Int32) : Nat → (Nat → Int32) → Int32 → Option ((Nat → Int32))
  | 0, _, _ => none
  | k + 1, ym_v, l4 =>
    if l4 < 135 then
      ub_gd 131 235 <|
      ub_nm (upd ym_v (Int32.toNatClampNeg 131) l1) fun ym_v_6 =>
      ub_gd 132 235 <|
      ub_nm (upd ym_v_6 (Int32.toNatClampNeg 132) l2) fun ym_v_7 =>
      ub_gd 3 235 <|
      ub_gd 133 235 <|
      ub_nm (upd ym_v_7 (Int32.toNatClampNeg 133) (ym_v_7 (Int32.toNatClampNeg 3))) fun ym_v_8 =>
      ub_gd 134 235 <|
      ub_nm (upd ym_v_8 (Int32.toNatClampNeg 134) l3) fun ym_v_9 =>
      ub_gd 9 235 <|
      if 20 ≤ (ym_v_9 (Int32.toNatClampNeg 9)) then
        ujX9_answers_177 ym_v_9 9 20
      else
        ub_gd 9 235 <|
        ujX9_answers_177 ym_v_9 9 ((ym_v_9 (Int32.toNatClampNeg 9)) + 1)
    else
      ub_gd (l4 - 4) 235 <|
      ub_gd l4 235 <|
      ub_nm (upd ym_v (Int32.toNatClampNeg l4) (ym_v (Int32.toNatClampNeg (l4 - 4)))) fun ym_v_11 =>
      ulX9_answers_74 l1 l2 l3 k ym_v_11 (l4 + (-1))
def ujX9_answers_29 (ym_v : Nat → Int32) (l1 : Int32) (l2 : Int32) (l3 : Int32) : Option ((Nat → Int32)) :=
  ub_b1 (ufX9_at l1 3) fun x_2 =>
  ub_gd x_2 235 <|
  ub_gd x_2 235 <|
  ub_nm (upd ym_v (Int32.toNatClampNeg x_2) ((ym_v (Int32.toNatClampNeg x_2)) + 1)) fun ym_v_3 =>
  ub_gd 5 235 <|
  ub_gd 5 235 <|
  ub_nm (upd ym_v_3 (Int32.toNatClampNeg 5) ((ym_v_3 (Int32.toNatClampNeg 5)) + 1)) fun ym_v_4 =>
  ub_gd (211 + l2) 235 <|
  ub_gd (211 + l2) 235 <|
  ub_nm (upd ym_v_4 (Int32.toNatClampNeg (211 + l2)) ((ym_v_4 (Int32.toNatClampNeg (211 + l2))) ||| (1 <<< (l1 &&& 31)))) fun ym_v_5 =>
  ulX9_answers_74 l1 l2 l3 ub_F ym_v_5 210
def ufX9_answers (ym_v : Nat → Int32) (l1 : Int32) (l2 : Int32) (l3 : Int32) : Option ((Nat → Int32)) :=
  ub_b1 (ufX9_at l1 2) fun x_1 =>
  ub_gd x_1 235 <|
  if 9 ≤ (ym_v (Int32.toNatClampNeg x_1)) then
    ujX9_answers_29 ym_v l1 l2 l3
  else
    ub_b1 (ufX9_at l1 2) fun x_12 =>
    ub_gd x_12 235 <|
    ub_gd x_12 235 <|
    ub_nm (upd ym_v (Int32.toNatClampNeg x_12) ((ym_v (Int32.toNatClampNeg x_12)) + 1)) fun ym_v_13 =>
    ujX9_answers_29 ym_v_13 l1 l2 l3
def ufX9_ringsNext (ym_v : Nat → Int32) : Option (Int32 × (Nat → Int32)) :=
  ub_b1 (ufX9_pulled ym_v 0 0) fun x_1 =>
  ub_b1 (ufX9_pulled ym_v 0 1) fun x_2 =>
  ub_b1 (ufX9_pulled ym_v 0 2) fun x_3 =>
  ub_b1 (ufX9_goes ym_v 0) fun ym_v_4 =>
  ub_gd 2 235 <|
  ub_nm (upd ym_v_4 (Int32.toNatClampNeg 2) x_2) fun ym_v_5 =>
  ub_gd 10 235 <|
  ub_gd 10 235 <|
  ub_nm (upd ym_v_5 (Int32.toNatClampNeg 10) ((ym_v_5 (Int32.toNatClampNeg 10)) + 1)) fun ym_v_6 =>
  ub_gd (211 + x_2) 235 <|
  if (((ym_v_6 (Int32.toNatClampNeg (211 + x_2))) >>> (x_1 &&& 31)) &&& 1) = 1 then
    ub_b1 (ufX9_at x_1 5) fun x_12 =>
    ub_gd x_12 235 <|
    ub_gd x_12 235 <|
    ub_nm (upd ym_v_6 (Int32.toNatClampNeg x_12) ((ym_v_6 (Int32.toNatClampNeg x_12)) + 1)) fun ym_v_13 =>
    ub_gd 7 235 <|
    ub_gd 7 235 <|
    ub_nm (upd ym_v_13 (Int32.toNatClampNeg 7) ((ym_v_13 (Int32.toNatClampNeg 7)) + 1)) fun ym_v_14 =>
    some (2, ym_v_14)
  else
    ub_b1 (ufX9_isHeard ym_v_6 x_1 x_3) fun x_7 =>
    if x_7 = 0 then
      ub_b1 (ufX9_at x_1 4) fun x_8 =>
      ub_gd x_8 235 <|
      ub_gd x_8 235 <|
      ub_nm (upd ym_v_6 (Int32.toNatClampNeg x_8) ((ym_v_6 (Int32.toNatClampNeg x_8)) + 1)) fun ym_v_9 =>
      ub_gd 6 235 <|
      ub_gd 6 235 <|
      ub_nm (upd ym_v_9 (Int32.toNatClampNeg 6) ((ym_v_9 (Int32.toNatClampNeg 6)) + 1)) fun ym_v_10 =>
      some (0, ym_v_10)
    else
      ub_b1 (ufX9_answers ym_v_6 x_1 x_2 x_3) fun ym_v_11 =>
      some (1, ym_v_11)
def ufX9_rings (ym_detail : Int32) (ym_fails : Int32) (ym_why : Int32) (ym_v : Nat → Int32) : Option (Int32 × Int32 × Int32 × Int32 × (Nat → Int32)) :=
  ub_gd 1 235 <|
  if (ym_v (Int32.toNatClampNeg 1)) = 0 then
    ub_gd 10 235 <|
    ub_b4 (ufX9_refuses ym_detail ym_fails ym_why 3 (ym_v (Int32.toNatClampNeg 10))) fun x_3 ym_detail_4 ym_fails_5 ym_why_6 =>
    some (x_3, ym_detail_4, ym_fails_5, ym_why_6, ym_v)
  else
    ub_b2 (ufX9_ringsNext ym_v) fun x_1 ym_v_2 =>
    some (x_1, ym_detail, ym_fails, ym_why, ym_v_2)
def ufX9_ring (ym_changes : Int32) (ym_detail : Int32) (ym_fails : Int32) (ym_why : Int32) (ym_before : Nat → Int32) (ym_past : Nat → Int32) (ym_v : Nat → Int32) : Option (Int32 × Int32 × Int32 × Int32 × Int32 × (Nat → Int32) × (Nat → Int32) × (Nat → Int32)) :=
  ub_b2 (ufX9_begins ym_fails ym_before ym_v) fun ym_fails_1 ym_before_2 =>
  ub_b5 (ufX9_rings ym_detail ym_fails_1 ym_why ym_v) fun x_3 ym_detail_4 ym_fails_5 ym_why_6 ym_v_7 =>
  ub_b4 (ufX9_ends ym_changes ym_fails_5 ym_before_2 ym_past ym_v_7 x_3) fun x_8 ym_changes_9 ym_past_10 ym_v_11 =>
  some (x_8, ym_changes_9, ym_detail_4, ym_fails_5, ym_why_6, ym_before_2, ym_past_10, ym_v_11)
def ulX9_hours_31 (ym_detail : Int32) (ym_fails : Int32) (ym_why : Int32) (l1 : Int32) : Nat → (Nat → Int32) → Int32 → Option (Int32 × Int32 × Int32 × Int32 × (Nat → Int32))
  | 0, _, _ => none
  | k + 1, ym_v, l2 =>
    ub_gd 1 235 <|
    if (ym_v (Int32.toNatClampNeg 1)) ≤ 0 then
      some (l2, ym_detail, ym_fails, ym_why, ym_v)
    else
      ub_b1 (ufX9_pulled ym_v 0 1) fun x_2 =>
      if x_2 = l1 then
        ub_b2 (ufX9_ringsNext ym_v) fun x_3 ym_v_4 =>
        if x_3 = 1 then
          ulX9_hours_31 ym_detail ym_fails ym_why l1 k ym_v_4 (l2 + 1)
        else
          ulX9_hours_31 ym_detail ym_fails ym_why l1 k ym_v_4 (l2 + 0)
      else
        some (l2, ym_detail, ym_fails, ym_why, ym_v)
def ufX9_hours (ym_detail : Int32) (ym_fails : Int32) (ym_why : Int32) (ym_v : Nat → Int32) : Option (Int32 × Int32 × Int32 × Int32 × (Nat → Int32)) :=
  ub_gd 1 235 <|
  if (ym_v (Int32.toNatClampNeg 1)) = 0 then
    ub_gd 10 235 <|
    ub_b4 (ufX9_refuses ym_detail ym_fails ym_why 3 (ym_v (Int32.toNatClampNeg 10))) fun x_5 ym_detail_6 ym_fails_7 ym_why_8 =>
    some (x_5, ym_detail_6, ym_fails_7, ym_why_8, ym_v)
  else
    ub_b1 (ufX9_pulled ym_v 0 1) fun x_1 =>
    ulX9_hours_31 ym_detail ym_fails ym_why x_1 ub_F ym_v 0
def ufX9_hour (ym_changes : Int32) (ym_detail : Int32) (ym_fails : Int32) (ym_why : Int32) (ym_before : Nat → Int32) (ym_past : Nat → Int32) (ym_v : Nat → Int32) : Option (Int32 × Int32 × Int32 × Int32 × Int32 × (Nat → Int32) × (Nat → Int32) × (Nat → Int32)) :=
  ub_b2 (ufX9_begins ym_fails ym_before ym_v) fun ym_fails_1 ym_before_2 =>
  ub_b5 (ufX9_hours ym_detail ym_fails_1 ym_why ym_v) fun x_3 ym_detail_4 ym_fails_5 ym_why_6 ym_v_7 =>
  ub_b4 (ufX9_ends ym_changes ym_fails_5 ym_before_2 ym_past ym_v_7 x_3) fun x_8 ym_changes_9 ym_past_10 ym_v_11 =>
  some (x_8, ym_changes_9, ym_detail_4, ym_fails_5, ym_why_6, ym_before_2, ym_past_10, ym_v_11)
def ulX9_endsDay_122 (l1 : Int32) (l2 : Int32) : Nat → (Nat → Int32) → Int32 → Option (Int32 × (Nat → Int32))
  | 0, _, _ => none
  | k + 1, ym_v, l3 =>
    ub_gd 0 235 <|
    if (ym_v (Int32.toNatClampNeg 0)) ≤ l3 then
      ub_gd 2 235 <|
      ub_nm (upd ym_v (Int32.toNatClampNeg 2) 0) fun ym_v_3 =>
      ub_gd 3 235 <|
      ub_gd 3 235 <|
      ub_nm (upd ym_v_3 (Int32.toNatClampNeg 3) ((ym_v_3 (Int32.toNatClampNeg 3)) + 1)) fun ym_v_4 =>
      some (l1, ym_v_4)
    else
      if ((l2 >>> (l3 &&& 31)) &&& 1) = 0 then
        ub_b1 (ufX9_at l3 2) fun x_5 =>
        ub_gd x_5 235 <|
        if (ym_v (Int32.toNatClampNeg x_5)) ≤ 0 then
          ulX9_endsDay_122 l1 l2 k ym_v (l3 + 1)
        else
          ub_b1 (ufX9_at l3 2) fun x_6 =>
          ub_gd x_6 235 <|
          ub_gd x_6 235 <|
          ub_nm (upd ym_v (Int32.toNatClampNeg x_6) ((ym_v (Int32.toNatClampNeg x_6)) - 1)) fun ym_v_7 =>
          ulX9_endsDay_122 l1 l2 k ym_v_7 (l3 + 1)
      else
        ulX9_endsDay_122 l1 l2 k ym_v (l3 + 1)
def ulX9_endsDay_84 (l1 : Int32) : Nat → (Nat → Int32) → Int32 → Int32 → Option (Int32 × (Nat → Int32))
  | 0, _, _, _ => none
  | k + 1, ym_v, l2, l3 =>
    if 24 ≤ l3 then
      ulX9_endsDay_122 l1 l2 ub_F ym_v 0
    else
      ub_gd (211 + l3) 235 <|
      ub_gd (211 + l3) 235 <|
      ub_nm (upd ym_v (Int32.toNatClampNeg (211 + l3)) 0) fun ym_v_8 =>
      ulX9_endsDay_84 l1 k ym_v_8 (l2 ||| (ym_v (Int32.toNatClampNeg (211 + l3)))) (l3 + 1)
def ulX9_endsDay_44 (l1 : Int32) (l2 : Int32) : Nat → (Nat → Int32) → Int32 → Option (Int32 × (Nat → Int32))
  | 0, _, _ => none
  | k + 1, ym_v, l3 =>
    if 131 ≤ l3 then
      ub_gd 1 235 <|
      ub_nm (upd ym_v (Int32.toNatClampNeg 1) 0) fun ym_v_1 =>
      ub_gd 6 235 <|
      ub_gd 6 235 <|
      ub_nm (upd ym_v_1 (Int32.toNatClampNeg 6) ((ym_v_1 (Int32.toNatClampNeg 6)) + l1)) fun ym_v_2 =>
      ulX9_endsDay_84 l1 ub_F ym_v_2 l2 0
    else
      ub_gd l3 235 <|
      ub_nm (upd ym_v (Int32.toNatClampNeg l3) 0) fun ym_v_9 =>
      ulX9_endsDay_44 l1 l2 k ym_v_9 (l3 + 1)
def ulX9_endsDay_11 (l1 : Int32) (l2 : Int32) : Nat → (Nat → Int32) → Int32 → Option (Int32 × (Nat → Int32))
  | 0, _, _ => none
  | k + 1, ym_v, l3 =>
    if l1 ≤ l3 then
      ulX9_endsDay_44 l1 l2 ub_F ym_v 83
    else
      ub_b1 (ufX9_pulled ym_v l3 0) fun x_10 =>
      ub_b1 (ufX9_at x_10 4) fun x_11 =>
      ub_gd x_11 235 <|
      ub_gd x_11 235 <|
      ub_nm (upd ym_v (Int32.toNatClampNeg x_11) ((ym_v (Int32.toNatClampNeg x_11)) + 1)) fun ym_v_12 =>
      ulX9_endsDay_11 l1 l2 k ym_v_12 (l3 + 1)
def ufX9_endsDay (ym_v : Nat → Int32) : Option (Int32 × (Nat → Int32)) :=
  ub_gd 1 235 <|
  ulX9_endsDay_11 (ym_v (Int32.toNatClampNeg 1)) 0 ub_F ym_v 0
def ufX9_end (ym_changes : Int32) (ym_fails : Int32) (ym_before : Nat → Int32) (ym_past : Nat → Int32) (ym_v : Nat → Int32) : Option (Int32 × Int32 × Int32 × (Nat → Int32) × (Nat → Int32) × (Nat → Int32)) :=
  ub_b2 (ufX9_begins ym_fails ym_before ym_v) fun ym_fails_1 ym_before_2 =>
  ub_b2 (ufX9_endsDay ym_v) fun x_3 ym_v_4 =>
  ub_b4 (ufX9_ends ym_changes ym_fails_1 ym_before_2 ym_past ym_v_4 x_3) fun x_5 ym_changes_6 ym_past_7 ym_v_8 =>
  some (x_5, ym_changes_6, ym_fails_1, ym_before_2, ym_past_7, ym_v_8)
def ufX9_waiting (ym_v : Nat → Int32) (l1 : Int32) (l2 : Int32) : Option (Int32) :=
  ub_gd 1 235 <|
  ub_b1 (ufX9_isIn l1 0 ((ym_v (Int32.toNatClampNeg 1)) - 1)) fun x_1 =>
  if x_1 = 0 then
    some ((-1011))
  else
    ub_b1 (ufX9_isIn l2 0 2) fun x_2 =>
    if x_2 = 0 then
      some ((-1012))
    else
      ub_b1 (ufX9_pulled ym_v l1 l2) fun x_3 =>
      some (x_3)
def ufX9_would (ym_v : Nat → Int32) (l1 : Int32) (l2 : Int32) : Option (Int32) :=
  ub_b1 (ufX9_isRope ym_v l1) fun x_1 =>
  if x_1 = 0 then
    some ((-1011))
  else
    ub_b1 (ufX9_isIn l2 1 9) fun x_2 =>
    if x_2 = 0 then
      some ((-1012))
    else
      ub_b1 (ufX9_isHeard ym_v l1 l2) fun x_3 =>
      if x_3 = 0 then
        some (0)
      else
        some (1)
def ulX9_forecast_13 (ym_kept : Nat → Int32) : Nat → (Nat → Int32) → Int32 → Option (Int32 × (Nat → Int32) × (Nat → Int32))
  | 0, _, _ => none
  | k + 1, ym_v, l1 =>
    ub_gd 1 235 <|
    if (ym_v (Int32.toNatClampNeg 1)) ≤ 0 then
      ub_b1 (ufX9_lays 235 235 ym_v ym_kept) fun ym_v_2 =>
      some (l1, ym_kept, ym_v_2)
    else
      ub_b2 (ufX9_ringsNext ym_v) fun x_3 ym_v_4 =>
      if x_3 = 1 then
        ulX9_forecast_13 ym_kept k ym_v_4 (l1 + 1)
      else
        ulX9_forecast_13 ym_kept k ym_v_4 (l1 + 0)
def ufX9_forecast (ym_kept : Nat → Int32) (ym_v : Nat → Int32) : Option (Int32 × (Nat → Int32) × (Nat → Int32)) :=
  ub_b1 (ufX9_lays 235 235 ym_kept ym_v) fun ym_kept_1 =>
  ulX9_forecast_13 ym_kept_1 ub_F ym_v 0
def ufX9_forecastAgain (ym_kept : Nat → Int32) (ym_v : Nat → Int32) : Option (Int32 × (Nat → Int32) × (Nat → Int32)) :=
  ub_b3 (ufX9_forecast ym_kept ym_v) fun x_1 ym_kept_2 ym_v_3 =>
  some (x_1, ym_kept_2, ym_v_3)
def ufX9_answerOf (ym_v : Nat → Int32) (l1 : Int32) (l2 : Int32) : Option (Int32) :=
  ub_gd 9 235 <|
  ub_b1 (ufX9_isIn l1 0 ((ym_v (Int32.toNatClampNeg 9)) - 1)) fun x_1 =>
  if x_1 = 0 then
    some ((-1011))
  else
    ub_b1 (ufX9_isIn l2 0 3) fun x_2 =>
    if x_2 = 0 then
      some ((-1012))
    else
      ub_gd ((131 + (4 * l1)) + l2) 235 <|
      ub_nm (ym_v (Int32.toNatClampNeg ((131 + (4 * l1)) + l2))) fun x_3 =>
      some (x_3)
def ufX9_isHour (l0 : Int32) : Option (Int32) :=
  ub_b1 (ufX9_isIn l0 0 23) fun x_1 =>
  ub_bz x_1 <|
  some (x_1)
def ufX9_answered (ym_v : Nat → Int32) (l1 : Int32) : Option (Int32) :=
  ub_b1 (ufX9_isHour l1) fun x_1 =>
  if x_1 = 0 then
    some ((-1012))
  else
    ub_gd (211 + l1) 235 <|
    some (ym_v (Int32.toNatClampNeg (211 + l1)))
def ulX9_ropesOf_5 (ym_v : Nat → Int32) (l1 : Int32) (l2 : Int32) : Nat → Int32 → Int32 → Option (Int32)
  | 0, _, _ => none
  | k + 1, l3, l4 =>
    ub_gd 0 235 <|
    if (ym_v (Int32.toNatClampNeg 0)) ≤ l4 then
      some (l3)
    else
      ub_b1 (ufX9_at l4 0) fun x_1 =>
      ub_gd x_1 235 <|
      if (ym_v (Int32.toNatClampNeg x_1)) = l1 then
        if ((l2 >>> (l4 &&& 31)) &&& 1) = 1 then
          ulX9_ropesOf_5 ym_v l1 l2 k (l3 + 1) (l4 + 1)
        else
          ulX9_ropesOf_5 ym_v l1 l2 k (l3 + 0) (l4 + 1)
      else
        ulX9_ropesOf_5 ym_v l1 l2 k (l3 + 0) (l4 + 1)
def ufX9_ropesOf (ym_v : Nat → Int32) (l1 : Int32) (l2 : Int32) : Option (Int32) :=
  ulX9_ropesOf_5 ym_v l1 l2 ub_F 0 0
def ujX9_guessed_112 (l3 : Int32) : Option (Int32) :=
  if 0 ≤ l3 then
    some (l3)
  else
    some ((-1015))
def ujX9_guessed_95 (nx22 : Int32 → Int32 → Int32 → Int32 → Option (Int32)) (ym_v : Nat → Int32) (l2 : Int32) (l6 : Int32) (l7 : Int32) (l8 : Int32) : Option (Int32) :=
  nx22 l6 l7 l8 (l6 + 1)
def ulX9_guessed_22 (ym_v : Nat → Int32) (l2 : Int32) : Nat → Int32 → Int32 → Int32 → Int32 → Option (Int32)
  | 0, _, _, _, _ => none
  | k + 1, l3, l4, l5, l6 =>
    if 4 ≤ l6 then
      ujX9_guessed_112 l3
    else
      if l2 = 0 then
        ujX9_guessed_112 l3
      else
        ub_b1 (ufX9_ropesOf ym_v l6 l2) fun x_1 =>
        ub_b1 (ufX9_ropesOf ym_v l6 (-1)) fun x_2 =>
        if x_1 = 0 then
          ulX9_guessed_22 ym_v l2 k l3 l4 l5 (l6 + 1)
        else
          if l3 < 0 then
            ujX9_guessed_95 (fun l3' l4' l5' l6' => ulX9_guessed_22 ym_v l2 k l3' l4' l5' l6') ym_v l2 l6 x_1 x_2
          else
            if ((x_1 * l5) - (l4 * x_2)) < 0 then
              ulX9_guessed_22 ym_v l2 k l3 l4 l5 (l6 + 1)
            else
              if ((x_1 * l5) - (l4 * x_2)) = 0 then
                if l4 < x_1 then
                  ujX9_guessed_95 (fun l3' l4' l5' l6' => ulX9_guessed_22 ym_v l2 k l3' l4' l5' l6') ym_v l2 l6 x_1 x_2
                else
                  ulX9_guessed_22 ym_v l2 k l3 l4 l5 (l6 + 1)
              else
                ujX9_guessed_95 (fun l3' l4' l5' l6' => ulX9_guessed_22 ym_v l2 k l3' l4' l5' l6') ym_v l2 l6 x_1 x_2
def ufX9_guessed (ym_v : Nat → Int32) (l1 : Int32) : Option (Int32) :=
  ub_gd (211 + l1) 235 <|
  ulX9_guessed_22 ym_v (ym_v (Int32.toNatClampNeg (211 + l1))) ub_F (-1) 0 1 0
def ufX9_guess (ym_v : Nat → Int32) (l1 : Int32) : Option (Int32) :=
  ub_b1 (ufX9_isHour l1) fun x_1 =>
  if x_1 = 0 then
    some ((-1012))
  else
    ub_b1 (ufX9_guessed ym_v l1) fun x_2 =>
    some (x_2)
def ufX9_guessAgain (ym_v : Nat → Int32) (l1 : Int32) : Option (Int32) :=
  ub_b1 (ufX9_guess ym_v l1) fun x_1 =>
  some (x_1)
def ulX9_sum_5 (ym_v : Nat → Int32) (l1 : Int32) (l2 : Int32) : Nat → Int32 → Int32 → Option (Int32)
  | 0, _, _ => none
  | k + 1, l3, l4 =>
    ub_gd 0 235 <|
    if (ym_v (Int32.toNatClampNeg 0)) ≤ l4 then
      some (l3)
    else
      ub_b1 (ufX9_at l4 0) fun x_1 =>
      ub_gd x_1 235 <|
      if (ym_v (Int32.toNatClampNeg x_1)) = l1 then
        if l2 = 6 then
          ub_b1 (ufX9_waitingOf ym_v l4) fun x_3 =>
          ulX9_sum_5 ym_v l1 l2 k (l3 + x_3) (l4 + 1)
        else
          ub_b1 (ufX9_at l4 l2) fun x_2 =>
          ub_gd x_2 235 <|
          ulX9_sum_5 ym_v l1 l2 k (l3 + (ym_v (Int32.toNatClampNeg x_2))) (l4 + 1)
      else
        ulX9_sum_5 ym_v l1 l2 k l3 (l4 + 1)
def ufX9_sum (ym_v : Nat → Int32) (l1 : Int32) (l2 : Int32) : Option (Int32) :=
  ulX9_sum_5 ym_v l1 l2 ub_F 0 0
def ulX9_hoursOf_4 (ym_v : Nat → Int32) (l1 : Int32) : Nat → Int32 → Int32 → Option (Int32)
  | 0, _, _ => none
  | k + 1, l2, l3 =>
    if 24 ≤ l3 then
      some (l2)
    else
      ub_b1 (ufX9_guessed ym_v l3) fun x_1 =>
      if x_1 = l1 then
        ulX9_hoursOf_4 ym_v l1 k (l2 + 1) (l3 + 1)
      else
        ulX9_hoursOf_4 ym_v l1 k (l2 + 0) (l3 + 1)
def ufX9_hoursOf (ym_v : Nat → Int32) (l1 : Int32) : Option (Int32) :=
  ulX9_hoursOf_4 ym_v l1 ub_F 0 0
def ufX9_parishOf (ym_v : Nat → Int32) (l1 : Int32) (l2 : Int32) : Option (Int32) :=
  ub_b1 (ufX9_isParish l1) fun x_1 =>
  if x_1 = 0 then
    some ((-1011))
  else
    if l2 = 0 then
      ub_b1 (ufX9_ropesOf ym_v l1 (-1)) fun x_2 =>
      some (x_2)
    else
    if l2 = 1 then
      ub_b1 (ufX9_sum ym_v l1 3) fun x_3 =>
      some (x_3)
    else
    if l2 = 2 then
      ub_b1 (ufX9_sum ym_v l1 2) fun x_4 =>
      some (x_4)
    else
    if l2 = 3 then
      ub_b1 (ufX9_hoursOf ym_v l1) fun x_5 =>
      some (x_5)
    else
    if l2 = 4 then
      ub_b1 (ufX9_sum ym_v l1 6) fun x_6 =>
      some (x_6)
    else
    some ((-1012))
def ulX9_bits_4 : Nat → Int32 → Int32 → Option (Int32)
  | 0, _, _ => none
  | k + 1, l1, l2 =>
    if l2 = 0 then
      some (l1)
    else
      ulX9_bits_4 k (l1 + 1) (l2 &&& (l2 - 1))
def ufX9_bits (l0 : Int32) : Option (Int32) :=
  ulX9_bits_4 ub_F 0 l0
def ulX9_busiest_4 (ym_v : Nat → Int32) : Nat → Int32 → Int32 → Option (Int32)
  | 0, _, _ => none
  | k + 1, l1, l2 =>
    if 24 ≤ l2 then
      ub_gd (211 + l1) 235 <|
      if (ym_v (Int32.toNatClampNeg (211 + l1))) = 0 then
        some ((-1015))
      else
        some (l1)
    else
      ub_gd (211 + l2) 235 <|
      ub_b1 (ufX9_bits (ym_v (Int32.toNatClampNeg (211 + l2)))) fun x_1 =>
      ub_gd (211 + l1) 235 <|
      ub_b1 (ufX9_bits (ym_v (Int32.toNatClampNeg (211 + l1)))) fun x_2 =>
      if x_1 ≤ x_2 then
        ulX9_busiest_4 ym_v k l1 (l2 + 1)
      else
        ulX9_busiest_4 ym_v k l2 (l2 + 1)
def ufX9_busiest (ym_v : Nat → Int32) : Option (Int32) :=
  ulX9_busiest_4 ym_v ub_F 0 1
def ujX9_rustiest_84 (nx2 : Int32 → Option (Int32)) (nx17 : Int32 → Int32 → Option (Int32)) (ym_v : Nat → Int32) (l1 : Int32) (l2 : Int32) (l3 : Int32) (l4 : Int32) (t0 : Int32) : Option (Int32) :=
  if l4 = l2 then
    nx17 (l3 + 0) (l4 + 1)
  else
    if 0 < t0 then
      nx17 (l3 + 1) (l4 + 1)
    else
      if t0 = 0 then
        if l2 ≤ l4 then
          nx17 (l3 + 0) (l4 + 1)
        else
          nx17 (l3 + 1) (l4 + 1)
      else
        nx17 (l3 + 0) (l4 + 1)
def ulX9_rustiest_17 (nx2 : Int32 → Option (Int32)) (ym_v : Nat → Int32) (l1 : Int32) (l2 : Int32) : Nat → Int32 → Int32 → Option (Int32)
  | 0, _, _ => none
  | k + 1, l3, l4 =>
    ub_gd 0 235 <|
    if (ym_v (Int32.toNatClampNeg 0)) ≤ l4 then
      if l3 = l1 then
        some (l2)
      else
        nx2 (l2 + 1)
    else
      ub_b1 (ufX9_at l4 2) fun x_1 =>
      ub_gd x_1 235 <|
      ub_b1 (ufX9_at l2 2) fun x_2 =>
      ub_gd x_2 235 <|
      ub_nm ((ym_v (Int32.toNatClampNeg x_1)) - (ym_v (Int32.toNatClampNeg x_2))) fun x_3 =>
      if x_3 = 0 then
        ub_b1 (ufX9_at l2 3) fun x_4 =>
        ub_gd x_4 235 <|
        ub_b1 (ufX9_at l4 3) fun x_5 =>
        ub_gd x_5 235 <|
        ujX9_rustiest_84 nx2 (fun l3' l4' => ulX9_rustiest_17 nx2 ym_v l1 l2 k l3' l4') ym_v l1 l2 l3 l4 ((ym_v (Int32.toNatClampNeg x_4)) - (ym_v (Int32.toNatClampNeg x_5)))
      else
        ujX9_rustiest_84 nx2 (fun l3' l4' => ulX9_rustiest_17 nx2 ym_v l1 l2 k l3' l4') ym_v l1 l2 l3 l4 x_3
def ulX9_rustiest_2 (ym_v : Nat → Int32) (l1 : Int32) : Nat → Int32 → Option (Int32)
  | 0, _ => none
  | k + 1, l2 =>
    ub_gd 0 235 <|
    if (ym_v (Int32.toNatClampNeg 0)) ≤ l2 then
      some ((-1011))
    else
      ulX9_rustiest_17 (fun l2' => ulX9_rustiest_2 ym_v l1 k l2') ym_v l1 l2 ub_F 0 0
def ufX9_rustiest (ym_v : Nat → Int32) (l1 : Int32) : Option (Int32) :=
  ulX9_rustiest_2 ym_v l1 ub_F 0
def ujX9_ranked_58 (nx2 : Int32 → Option (Int32)) (nx12 : Int32 → Int32 → Option (Int32)) (ym_v : Nat → Int32) (l1 : Int32) (l2 : Int32) (l3 : Int32) (l4 : Int32) (t0 : Int32) : Option (Int32) :=
  if l4 = l2 then
    nx12 (l3 + 0) (l4 + 1)
  else
    if 0 < t0 then
      nx12 (l3 + 1) (l4 + 1)
    else
      if t0 = 0 then
        if l2 ≤ l4 then
          nx12 (l3 + 0) (l4 + 1)
        else
          nx12 (l3 + 1) (l4 + 1)
      else
        nx12 (l3 + 0) (l4 + 1)
def ulX9_ranked_12 (nx2 : Int32 → Option (Int32)) (ym_v : Nat → Int32) (l1 : Int32) (l2 : Int32) : Nat → Int32 → Int32 → Option (Int32)
  | 0, _, _ => none
  | k + 1, l3, l4 =>
    if 4 ≤ l4 then
      if l3 = l1 then
        some (l2)
      else
        nx2 (l2 + 1)
    else
      ub_b1 (ufX9_sum ym_v l4 3) fun x_1 =>
      ub_b1 (ufX9_sum ym_v l2 3) fun x_2 =>
      if (x_1 - x_2) = 0 then
        ub_b1 (ufX9_ropesOf ym_v l4 (-1)) fun x_3 =>
        ub_b1 (ufX9_ropesOf ym_v l2 (-1)) fun x_4 =>
        ujX9_ranked_58 nx2 (fun l3' l4' => ulX9_ranked_12 nx2 ym_v l1 l2 k l3' l4') ym_v l1 l2 l3 l4 (x_3 - x_4)
      else
        ujX9_ranked_58 nx2 (fun l3' l4' => ulX9_ranked_12 nx2 ym_v l1 l2 k l3' l4') ym_v l1 l2 l3 l4 (x_1 - x_2)
def ulX9_ranked_2 (ym_v : Nat → Int32) (l1 : Int32) : Nat → Int32 → Option (Int32)
  | 0, _ => none
  | k + 1, l2 =>
    if 4 ≤ l2 then
      some ((-1011))
    else
      ulX9_ranked_12 (fun l2' => ulX9_ranked_2 ym_v l1 k l2') ym_v l1 l2 ub_F 0 0
def ufX9_ranked (ym_v : Nat → Int32) (l1 : Int32) : Option (Int32) :=
  ulX9_ranked_2 ym_v l1 ub_F 0
def ufX9_writes (ym_lineN : Int32) (ym_line : Nat → Int32) (l1 : Int32) : Option (Int32 × (Nat → Int32)) :=
  ub_gd ym_lineN 130 <|
  ub_nm (upd ym_line (Int32.toNatClampNeg ym_lineN) l1) fun ym_line_1 =>
  some (ym_lineN + 1, ym_line_1)
def ujX9_writesNumber_17 (ym_lineN : Int32) (ym_line : Nat → Int32) (l1 : Int32) : Option (Int32 × (Nat → Int32)) :=
  ub_b2 (ufX9_writes ym_lineN ym_line (48 + (l1 - l1 / 10 * 10))) fun ym_lineN_1 ym_line_2 =>
  some (ym_lineN_1, ym_line_2)
def ufX9_writesNumber (ym_lineN : Int32) (ym_line : Nat → Int32) (l1 : Int32) : Option (Int32 × (Nat → Int32)) :=
  if l1 < 10 then
    ujX9_writesNumber_17 ym_lineN ym_line l1
  else
    ub_b2 (ufX9_writes ym_lineN ym_line (48 + (l1 / 10))) fun ym_lineN_3 ym_line_4 =>
    ujX9_writesNumber_17 ym_lineN_3 ym_line_4 l1
def ufX9_append (ym_textN : Int32) (ym_text : Nat → Int32) (l1 : Int32) : Option (Int32 × Int32 × (Nat → Int32)) :=
  ub_b1 (ufX9_isIn l1 32 126) fun x_1 =>
  if x_1 = 0 then
    some ((-1012), ym_textN, ym_text)
  else
    if ym_textN = 60 then
      some ((-1013), ym_textN, ym_text)
    else
      ub_gd ym_textN 60 <|
      ub_nm (upd ym_text (Int32.toNatClampNeg ym_textN) l1) fun ym_text_2 =>
      some (ym_textN + 1, ym_textN + 1, ym_text_2)
def ufX9_sign (ym_end : Int32) (ym_here : Int32) (ym_text : Nat → Int32) : Option (Int32) :=
  if ym_end ≤ ym_here then
    some ((-1))
  else
    ub_gd ym_here 60 <|
    some (ym_text (Int32.toNatClampNeg ym_here))
def ujX9_mark_42 (ym_isWrong : Int32) (t1 : Int32) (t2 : Int32) : Option (Int32 × Int32) :=
  some (t1 + t2, ym_isWrong)
def ujX9_mark_22 (ym_here : Int32) (t1 : Int32) : Option (Int32 × Int32) :=
  ub_bz t1 <|
  if t1 = 0 then
    ujX9_mark_42 t1 ym_here 1
  else
    ujX9_mark_42 t1 ym_here 0
def ufX9_mark (ym_end : Int32) (ym_here : Int32) (ym_isWrong : Int32) (ym_text : Nat → Int32) (l1 : Int32) : Option (Int32 × Int32) :=
  if ym_isWrong = 0 then
    ub_b1 (ufX9_sign ym_end ym_here ym_text) fun x_1 =>
    if x_1 = l1 then
      ujX9_mark_22 ym_here 0
    else
      ujX9_mark_22 ym_here 1
  else
    some (ym_here, ym_isWrong)
def ujX9_digits_73 (ym_here : Int32) (l2 : Int32) (t1 : Int32) (t2 : Int32) : Option (Int32 × Int32 × Int32) :=
  ub_bz (t1 ||| t2) <|
  some (l2, ym_here, t1 ||| t2)
def ujX9_digits_59 (ym_here : Int32) (ym_isWrong : Int32) (l2 : Int32) (l3 : Int32) : Option (Int32 × Int32 × Int32) :=
  if l3 = 0 then
    ujX9_digits_73 ym_here l2 ym_isWrong 1
  else
    ujX9_digits_73 ym_here l2 ym_isWrong 0
def ulX9_digits_4 (ym_end : Int32) (ym_isWrong : Int32) (ym_text : Nat → Int32) (l1 : Int32) : Nat → Int32 → Int32 → Int32 → Option (Int32 × Int32 × Int32)
  | 0, _, _, _ => none
  | k + 1, ym_here, l2, l3 =>
    if ym_isWrong = 0 then
      if l1 ≤ l3 then
        ujX9_digits_59 ym_here ym_isWrong l2 l3
      else
        ub_b1 (ufX9_sign ym_end ym_here ym_text) fun x_1 =>
        ub_b1 (ufX9_isIn x_1 48 57) fun x_2 =>
        if x_2 = 0 then
          ujX9_digits_59 ym_here ym_isWrong l2 l3
        else
          ub_b1 (ufX9_sign ym_end ym_here ym_text) fun x_3 =>
          ulX9_digits_4 ym_end ym_isWrong ym_text l1 k (ym_here + 1) (((10 * l2) + x_3) - 48) (l3 + 1)
    else
      ujX9_digits_59 ym_here ym_isWrong l2 l3
def ufX9_digits (ym_end : Int32) (ym_here : Int32) (ym_isWrong : Int32) (ym_text : Nat → Int32) (l1 : Int32) : Option (Int32 × Int32 × Int32) :=
  ulX9_digits_4 ym_end ym_isWrong ym_text l1 ub_F ym_here 0 0
def ufX9_behind (ym_end : Int32) (ym_here : Int32) (ym_isWrong : Int32) (ym_text : Nat → Int32) (l1 : Int32) (l2 : Int32) : Option (Int32 × Int32 × Int32) :=
  ub_b2 (ufX9_mark ym_end ym_here ym_isWrong ym_text l1) fun ym_here_1 ym_isWrong_2 =>
  if ym_isWrong_2 = 0 then
    ub_b3 (ufX9_digits ym_end ym_here_1 ym_isWrong_2 ym_text l2) fun x_3 ym_here_4 ym_isWrong_5 =>
    some (x_3, ym_here_4, ym_isWrong_5)
  else
    some (0, ym_here_1, ym_isWrong_2)
def ujX9_plus_36 (ym_end : Int32) (ym_here : Int32) (ym_isWrong : Int32) (ym_text : Nat → Int32) (l1 : Int32) (t1 : Int32) : Option (Int32 × Int32 × Int32) :=
  ub_b2 (ufX9_mark ym_end ym_here ym_isWrong ym_text t1) fun ym_here_2 ym_isWrong_3 =>
  if l1 = 0 then
    some (0, ym_here_2, ym_isWrong_3)
  else
    some (1, ym_here_2, ym_isWrong_3)
def ujX9_plus_23 (ym_end : Int32) (ym_here : Int32) (ym_isWrong : Int32) (ym_text : Nat → Int32) (t0 : Int32) : Option (Int32 × Int32 × Int32) :=
  if t0 = 0 then
    ujX9_plus_36 ym_end ym_here ym_isWrong ym_text t0 45
  else
    ujX9_plus_36 ym_end ym_here ym_isWrong ym_text t0 43
def ufX9_plus (ym_end : Int32) (ym_here : Int32) (ym_isWrong : Int32) (ym_text : Nat → Int32) : Option (Int32 × Int32 × Int32) :=
  if ym_isWrong = 0 then
    ub_b1 (ufX9_sign ym_end ym_here ym_text) fun x_1 =>
    if x_1 = 43 then
      ujX9_plus_23 ym_end ym_here ym_isWrong ym_text 1
    else
      ujX9_plus_23 ym_end ym_here ym_isWrong ym_text 0
  else
    some (0, ym_here, ym_isWrong)
def ufX9_does (ym_detail : Int32) (ym_fails : Int32) (ym_why : Int32) (ym_v : Nat → Int32) (l1 : Int32) (l2 : Int32) (l3 : Int32) (l4 : Int32) : Option (Int32 × Int32 × Int32 × Int32 × (Nat → Int32)) :=
  if l1 = 99 then
    ub_b5 (ufX9_cancels ym_detail ym_fails ym_why ym_v l2) fun x_1 ym_detail_2 ym_fails_3 ym_why_4 ym_v_5 =>
    some (x_1, ym_detail_2, ym_fails_3, ym_why_4, ym_v_5)
  else
  if l1 = 100 then
    ub_b2 (ufX9_endsDay ym_v) fun x_6 ym_v_7 =>
    some (x_6, ym_detail, ym_fails, ym_why, ym_v_7)
  else
  if l1 = 101 then
    ub_b2 (ufX9_endsDay ym_v) fun x_8 ym_v_9 =>
    some (x_8, ym_detail, ym_fails, ym_why, ym_v_9)
  else
  if l1 = 102 then
    ub_b2 (ufX9_endsDay ym_v) fun x_10 ym_v_11 =>
    some (x_10, ym_detail, ym_fails, ym_why, ym_v_11)
  else
  if l1 = 103 then
    ub_b2 (ufX9_endsDay ym_v) fun x_12 ym_v_13 =>
    some (x_12, ym_detail, ym_fails, ym_why, ym_v_13)
  else
  if l1 = 104 then
    ub_b5 (ufX9_hours ym_detail ym_fails ym_why ym_v) fun x_14 ym_detail_15 ym_fails_16 ym_why_17 ym_v_18 =>
    some (x_14, ym_detail_15, ym_fails_16, ym_why_17, ym_v_18)
  else
  if l1 = 105 then
    ub_b2 (ufX9_endsDay ym_v) fun x_19 ym_v_20 =>
    some (x_19, ym_detail, ym_fails, ym_why, ym_v_20)
  else
  if l1 = 106 then
    ub_b2 (ufX9_endsDay ym_v) fun x_21 ym_v_22 =>
    some (x_21, ym_detail, ym_fails, ym_why, ym_v_22)
  else
  if l1 = 107 then
    ub_b2 (ufX9_endsDay ym_v) fun x_23 ym_v_24 =>
    some (x_23, ym_detail, ym_fails, ym_why, ym_v_24)
  else
  if l1 = 108 then
    ub_b2 (ufX9_endsDay ym_v) fun x_25 ym_v_26 =>
    some (x_25, ym_detail, ym_fails, ym_why, ym_v_26)
  else
  if l1 = 109 then
    ub_b2 (ufX9_endsDay ym_v) fun x_27 ym_v_28 =>
    some (x_27, ym_detail, ym_fails, ym_why, ym_v_28)
  else
  if l1 = 110 then
    ub_b5 (ufX9_rings ym_detail ym_fails ym_why ym_v) fun x_29 ym_detail_30 ym_fails_31 ym_why_32 ym_v_33 =>
    some (x_29, ym_detail_30, ym_fails_31, ym_why_32, ym_v_33)
  else
  if l1 = 111 then
    ub_b5 (ufX9_oils ym_detail ym_fails ym_why ym_v l2 l3) fun x_34 ym_detail_35 ym_fails_36 ym_why_37 ym_v_38 =>
    some (x_34, ym_detail_35, ym_fails_36, ym_why_37, ym_v_38)
  else
  if l1 = 112 then
    ub_b5 (ufX9_waits ym_detail ym_fails ym_why ym_v l2 l3 l4) fun x_39 ym_detail_40 ym_fails_41 ym_why_42 ym_v_43 =>
    some (x_39, ym_detail_40, ym_fails_41, ym_why_42, ym_v_43)
  else
  if l1 = 113 then
    ub_b2 (ufX9_endsDay ym_v) fun x_44 ym_v_45 =>
    some (x_44, ym_detail, ym_fails, ym_why, ym_v_45)
  else
  if l1 = 114 then
    ub_b5 (ufX9_comes ym_detail ym_fails ym_why ym_v l2) fun x_46 ym_detail_47 ym_fails_48 ym_why_49 ym_v_50 =>
    some (x_46, ym_detail_47, ym_fails_48, ym_why_49, ym_v_50)
  else
  if l1 = 115 then
    ub_b5 (ufX9_switches ym_detail ym_fails ym_why ym_v l2 l3) fun x_51 ym_detail_52 ym_fails_53 ym_why_54 ym_v_55 =>
    some (x_51, ym_detail_52, ym_fails_53, ym_why_54, ym_v_55)
  else
  if l1 = 116 then
    ub_b2 (ufX9_endsDay ym_v) fun x_56 ym_v_57 =>
    some (x_56, ym_detail, ym_fails, ym_why, ym_v_57)
  else
  if l1 = 117 then
    ub_b2 (ufX9_endsDay ym_v) fun x_58 ym_v_59 =>
    some (x_58, ym_detail, ym_fails, ym_why, ym_v_59)
  else
  if l1 = 118 then
    ub_b5 (ufX9_moves ym_detail ym_fails ym_why ym_v l2 l3) fun x_60 ym_detail_61 ym_fails_62 ym_why_63 ym_v_64 =>
    some (x_60, ym_detail_61, ym_fails_62, ym_why_63, ym_v_64)
  else
  ub_b2 (ufX9_endsDay ym_v) fun x_65 ym_v_66 =>
  some (x_65, ym_detail, ym_fails, ym_why, ym_v_66)
def ufX9_isKnown (l0 : Int32) : Option (Int32) :=
  if l0 = 114 then
    some (1)
  else
    if l0 = 118 then
      some (1)
    else
      if l0 = 115 then
        some (1)
      else
        if l0 = 112 then
          some (1)
        else
          if l0 = 99 then
            some (1)
          else
            if l0 = 110 then
              some (1)
            else
              if l0 = 104 then
                some (1)
              else
                if l0 = 111 then
                  some (1)
                else
                  if l0 = 101 then
                    some (1)
                  else
                    some (0)
def ujX9_order_160 (ym_detail : Int32) (ym_fails : Int32) (ym_here : Int32) (ym_isDoing : Int32) (ym_isWrong : Int32) (ym_why : Int32) (ym_v : Nat → Int32) (l1 : Int32) (l2 : Int32) (l3 : Int32) (l4 : Int32) : Option (Int32 × Int32 × Int32 × Int32 × Int32 × (Nat → Int32)) :=
  if ym_isWrong = 0 then
    if ym_isDoing = 0 then
      some (ym_detail, ym_fails, ym_here, ym_isWrong, ym_why, ym_v)
    else
      ub_b5 (ufX9_does ym_detail ym_fails ym_why ym_v l1 l2 l3 l4) fun x_3 ym_detail_4 ym_fails_5 ym_why_6 ym_v_7 =>
      some (ym_detail_4, ym_fails_5, ym_here, ym_isWrong, ym_why_6, ym_v_7)
  else
    some (ym_detail, ym_fails, ym_here, ym_isWrong, ym_why, ym_v)
def ujX9_order_146 (ym_detail : Int32) (ym_end : Int32) (ym_fails : Int32) (ym_here : Int32) (ym_isDoing : Int32) (ym_isWrong : Int32) (ym_why : Int32) (ym_text : Nat → Int32) (ym_v : Nat → Int32) (l1 : Int32) (l2 : Int32) (l3 : Int32) (l4 : Int32) : Option (Int32 × Int32 × Int32 × Int32 × Int32 × (Nat → Int32)) :=
  if l1 = 111 then
    ub_b3 (ufX9_behind ym_end ym_here ym_isWrong ym_text 45 1) fun x_8 ym_here_9 ym_isWrong_10 =>
    ujX9_order_160 ym_detail ym_fails ym_here_9 ym_isDoing ym_isWrong_10 ym_why ym_v l1 l2 x_8 l4
  else
    ujX9_order_160 ym_detail ym_fails ym_here ym_isDoing ym_isWrong ym_why ym_v l1 l2 l3 l4
def ujX9_order_131 (ym_detail : Int32) (ym_end : Int32) (ym_fails : Int32) (ym_here : Int32) (ym_isDoing : Int32) (ym_isWrong : Int32) (ym_why : Int32) (ym_text : Nat → Int32) (ym_v : Nat → Int32) (l1 : Int32) (l2 : Int32) (l3 : Int32) (l4 : Int32) : Option (Int32 × Int32 × Int32 × Int32 × Int32 × (Nat → Int32)) :=
  if l1 = 112 then
    ub_b3 (ufX9_behind ym_end ym_here ym_isWrong ym_text 42 1) fun x_11 ym_here_12 ym_isWrong_13 =>
    ujX9_order_146 ym_detail ym_end ym_fails ym_here_12 ym_isDoing ym_isWrong_13 ym_why ym_text ym_v l1 l2 l3 x_11
  else
    ujX9_order_146 ym_detail ym_end ym_fails ym_here ym_isDoing ym_isWrong ym_why ym_text ym_v l1 l2 l3 l4
def ujX9_order_117 (ym_detail : Int32) (ym_end : Int32) (ym_fails : Int32) (ym_here : Int32) (ym_isDoing : Int32) (ym_isWrong : Int32) (ym_why : Int32) (ym_text : Nat → Int32) (ym_v : Nat → Int32) (l1 : Int32) (l2 : Int32) (l3 : Int32) (l4 : Int32) : Option (Int32 × Int32 × Int32 × Int32 × Int32 × (Nat → Int32)) :=
  if l1 = 112 then
    ub_b3 (ufX9_behind ym_end ym_here ym_isWrong ym_text 64 2) fun x_14 ym_here_15 ym_isWrong_16 =>
    ujX9_order_131 ym_detail ym_end ym_fails ym_here_15 ym_isDoing ym_isWrong_16 ym_why ym_text ym_v l1 l2 x_14 l4
  else
    ujX9_order_131 ym_detail ym_end ym_fails ym_here ym_isDoing ym_isWrong ym_why ym_text ym_v l1 l2 l3 l4
def ujX9_order_106 (ym_detail : Int32) (ym_end : Int32) (ym_fails : Int32) (ym_here : Int32) (ym_isDoing : Int32) (ym_isWrong : Int32) (ym_why : Int32) (ym_text : Nat → Int32) (ym_v : Nat → Int32) (l1 : Int32) (l2 : Int32) (l3 : Int32) (l4 : Int32) : Option (Int32 × Int32 × Int32 × Int32 × Int32 × (Nat → Int32)) :=
  if l1 = 115 then
    ub_b3 (ufX9_plus ym_end ym_here ym_isWrong ym_text) fun x_17 ym_here_18 ym_isWrong_19 =>
    ujX9_order_117 ym_detail ym_end ym_fails ym_here_18 ym_isDoing ym_isWrong_19 ym_why ym_text ym_v l1 l2 x_17 l4
  else
    ujX9_order_117 ym_detail ym_end ym_fails ym_here ym_isDoing ym_isWrong ym_why ym_text ym_v l1 l2 l3 l4
def ujX9_order_92 (ym_detail : Int32) (ym_end : Int32) (ym_fails : Int32) (ym_here : Int32) (ym_isDoing : Int32) (ym_isWrong : Int32) (ym_why : Int32) (ym_text : Nat → Int32) (ym_v : Nat → Int32) (l1 : Int32) (l2 : Int32) (l3 : Int32) (l4 : Int32) : Option (Int32 × Int32 × Int32 × Int32 × Int32 × (Nat → Int32)) :=
  if l1 = 118 then
    ub_b3 (ufX9_behind ym_end ym_here ym_isWrong ym_text 58 1) fun x_20 ym_here_21 ym_isWrong_22 =>
    ujX9_order_106 ym_detail ym_end ym_fails ym_here_21 ym_isDoing ym_isWrong_22 ym_why ym_text ym_v l1 l2 x_20 l4
  else
    ujX9_order_106 ym_detail ym_end ym_fails ym_here ym_isDoing ym_isWrong ym_why ym_text ym_v l1 l2 l3 l4
def ujX9_order_88 (ym_detail : Int32) (ym_end : Int32) (ym_fails : Int32) (ym_here : Int32) (ym_isDoing : Int32) (ym_isWrong : Int32) (ym_why : Int32) (ym_text : Nat → Int32) (ym_v : Nat → Int32) (l1 : Int32) (l3 : Int32) (l4 : Int32) (t1 : Int32) : Option (Int32 × Int32 × Int32 × Int32 × Int32 × (Nat → Int32)) :=
  ub_b3 (ufX9_digits ym_end ym_here ym_isWrong ym_text t1) fun x_23 ym_here_24 ym_isWrong_25 =>
  ujX9_order_92 ym_detail ym_end ym_fails ym_here_24 ym_isDoing ym_isWrong_25 ym_why ym_text ym_v l1 x_23 l3 l4
def ujX9_order_69 (ym_detail : Int32) (ym_end : Int32) (ym_fails : Int32) (ym_here : Int32) (ym_isDoing : Int32) (ym_isWrong : Int32) (ym_why : Int32) (ym_text : Nat → Int32) (ym_v : Nat → Int32) (l1 : Int32) (l2 : Int32) (l3 : Int32) (l4 : Int32) (t0 : Int32) : Option (Int32 × Int32 × Int32 × Int32 × Int32 × (Nat → Int32)) :=
  if t0 = 0 then
    if l1 = 114 then
      ujX9_order_88 ym_detail ym_end ym_fails ym_here ym_isDoing ym_isWrong ym_why ym_text ym_v l1 l3 l4 1
    else
      ujX9_order_88 ym_detail ym_end ym_fails ym_here ym_isDoing ym_isWrong ym_why ym_text ym_v l1 l3 l4 2
  else
    ujX9_order_92 ym_detail ym_end ym_fails ym_here ym_isDoing ym_isWrong ym_why ym_text ym_v l1 l2 l3 l4
def ujX9_order_64 (ym_detail : Int32) (ym_end : Int32) (ym_fails : Int32) (ym_here : Int32) (ym_isDoing : Int32) (ym_isWrong : Int32) (ym_why : Int32) (ym_text : Nat → Int32) (ym_v : Nat → Int32) (l1 : Int32) (l2 : Int32) (l3 : Int32) (l4 : Int32) : Option (Int32 × Int32 × Int32 × Int32 × Int32 × (Nat → Int32)) :=
  ujX9_order_69 ym_detail ym_end ym_fails ym_here ym_isDoing ym_isWrong ym_why ym_text ym_v l1 l2 l3 l4 1
def ujX9_order_25 (ym_detail : Int32) (ym_end : Int32) (ym_fails : Int32) (ym_here : Int32) (ym_isDoing : Int32) (ym_why : Int32) (ym_text : Nat → Int32) (ym_v : Nat → Int32) (l1 : Int32) (l2 : Int32) (l3 : Int32) (l4 : Int32) (t1 : Int32) : Option (Int32 × Int32 × Int32 × Int32 × Int32 × (Nat → Int32)) :=
  ub_bz t1 <|
  if t1 = 0 then
    if l1 = 110 then
      ujX9_order_64 ym_detail ym_end ym_fails (ym_here + 1) ym_isDoing t1 ym_why ym_text ym_v l1 l2 l3 l4
    else
      if l1 = 104 then
        ujX9_order_64 ym_detail ym_end ym_fails (ym_here + 1) ym_isDoing t1 ym_why ym_text ym_v l1 l2 l3 l4
      else
        if l1 = 101 then
          ujX9_order_64 ym_detail ym_end ym_fails (ym_here + 1) ym_isDoing t1 ym_why ym_text ym_v l1 l2 l3 l4
        else
          ujX9_order_69 ym_detail ym_end ym_fails (ym_here + 1) ym_isDoing t1 ym_why ym_text ym_v l1 l2 l3 l4 0
  else
    some (ym_detail, ym_fails, ym_here, t1, ym_why, ym_v)
def ufX9_order (ym_detail : Int32) (ym_end : Int32) (ym_fails : Int32) (ym_here : Int32) (ym_isDoing : Int32) (ym_isWrong : Int32) (ym_why : Int32) (ym_text : Nat → Int32) (ym_v : Nat → Int32) : Option (Int32 × Int32 × Int32 × Int32 × Int32 × (Nat → Int32)) :=
  ub_b1 (ufX9_sign ym_end ym_here ym_text) fun x_1 =>
  ub_b1 (ufX9_isKnown x_1) fun x_2 =>
  if x_2 = 0 then
    ujX9_order_25 ym_detail ym_end ym_fails ym_here ym_isDoing ym_why ym_text ym_v x_1 0 0 0 1
  else
    ujX9_order_25 ym_detail ym_end ym_fails ym_here ym_isDoing ym_why ym_text ym_v x_1 0 0 0 0
def ulX9_orders_16 (ym_end : Int32) (ym_isDoing : Int32) (ym_text : Nat → Int32) : Nat → Int32 → Int32 → Int32 → Int32 → Int32 → (Nat → Int32) → Int32 → Option (Int32 × Int32 × Int32 × Int32 × Int32 × Int32 × (Nat → Int32))
  | 0, _, _, _, _, _, _, _ => none
  | k + 1, ym_detail, ym_fails, ym_here, ym_isWrong, ym_why, ym_v, l1 =>
    if ym_isWrong = 0 then
      if ym_fails = 0 then
        if ym_end ≤ ym_here then
          some (l1, ym_detail, ym_fails, ym_here, ym_isWrong, ym_why, ym_v)
        else
          ub_b2 (ufX9_mark ym_end ym_here ym_isWrong ym_text 59) fun ym_here_7 ym_isWrong_8 =>
          if ym_isWrong_8 = 0 then
            ub_b6 (ufX9_order ym_detail ym_end ym_fails ym_here_7 ym_isDoing ym_isWrong_8 ym_why ym_text ym_v) fun ym_detail_9 ym_fails_10 ym_here_11 ym_isWrong_12 ym_why_13 ym_v_14 =>
            ulX9_orders_16 ym_end ym_isDoing ym_text k ym_detail_9 ym_fails_10 ym_here_11 ym_isWrong_12 ym_why_13 ym_v_14 (l1 + 1)
          else
            ulX9_orders_16 ym_end ym_isDoing ym_text k ym_detail ym_fails ym_here_7 ym_isWrong_8 ym_why ym_v (l1 + 1)
      else
        some (l1, ym_detail, ym_fails, ym_here, ym_isWrong, ym_why, ym_v)
    else
      some (l1, ym_detail, ym_fails, ym_here, ym_isWrong, ym_why, ym_v)
def ufX9_orders (ym_detail : Int32) (ym_end : Int32) (ym_fails : Int32) (ym_here : Int32) (ym_isDoing : Int32) (ym_isWrong : Int32) (ym_why : Int32) (ym_text : Nat → Int32) (ym_v : Nat → Int32) : Option (Int32 × Int32 × Int32 × Int32 × Int32 × Int32 × (Nat → Int32)) :=
  ub_b6 (ufX9_order ym_detail ym_end ym_fails 0 ym_isDoing 0 ym_why ym_text ym_v) fun ym_detail_1 ym_fails_2 ym_here_3 ym_isWrong_4 ym_why_5 ym_v_6 =>
  ulX9_orders_16 ym_end ym_isDoing ym_text ub_F ym_detail_1 ym_fails_2 ym_here_3 ym_isWrong_4 ym_why_5 ym_v_6 1
def ujX9_run_74 (ym_changes : Int32) (ym_detail : Int32) (ym_end : Int32) (ym_fails : Int32) (ym_here : Int32) (ym_isDoing : Int32) (ym_isWrong : Int32) (ym_textN : Int32) (ym_why : Int32) (ym_before : Nat → Int32) (ym_past : Nat → Int32) (ym_v : Nat → Int32) (t1 : Int32) : Option (Int32 × Int32 × Int32 × Int32 × Int32 × Int32 × Int32 × Int32 × Int32 × Int32 × (Nat → Int32) × (Nat → Int32) × (Nat → Int32)) :=
  ub_b4 (ufX9_ends ym_changes ym_fails ym_before ym_past ym_v t1) fun x_21 ym_changes_22 ym_past_23 ym_v_24 =>
  some (x_21, ym_changes_22, ym_detail, ym_end, ym_fails, ym_here, ym_isDoing, ym_isWrong, ym_textN, ym_why, ym_before, ym_past_23, ym_v_24)
def ufX9_run (ym_changes : Int32) (ym_detail : Int32) (ym_end : Int32) (ym_fails : Int32) (ym_here : Int32) (ym_isDoing : Int32) (ym_isWrong : Int32) (ym_textN : Int32) (ym_why : Int32) (ym_before : Nat → Int32) (ym_past : Nat → Int32) (ym_text : Nat → Int32) (ym_v : Nat → Int32) : Option (Int32 × Int32 × Int32 × Int32 × Int32 × Int32 × Int32 × Int32 × Int32 × Int32 × (Nat → Int32) × (Nat → Int32) × (Nat → Int32)) :=
  ub_b2 (ufX9_begins ym_fails ym_before ym_v) fun ym_fails_1 ym_before_2 =>
  ub_b7 (ufX9_orders ym_detail ym_textN ym_fails_1 ym_here 0 ym_isWrong ym_why ym_text ym_v) fun x_3 ym_detail_4 ym_fails_5 ym_here_6 ym_isWrong_7 ym_why_8 ym_v_9 =>
  if ym_isWrong_7 = 0 then
    ub_b7 (ufX9_orders ym_detail_4 ym_textN ym_fails_5 ym_here_6 1 ym_isWrong_7 ym_why_8 ym_text ym_v_9) fun x_10 ym_detail_11 ym_fails_12 ym_here_13 ym_isWrong_14 ym_why_15 ym_v_16 =>
    if ym_fails_12 = 0 then
      ujX9_run_74 ym_changes ym_detail_11 ym_textN ym_fails_12 ym_here_13 1 ym_isWrong_14 0 ym_why_15 ym_before_2 ym_past ym_v_16 x_10
    else
      ub_b4 (ufX9_refuses ym_detail_11 ym_fails_12 ym_why_15 7 (x_10 - 1)) fun x_17 ym_detail_18 ym_fails_19 ym_why_20 =>
      ujX9_run_74 ym_changes ym_detail_18 ym_textN ym_fails_19 ym_here_13 1 ym_isWrong_14 0 ym_why_20 ym_before_2 ym_past ym_v_16 x_17
  else
    some ((-2000) - ym_here_6, ym_changes, ym_detail_4, ym_textN, ym_fails_5, ym_here_6, 0, ym_isWrong_7, 0, ym_why_8, ym_before_2, ym_past, ym_v_9)
def ulX9_tell_91 (ym_v : Nat → Int32) (l1 : Int32) : Nat → Int32 → (Nat → Int32) → Int32 → Option (Int32 × Int32 × (Nat → Int32))
  | 0, _, _, _ => none
  | k + 1, ym_lineN, ym_line, l2 =>
    ub_gd 1 235 <|
    if (ym_v (Int32.toNatClampNeg 1)) ≤ l2 then
      some (ym_lineN, ym_lineN, ym_line)
    else
      ub_b1 (ufX9_pulled ym_v l2 0) fun x_11 =>
      if x_11 = l1 then
        ub_b2 (ufX9_writes ym_lineN ym_line 64) fun ym_lineN_12 ym_line_13 =>
        ub_b1 (ufX9_pulled ym_v l2 1) fun x_14 =>
        ub_b2 (ufX9_writesNumber ym_lineN_12 ym_line_13 x_14) fun ym_lineN_15 ym_line_16 =>
        ub_b2 (ufX9_writes ym_lineN_15 ym_line_16 42) fun ym_lineN_17 ym_line_18 =>
        ub_b1 (ufX9_pulled ym_v l2 2) fun x_19 =>
        ub_b2 (ufX9_writesNumber ym_lineN_17 ym_line_18 x_19) fun ym_lineN_20 ym_line_21 =>
        ulX9_tell_91 ym_v l1 k ym_lineN_20 ym_line_21 (l2 + 1)
      else
        ulX9_tell_91 ym_v l1 k ym_lineN ym_line (l2 + 1)
def ulX9_tell_63 (ym_v : Nat → Int32) (l1 : Int32) : Nat → Int32 → (Nat → Int32) → Int32 → Option (Int32 × Int32 × (Nat → Int32))
  | 0, _, _, _ => none
  | k + 1, ym_lineN, ym_line, l2 =>
    ub_b1 (ufX9_at l1 2) fun x_10 =>
    ub_gd x_10 235 <|
    if (ym_v (Int32.toNatClampNeg x_10)) ≤ l2 then
      ulX9_tell_91 ym_v l1 ub_F ym_lineN ym_line 0
    else
      ub_b2 (ufX9_writes ym_lineN ym_line 126) fun ym_lineN_22 ym_line_23 =>
      ulX9_tell_63 ym_v l1 k ym_lineN_22 ym_line_23 (l2 + 1)
def ufX9_tell (ym_lineN : Int32) (ym_line : Nat → Int32) (ym_v : Nat → Int32) (l1 : Int32) : Option (Int32 × Int32 × (Nat → Int32)) :=
  ub_b1 (ufX9_isRope ym_v l1) fun x_1 =>
  if x_1 = 0 then
    some ((-1011), ym_lineN, ym_line)
  else
    ub_b2 (ufX9_writesNumber 0 ym_line l1) fun ym_lineN_2 ym_line_3 =>
    ub_b2 (ufX9_writes ym_lineN_2 ym_line_3 58) fun ym_lineN_4 ym_line_5 =>
    ub_b1 (ufX9_at l1 0) fun x_6 =>
    ub_gd x_6 235 <|
    ub_b2 (ufX9_writesNumber ym_lineN_4 ym_line_5 (ym_v (Int32.toNatClampNeg x_6))) fun ym_lineN_7 ym_line_8 =>
    ub_b1 (ufX9_at l1 1) fun x_9 =>
    ub_gd x_9 235 <|
    if (ym_v (Int32.toNatClampNeg x_9)) = 0 then
      ub_b2 (ufX9_writes ym_lineN_7 ym_line_8 35) fun ym_lineN_24 ym_line_25 =>
      ulX9_tell_63 ym_v l1 ub_F ym_lineN_24 ym_line_25 0
    else
      ulX9_tell_63 ym_v l1 ub_F ym_lineN_7 ym_line_8 0
def ujX9_tellDay_42 (nx7 : Int32 → (Nat → Int32) → Int32 → Option (Int32 × Int32 × (Nat → Int32))) (ym_lineN : Int32) (ym_line : Nat → Int32) (ym_v : Nat → Int32) (l1 : Int32) : Option (Int32 × Int32 × (Nat → Int32)) :=
  ub_b2 (ufX9_writesNumber ym_lineN ym_line l1) fun ym_lineN_1 ym_line_2 =>
  ub_b2 (ufX9_writes ym_lineN_1 ym_line_2 61) fun ym_lineN_3 ym_line_4 =>
  ub_b1 (ufX9_guessed ym_v l1) fun x_5 =>
  ub_b2 (ufX9_writesNumber ym_lineN_3 ym_line_4 x_5) fun ym_lineN_6 ym_line_7 =>
  nx7 ym_lineN_6 ym_line_7 (l1 + 1)
def ulX9_tellDay_7 (ym_v : Nat → Int32) : Nat → Int32 → (Nat → Int32) → Int32 → Option (Int32 × Int32 × (Nat → Int32))
  | 0, _, _, _ => none
  | k + 1, ym_lineN, ym_line, l1 =>
    if 24 ≤ l1 then
      some (ym_lineN, ym_lineN, ym_line)
    else
      ub_gd (211 + l1) 235 <|
      if (ym_v (Int32.toNatClampNeg (211 + l1))) = 0 then
        ulX9_tellDay_7 ym_v k ym_lineN ym_line (l1 + 1)
      else
        if ym_lineN ≤ 0 then
          ujX9_tellDay_42 (fun ym_lineN' ym_line' l1' => ulX9_tellDay_7 ym_v k ym_lineN' ym_line' l1') ym_lineN ym_line ym_v l1
        else
          ub_b2 (ufX9_writes ym_lineN ym_line 32) fun ym_lineN_8 ym_line_9 =>
          ujX9_tellDay_42 (fun ym_lineN' ym_line' l1' => ulX9_tellDay_7 ym_v k ym_lineN' ym_line' l1') ym_lineN_8 ym_line_9 ym_v l1
def ufX9_tellDay (ym_lineN : Int32) (ym_line : Nat → Int32) (ym_v : Nat → Int32) : Option (Int32 × Int32 × (Nat → Int32)) :=
  ulX9_tellDay_7 ym_v ub_F 0 ym_line 0
def ufX9_character (ym_lineN : Int32) (ym_line : Nat → Int32) (l1 : Int32) : Option (Int32) :=
  ub_b1 (ufX9_isIn l1 0 (ym_lineN - 1)) fun x_1 =>
  if x_1 = 0 then
    some ((-1011))
  else
    ub_gd l1 130 <|
    some (ym_line (Int32.toNatClampNeg l1))
def ufX9_reason (ym_detail : Int32) (ym_why : Int32) (l1 : Int32) : Option (Int32) :=
  if ym_why = 0 then
    some ((-1015))
  else
    if l1 = 0 then
      some (ym_why)
    else
      some (ym_detail)
def ulX9_rust_4 (ym_v : Nat → Int32) : Nat → Int32 → Int32 → Option (Int32)
  | 0, _, _ => none
  | k + 1, l1, l2 =>
    ub_gd 0 235 <|
    if (ym_v (Int32.toNatClampNeg 0)) ≤ l2 then
      some (l1)
    else
      ub_b1 (ufX9_at l2 2) fun x_1 =>
      ub_gd x_1 235 <|
      ulX9_rust_4 ym_v k (l1 + (ym_v (Int32.toNatClampNeg x_1))) (l2 + 1)
def ufX9_rust (ym_v : Nat → Int32) : Option (Int32) :=
  ulX9_rust_4 ym_v ub_F 0 0
def ufX9_account (ym_changes : Int32) (ym_textN : Int32) (ym_v : Nat → Int32) (l1 : Int32) : Option (Int32) :=
  ub_b1 (ufX9_isIn l1 0 8) fun x_1 =>
  if x_1 = 0 then
    if l1 = 9 then
      ub_b1 (ufX9_rust ym_v) fun x_2 =>
      some (x_2)
    else
    if l1 = 10 then
      ub_gd 9 235 <|
      some (ym_v (Int32.toNatClampNeg 9))
    else
    if l1 = 11 then
      some (ym_textN)
    else
    if l1 = 12 then
      some (ym_changes)
    else
    some ((-1012))
  else
    ub_gd l1 235 <|
    some (ym_v (Int32.toNatClampNeg l1))
def ufX9_isBalanced (ym_v : Nat → Int32) : Option (Int32) :=
  ub_gd 4 235 <|
  ub_gd 1 235 <|
  ub_gd 5 235 <|
  ub_gd 6 235 <|
  ub_nm (((ym_v (Int32.toNatClampNeg 1)) + (ym_v (Int32.toNatClampNeg 5))) + (ym_v (Int32.toNatClampNeg 6))) fun x_1 =>
  ub_gd 7 235 <|
  ub_gd 8 235 <|
  if (ym_v (Int32.toNatClampNeg 4)) = ((x_1 + (ym_v (Int32.toNatClampNeg 7))) + (ym_v (Int32.toNatClampNeg 8))) then
    some (1)
  else
    some (0)
def ulX9_undo_23 (ym_changes : Int32) (ym_past : Nat → Int32) : Nat → (Nat → Int32) → Int32 → Option (Int32 × Int32 × (Nat → Int32))
  | 0, _, _ => none
  | k + 1, ym_v, l1 =>
    if 235 ≤ l1 then
      some (ym_changes, ym_changes, ym_v)
    else
      ub_gd ((ym_changes * 235) + l1) 1880 <|
      ub_nm (ym_past (Int32.toNatClampNeg ((ym_changes * 235) + l1))) fun x_1 =>
      ub_gd l1 235 <|
      ub_nm (upd ym_v (Int32.toNatClampNeg l1) x_1) fun ym_v_2 =>
      ulX9_undo_23 ym_changes ym_past k ym_v_2 (l1 + 1)
def ufX9_undo (ym_changes : Int32) (ym_past : Nat → Int32) (ym_v : Nat → Int32) : Option (Int32 × Int32 × (Nat → Int32)) :=
  if ym_changes = 0 then
    some ((-1015), ym_changes, ym_v)
  else
    ulX9_undo_23 (ym_changes - 1) ym_past ub_F ym_v 0
def ufX9_save (ym_isSaved : Int32) (ym_saved : Nat → Int32) (ym_v : Nat → Int32) : Option (Int32 × Int32 × (Nat → Int32)) :=
  ub_b1 (ufX9_lays 235 235 ym_saved ym_v) fun ym_saved_1 =>
  ub_gd 0 235 <|
  some (ym_v (Int32.toNatClampNeg 0), 1, ym_saved_1)
def ufX9_restore (ym_changes : Int32) (ym_isSaved : Int32) (ym_saved : Nat → Int32) (ym_v : Nat → Int32) : Option (Int32 × Int32 × (Nat → Int32)) :=
  if ym_isSaved = 0 then
    some ((-1015), ym_changes, ym_v)
  else
    ub_b1 (ufX9_lays 235 235 ym_v ym_saved) fun ym_v_1 =>
    ub_gd 0 235 <|
    some (ym_v_1 (Int32.toNatClampNeg 0), 0, ym_v_1)
def ufX9_meanRust (ym_v : Nat → Int32) : Option (UInt64) :=
  ub_gd 0 235 <|
  if (ym_v (Int32.toNatClampNeg 0)) = 0 then
    some (FP.dconst0)
  else
    ub_b1 (ufX9_rust ym_v) fun x_1 =>
    ub_gd 0 235 <|
    ub_n64 (FP.ddiv (FP.i2d x_1) (FP.i2d (ym_v (Int32.toNatClampNeg 0)))) <|
    some (FP.ddiv (FP.i2d x_1) (FP.i2d (ym_v (Int32.toNatClampNeg 0))))
def ufX9_answerShare (ym_v : Nat → Int32) : Option (UInt32) :=
  ub_gd 5 235 <|
  ub_gd 6 235 <|
  ub_gd 7 235 <|
  ub_nm (((ym_v (Int32.toNatClampNeg 5)) + (ym_v (Int32.toNatClampNeg 6))) + (ym_v (Int32.toNatClampNeg 7))) fun x_1 =>
  if x_1 = 0 then
    some (FP.fconst0)
  else
    ub_gd 5 235 <|
    ub_n32 (FP.fdiv (FP.i2f (ym_v (Int32.toNatClampNeg 5))) (FP.i2f x_1)) <|
    some (FP.fdiv (FP.i2f (ym_v (Int32.toNatClampNeg 5))) (FP.i2f x_1))
