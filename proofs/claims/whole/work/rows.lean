section
-- ===== PART A: goes FIRST, ahead of the names: the tables' words, and 'selects' of the private methods out of them =====
/-- a private method of a class that the tables say can be made, by its rows of tables_1 -/
def lw_okq (q : MethodName × Nat) : Prop := (q.1.cls ≠ "java/lang/invoke/MethodHandle" ∧ q.1.cls ≠ "java/lang/invoke/VarHandle") ∧ Cond.instantiable q.1.cls q.2 ∈ tables_1 ∧ Cond.privateMethod q.1 ∈ tables_1 ∧ Cond.instanceMethod q.1 ∈ tables_1
theorem lw_p0 : lw_okq (⟨"TickWalks", "standAt", "(III)V"⟩, 5) := ⟨⟨by decide +kernel, by decide +kernel⟩, List.mem_of_getElem? (i := 8) (by decide +kernel), List.mem_of_getElem? (i := 108) (by decide +kernel), List.mem_of_getElem? (i := 109) (by decide +kernel)⟩
theorem lw_p1 : lw_okq (⟨"TickWalks$Arc", "squareFromCentre", "()J"⟩, 12) := ⟨⟨by decide +kernel, by decide +kernel⟩, List.mem_of_getElem? (i := 39) (by decide +kernel), List.mem_of_getElem? (i := 142) (by decide +kernel), List.mem_of_getElem? (i := 143) (by decide +kernel)⟩
theorem lw_p2 : lw_okq (⟨"TickWalks$Arc", "mark", "(I)V"⟩, 12) := ⟨⟨by decide +kernel, by decide +kernel⟩, List.mem_of_getElem? (i := 39) (by decide +kernel), List.mem_of_getElem? (i := 146) (by decide +kernel), List.mem_of_getElem? (i := 147) (by decide +kernel)⟩
theorem lw_p3 : lw_okq (⟨"TickWalks$Arc", "step", "()Z"⟩, 12) := ⟨⟨by decide +kernel, by decide +kernel⟩, List.mem_of_getElem? (i := 39) (by decide +kernel), List.mem_of_getElem? (i := 156) (by decide +kernel), List.mem_of_getElem? (i := 157) (by decide +kernel)⟩
theorem lw_p4 : lw_okq (⟨"TickWalks$Arc", "measure", "(II)V"⟩, 12) := ⟨⟨by decide +kernel, by decide +kernel⟩, List.mem_of_getElem? (i := 39) (by decide +kernel), List.mem_of_getElem? (i := 167) (by decide +kernel), List.mem_of_getElem? (i := 168) (by decide +kernel)⟩
theorem lw_p5 : lw_okq (⟨"TickWalks$Arc", "seek", "(I)V"⟩, 12) := ⟨⟨by decide +kernel, by decide +kernel⟩, List.mem_of_getElem? (i := 39) (by decide +kernel), List.mem_of_getElem? (i := 198) (by decide +kernel), List.mem_of_getElem? (i := 199) (by decide +kernel)⟩
theorem lw_p6 : lw_okq (⟨"TickWalks$Line", "countStrays", "()I"⟩, 4) := ⟨⟨by decide +kernel, by decide +kernel⟩, List.mem_of_getElem? (i := 16) (by decide +kernel), List.mem_of_getElem? (i := 243) (by decide +kernel), List.mem_of_getElem? (i := 244) (by decide +kernel)⟩
theorem lw_p7 : lw_okq (⟨"TickWalksModel", "begin", "(ZI)V"⟩, 15) := ⟨⟨by decide +kernel, by decide +kernel⟩, List.mem_of_getElem? (i := 249) (by decide +kernel), List.mem_of_getElem? (i := 318) (by decide +kernel), List.mem_of_getElem? (i := 319) (by decide +kernel)⟩
theorem lw_p8 : lw_okq (⟨"TickWalksModel", "tried", "(JJIIJZ)I"⟩, 15) := ⟨⟨by decide +kernel, by decide +kernel⟩, List.mem_of_getElem? (i := 249) (by decide +kernel), List.mem_of_getElem? (i := 334) (by decide +kernel), List.mem_of_getElem? (i := 335) (by decide +kernel)⟩
theorem lw_p9 : lw_okq (⟨"TickWalksModel", "partOf", "(II)I"⟩, 15) := ⟨⟨by decide +kernel, by decide +kernel⟩, List.mem_of_getElem? (i := 249) (by decide +kernel), List.mem_of_getElem? (i := 351) (by decide +kernel), List.mem_of_getElem? (i := 352) (by decide +kernel)⟩
def lw_privs_1 : List (MethodName × Nat) := [(⟨"TickWalks", "standAt", "(III)V"⟩, 5), (⟨"TickWalks$Arc", "squareFromCentre", "()J"⟩, 12), (⟨"TickWalks$Arc", "mark", "(I)V"⟩, 12), (⟨"TickWalks$Arc", "step", "()Z"⟩, 12), (⟨"TickWalks$Arc", "measure", "(II)V"⟩, 12), (⟨"TickWalks$Arc", "seek", "(I)V"⟩, 12), (⟨"TickWalks$Line", "countStrays", "()I"⟩, 4), (⟨"TickWalksModel", "begin", "(ZI)V"⟩, 15), (⟨"TickWalksModel", "tried", "(JJIIJZ)I"⟩, 15), (⟨"TickWalksModel", "partOf", "(II)I"⟩, 15)]
theorem lw_r1 : ∀ q ∈ lw_privs_1, lw_okq q := List.forall_mem_cons.mpr ⟨lw_p0, List.forall_mem_cons.mpr ⟨lw_p1, List.forall_mem_cons.mpr ⟨lw_p2, List.forall_mem_cons.mpr ⟨lw_p3, List.forall_mem_cons.mpr ⟨lw_p4, List.forall_mem_cons.mpr ⟨lw_p5, List.forall_mem_cons.mpr ⟨lw_p6, List.forall_mem_cons.mpr ⟨lw_p7, List.forall_mem_cons.mpr ⟨lw_p8, List.forall_mem_cons.mpr ⟨lw_p9, fun _ h => absurd h List.not_mem_nil⟩⟩⟩⟩⟩⟩⟩⟩⟩⟩
def lw_privs : List (MethodName × Nat) := lw_privs_1
def lw_tbl : List Cond := k2_sels lw_privs ++ tables_1
theorem lw_privs_ok : ∀ q ∈ lw_privs, lw_okq q := lw_r1
-- ===== end of PART A; then your names; then what follows =====
/-! ===== BEGIN words of one list among another's, by their places ===== -/
theorem goodIn_r {big : List Cond} (ws : List Cond) (ps : List Nat) (hp : ws = ps.filterMap (fun i => big[i]?)) (h : ws.all goodWord = true) : GoodIn big ws := by
  intro w hw
  have h1 := List.all_eq_true.mp h w hw
  rw [hp] at hw
  obtain ⟨i, -, hi⟩ := List.mem_filterMap.mp hw
  have hm : w ∈ big := by first | exact List.mem_of_getElem? hi | exact List.getElem?_mem hi
  exact ⟨hm, good_of_word h1⟩
theorem goodIn_app {big a b : List Cond} (ha : GoodIn big a) (hb : GoodIn big b) : GoodIn big (a ++ b) := fun w h => (List.mem_append.mp h).elim (ha w) (hb w)
theorem goodIn_ca {big a b : List Cond} {c : Cond} (ha : GoodIn big (c :: a)) (hb : GoodIn big b) : GoodIn big (c :: (a ++ b)) := fun w h => (List.mem_cons.mp h).elim (fun e => ha w (List.mem_cons.mpr (Or.inl e))) (fun h => (List.mem_append.mp h).elim (fun h => ha w (List.mem_cons.mpr (Or.inr h))) (hb w))
theorem goodIn_sub {big ws : List Cond} (hm : ∀ w ∈ ws, w ∈ big) (h : ws.all goodWord = true) : GoodIn big ws := fun w hw => ⟨hm w hw, good_of_word (List.all_eq_true.mp h w hw)⟩
/-! ===== END ===== -/

/-! ===== BEGIN printed: names, fields, word lists, decode rows ===== -/
def RX0 : String := "TickWalks$Arc"
def TX0 : u_T := fun k => match k with
  | 0 => ("TickWalks$Arc", "markX", "[I", true)
  | 1 => ("TickWalks$Arc", "markY", "[I", true)
  | 2 => ("TickWalks$Arc", "height", "I", false)
  | 3 => ("TickWalks$Arc", "centreX", "I", false)
  | 4 => ("TickWalks$Arc", "centreY", "I", false)
  | 5 => ("TickWalks$Arc", "left", "Z", false)
  | 6 => ("TickWalks$Arc", "square", "J", false)
  | 7 => ("TickWalks$Arc", "length", "I", false)
  | 8 => ("TickWalks$Arc", "off", "I", false)
  | 9 => ("TickWalks$Arc", "strays", "I", false)
  | 10 => ("TickWalks$Arc", "footX", "I", false)
  | _ => ("TickWalks$Arc", "footY", "I", false)
def tyX0 : Nat → FieldType := fun k => match k with
  | 0 => .array .int
  | 1 => .array .int
  | 2 => .int
  | 3 => .int
  | 4 => .int
  | 5 => .boolean
  | 6 => .long
  | 7 => .int
  | 8 => .int
  | 9 => .int
  | 10 => .int
  | _ => .int
abbrev wsX00 : List Cond := u_ws RX0 TX0 12
theorem nmX0 : ∀ a, a < 12 → ∀ b, b < 12 → a ≠ b → (TX0 a).2.1 ≠ (TX0 b).2.1 := by decide +kernel
theorem tyX0_ok : ∀ k, k < 12 → parseFieldDescriptor (TX0 k).2.2.1 = some (tyX0 k) := by decide +kernel
abbrev cX0_init : ByteArray := prog_2_method_1_code
def yX0_init : MethodName := ⟨RX0, "<init>", "()V"⟩
abbrev cX0_begin : ByteArray := prog_2_method_2_code
def yX0_begin : MethodName := ⟨RX0, "begin", "([IIIZ)V"⟩
abbrev cX0_walk : ByteArray := prog_2_method_3_code
def yX0_walk : MethodName := ⟨RX0, "walk", "(II)Z"⟩
abbrev cX0_length : ByteArray := prog_2_method_4_code
def yX0_length : MethodName := ⟨RX0, "length", "()I"⟩
abbrev cX0_placeBehind : ByteArray := prog_2_method_5_code
def yX0_placeBehind : MethodName := ⟨RX0, "placeBehind", "(II)I"⟩
abbrev cX0_greatestOff : ByteArray := prog_2_method_6_code
def yX0_greatestOff : MethodName := ⟨RX0, "greatestOff", "()I"⟩
abbrev cX0_strayTicks : ByteArray := prog_2_method_7_code
def yX0_strayTicks : MethodName := ⟨RX0, "strayTicks", "()I"⟩
abbrev cX0_mark : ByteArray := prog_2_method_8_code
def yX0_mark : MethodName := ⟨RX0, "mark", "(I)V"⟩
abbrev cX0_seek : ByteArray := prog_2_method_9_code
def yX0_seek : MethodName := ⟨RX0, "seek", "(I)V"⟩
abbrev cX0_measure : ByteArray := prog_2_method_10_code
def yX0_measure : MethodName := ⟨RX0, "measure", "(II)V"⟩
abbrev cX0_squareFromCentre : ByteArray := prog_2_method_11_code
def yX0_squareFromCentre : MethodName := ⟨RX0, "squareFromCentre", "()J"⟩
abbrev cX0_step : ByteArray := prog_2_method_12_code
def yX0_step : MethodName := ⟨RX0, "step", "()Z"⟩
def RX1 : String := "TickWalks$Line"
def TX1 : u_T := fun k => match k with
  | 0 => ("TickWalks$Line", "from", "[I", true)
  | 1 => ("TickWalks$Line", "by", "[I", true)
  | 2 => ("TickWalks$Line", "length", "I", false)
  | _ => ("TickWalks$Line", "strays", "I", false)
def tyX1 : Nat → FieldType := fun k => match k with
  | 0 => .array .int
  | 1 => .array .int
  | 2 => .int
  | _ => .int
abbrev wsX10 : List Cond := u_ws RX1 TX1 4
theorem nmX1 : ∀ a, a < 4 → ∀ b, b < 4 → a ≠ b → (TX1 a).2.1 ≠ (TX1 b).2.1 := by decide +kernel
theorem tyX1_ok : ∀ k, k < 4 → parseFieldDescriptor (TX1 k).2.2.1 = some (tyX1 k) := by decide +kernel
abbrev cX1_init : ByteArray := prog_3_method_1_code
def yX1_init : MethodName := ⟨RX1, "<init>", "()V"⟩
abbrev cX1_walk : ByteArray := prog_3_method_2_code
def yX1_walk : MethodName := ⟨RX1, "walk", "([IIII)V"⟩
abbrev cX1_length : ByteArray := prog_3_method_3_code
def yX1_length : MethodName := ⟨RX1, "length", "()I"⟩
abbrev cX1_placeBehind : ByteArray := prog_3_method_4_code
def yX1_placeBehind : MethodName := ⟨RX1, "placeBehind", "(II)I"⟩
abbrev cX1_greatestOff : ByteArray := prog_3_method_5_code
def yX1_greatestOff : MethodName := ⟨RX1, "greatestOff", "()I"⟩
abbrev cX1_strayTicks : ByteArray := prog_3_method_6_code
def yX1_strayTicks : MethodName := ⟨RX1, "strayTicks", "()I"⟩
abbrev cX1_countStrays : ByteArray := prog_3_method_7_code
def yX1_countStrays : MethodName := ⟨RX1, "countStrays", "()I"⟩
def RX2 : String := "TickWalks$Walk"
def TX2 : u_T := fun k => match k with
  | _ => ("", "", "", false)
def tyX2 : Nat → FieldType := fun k => match k with
  | _ => .int
abbrev wsX20 : List Cond := u_ws RX2 TX2 0
theorem nmX2 : ∀ a, a < 0 → ∀ b, b < 0 → a ≠ b → (TX2 a).2.1 ≠ (TX2 b).2.1 := by decide +kernel
theorem tyX2_ok : ∀ k, k < 0 → parseFieldDescriptor (TX2 k).2.2.1 = some (tyX2 k) := by decide +kernel
abbrev cX2_init : ByteArray := prog_4_method_1_code
def yX2_init : MethodName := ⟨RX2, "<init>", "()V"⟩
def RX3 : String := "TickWalks"
def TX3 : u_T := fun k => match k with
  | 0 => ("TickWalks", "stand", "[I", true)
  | 1 => ("TickWalks", "latestLine", "LTickWalks$Line;", true)
  | 2 => ("TickWalks", "latestArc", "LTickWalks$Arc;", false)
  | 3 => ("TickWalks", "triedArc", "LTickWalks$Arc;", false)
  | _ => ("TickWalks", "latest", "LTickWalks$Walk;", false)
def tyX3 : Nat → FieldType := fun k => match k with
  | 0 => .array .int
  | 1 => .object "TickWalks$Line"
  | 2 => .object "TickWalks$Arc"
  | 3 => .object "TickWalks$Arc"
  | _ => .object "TickWalks$Walk"
abbrev wsX30 : List Cond := u_ws RX3 TX3 5
theorem nmX3 : ∀ a, a < 5 → ∀ b, b < 5 → a ≠ b → (TX3 a).2.1 ≠ (TX3 b).2.1 := by decide +kernel
theorem tyX3_ok : ∀ k, k < 5 → parseFieldDescriptor (TX3 k).2.2.1 = some (tyX3 k) := by decide +kernel
abbrev cX3_init : ByteArray := prog_1_method_1_code
def yX3_init : MethodName := ⟨RX3, "<init>", "()V"⟩
abbrev cX3_place : ByteArray := prog_1_method_2_code
def yX3_place : MethodName := ⟨RX3, "place", "(III)Z"⟩
abbrev cX3_line : ByteArray := prog_1_method_3_code
def yX3_line : MethodName := ⟨RX3, "line", "(III)I"⟩
abbrev cX3_arc : ByteArray := prog_1_method_4_code
def yX3_arc : MethodName := ⟨RX3, "arc", "(IIIIZ)I"⟩
abbrev cX3_tick : ByteArray := prog_1_method_5_code
def yX3_tick : MethodName := ⟨RX3, "tick", "(II)I"⟩
abbrev cX3_ticks : ByteArray := prog_1_method_6_code
def yX3_ticks : MethodName := ⟨RX3, "ticks", "()I"⟩
abbrev cX3_at : ByteArray := prog_1_method_7_code
def yX3_at : MethodName := ⟨RX3, "at", "(I)I"⟩
abbrev cX3_off : ByteArray := prog_1_method_8_code
def yX3_off : MethodName := ⟨RX3, "off", "()I"⟩
abbrev cX3_strays : ByteArray := prog_1_method_9_code
def yX3_strays : MethodName := ⟨RX3, "strays", "()I"⟩
abbrev cX3_standAt : ByteArray := prog_1_method_10_code
def yX3_standAt : MethodName := ⟨RX3, "standAt", "(III)V"⟩
abbrev cX3_isAxis : ByteArray := prog_1_method_11_code
def yX3_isAxis : MethodName := ⟨RX3, "isAxis", "(I)Z"⟩
abbrev cX3_isPlace : ByteArray := prog_1_method_12_code
def yX3_isPlace : MethodName := ⟨RX3, "isPlace", "(III)Z"⟩
abbrev cX3_isWithin : ByteArray := prog_1_method_13_code
def yX3_isWithin : MethodName := ⟨RX3, "isWithin", "(II)Z"⟩
abbrev cX3_greatestAmount : ByteArray := prog_1_method_14_code
def yX3_greatestAmount : MethodName := ⟨RX3, "greatestAmount", "(III)I"⟩
abbrev cX3_isStray : ByteArray := prog_1_method_15_code
def yX3_isStray : MethodName := ⟨RX3, "isStray", "(III)Z"⟩
def RX4 : String := "TickWalksModel"
def TX4 : u_T := fun k => match k with
  | 0 => ("TickWalksModel", "x", "I", false)
  | 1 => ("TickWalksModel", "y", "I", false)
  | 2 => ("TickWalksModel", "z", "I", false)
  | 3 => ("TickWalksModel", "walked", "Z", false)
  | 4 => ("TickWalksModel", "isArc", "Z", false)
  | 5 => ("TickWalksModel", "fromX", "I", false)
  | 6 => ("TickWalksModel", "fromY", "I", false)
  | 7 => ("TickWalksModel", "fromZ", "I", false)
  | 8 => ("TickWalksModel", "byX", "I", false)
  | 9 => ("TickWalksModel", "byY", "I", false)
  | 10 => ("TickWalksModel", "byZ", "I", false)
  | 11 => ("TickWalksModel", "count", "I", false)
  | 12 => ("TickWalksModel", "most", "I", false)
  | 13 => ("TickWalksModel", "way", "[B", true)
  | _ => ("TickWalksModel", "tried", "[B", true)
def tyX4 : Nat → FieldType := fun k => match k with
  | 0 => .int
  | 1 => .int
  | 2 => .int
  | 3 => .boolean
  | 4 => .boolean
  | 5 => .int
  | 6 => .int
  | 7 => .int
  | 8 => .int
  | 9 => .int
  | 10 => .int
  | 11 => .int
  | 12 => .int
  | 13 => .array .byte
  | _ => .array .byte
abbrev wsX40 : List Cond := u_ws RX4 TX4 15
theorem nmX4 : ∀ a, a < 15 → ∀ b, b < 15 → a ≠ b → (TX4 a).2.1 ≠ (TX4 b).2.1 := by decide +kernel
theorem tyX4_ok : ∀ k, k < 15 → parseFieldDescriptor (TX4 k).2.2.1 = some (tyX4 k) := by decide +kernel
abbrev cX4_init : ByteArray := prog_6_method_1_code
def yX4_init : MethodName := ⟨RX4, "<init>", "()V"⟩
abbrev cX4_isPlace : ByteArray := prog_6_method_3_code
def yX4_isPlace : MethodName := ⟨RX4, "isPlace", "(I)Z"⟩
abbrev cX4_isCentre : ByteArray := prog_6_method_4_code
def yX4_isCentre : MethodName := ⟨RX4, "isCentre", "(I)Z"⟩
abbrev cX4_place : ByteArray := prog_6_method_5_code
def yX4_place : MethodName := ⟨RX4, "place", "(III)Z"⟩
abbrev cX4_amount : ByteArray := prog_6_method_6_code
def yX4_amount : MethodName := ⟨RX4, "amount", "(I)I"⟩
abbrev cX4_begin : ByteArray := prog_6_method_7_code
def yX4_begin : MethodName := ⟨RX4, "begin", "(ZI)V"⟩
abbrev cX4_line : ByteArray := prog_6_method_8_code
def yX4_line : MethodName := ⟨RX4, "line", "(III)I"⟩
abbrev cX4_eastOf : ByteArray := prog_6_method_9_code
def yX4_eastOf : MethodName := ⟨RX4, "eastOf", "(I)I"⟩
abbrev cX4_northOf : ByteArray := prog_6_method_10_code
def yX4_northOf : MethodName := ⟨RX4, "northOf", "(I)I"⟩
abbrev cX4_square : ByteArray := prog_6_method_11_code
def yX4_square : MethodName := ⟨RX4, "square", "(J)J"⟩
abbrev cX4_arc : ByteArray := prog_6_method_12_code
def yX4_arc : MethodName := ⟨RX4, "arc", "(IIIIZ)I"⟩
abbrev cX4_tried : ByteArray := prog_6_method_13_code
def yX4_tried : MethodName := ⟨RX4, "tried", "(JJIIJZ)I"⟩
abbrev cX4_down : ByteArray := prog_6_method_14_code
def yX4_down : MethodName := ⟨RX4, "down", "(JJ)I"⟩
abbrev cX4_partOf : ByteArray := prog_6_method_15_code
def yX4_partOf : MethodName := ⟨RX4, "partOf", "(II)I"⟩
abbrev cX4_tick : ByteArray := prog_6_method_16_code
def yX4_tick : MethodName := ⟨RX4, "tick", "(II)I"⟩
abbrev cX4_ticks : ByteArray := prog_6_method_17_code
def yX4_ticks : MethodName := ⟨RX4, "ticks", "()I"⟩
abbrev cX4_at : ByteArray := prog_6_method_18_code
def yX4_at : MethodName := ⟨RX4, "at", "(I)I"⟩
abbrev cX4_off : ByteArray := prog_6_method_19_code
def yX4_off : MethodName := ⟨RX4, "off", "()I"⟩
abbrev cX4_strays : ByteArray := prog_6_method_20_code
def yX4_strays : MethodName := ⟨RX4, "strays", "()I"⟩
def RJ9 : String := "java/lang/Math"
def TJ9 : u_T := fun k => match k with
  | _ => ("", "", "", false)
def tyJ9 : Nat → FieldType := fun k => match k with
  | _ => .int
abbrev wsJ90 : List Cond := u_ws RJ9 TJ9 0
theorem nmJ9 : ∀ a, a < 0 → ∀ b, b < 0 → a ≠ b → (TJ9 a).2.1 ≠ (TJ9 b).2.1 := by decide +kernel
theorem tyJ9_ok : ∀ k, k < 0 → parseFieldDescriptor (TJ9 k).2.2.1 = some (tyJ9 k) := by decide +kernel
abbrev cJ9_floorDiv_f86c9 : ByteArray := prog_7_method_49_code
def yJ9_floorDiv_f86c9 : MethodName := ⟨RJ9, "floorDiv", "(JJ)J"⟩
abbrev cJ9_abs_0f7a4 : ByteArray := prog_7_method_59_code
def yJ9_abs_0f7a4 : MethodName := ⟨RJ9, "abs", "(I)I"⟩
abbrev cJ9_abs_067f4 : ByteArray := prog_7_method_61_code
def yJ9_abs_067f4 : MethodName := ⟨RJ9, "abs", "(J)J"⟩
abbrev cJ9_max_7cf53 : ByteArray := prog_7_method_65_code
def yJ9_max_7cf53 : MethodName := ⟨RJ9, "max", "(II)I"⟩
abbrev cJ9_max_f86c9 : ByteArray := prog_7_method_66_code
def yJ9_max_f86c9 : MethodName := ⟨RJ9, "max", "(JJ)J"⟩
def RL : String := "TickWalksLaw"
abbrev cL_law : ByteArray := code
def yL_law : MethodName := ⟨RL, "law", "([I)Z"⟩
def wsX2_init : List Cond := .code yX2_init cX2_init 1 none :: ([.methodLink RX2 1 objectInit, .instanceMethod objectInit, .code objectInit ⟨#[0xb1]⟩ 1 none])
def wsX0_init : List Cond := .code yX0_init cX0_init 1 none :: ([.arrayClass .int, .fieldLink RX0 9 "TickWalks$Arc" "markX" "[I", .fieldLink RX0 15 "TickWalks$Arc" "markY" "[I", .fieldLink RX0 18 "TickWalks$Arc" "height" "I", .fieldLink RX0 22 "TickWalks$Arc" "centreX" "I", .fieldLink RX0 25 "TickWalks$Arc" "centreY" "I", .fieldLink RX0 28 "TickWalks$Arc" "left" "Z", .fieldLink RX0 32 "TickWalks$Arc" "square" "J", .fieldLink RX0 36 "TickWalks$Arc" "length" "I", .fieldLink RX0 39 "TickWalks$Arc" "off" "I", .fieldLink RX0 42 "TickWalks$Arc" "strays" "I", .fieldLink RX0 45 "TickWalks$Arc" "footX" "I", .fieldLink RX0 48 "TickWalks$Arc" "footY" "I", .instanceMethod yX2_init, .initialized RX2, .code yX2_init cX2_init 1 none, .methodLink RX2 1 objectInit, .instanceMethod objectInit, .code objectInit ⟨#[0xb1]⟩ 1 none] ++ wsX00)
def wsX0_squareFromCentre : List Cond := .code yX0_squareFromCentre cX0_squareFromCentre 5 (some .long) :: ([.fieldLink RX0 45 "TickWalks$Arc" "footX" "I", .fieldLink RX0 22 "TickWalks$Arc" "centreX" "I", .fieldLink RX0 48 "TickWalks$Arc" "footY" "I", .fieldLink RX0 25 "TickWalks$Arc" "centreY" "I"] ++ wsX00)
def wsX0_mark : List Cond := .code yX0_mark cX0_mark 3 none :: ([.fieldLink RX0 9 "TickWalks$Arc" "markX" "[I", .fieldLink RX0 45 "TickWalks$Arc" "footX" "I", .fieldLink RX0 15 "TickWalks$Arc" "markY" "[I", .fieldLink RX0 48 "TickWalks$Arc" "footY" "I"] ++ wsX00)
def wsX0_begin : List Cond := .code yX0_begin cX0_begin 5 none :: ([.fieldLink RX0 45 "TickWalks$Arc" "footX" "I", .fieldLink RX0 48 "TickWalks$Arc" "footY" "I", .fieldLink RX0 18 "TickWalks$Arc" "height" "I", .fieldLink RX0 22 "TickWalks$Arc" "centreX" "I", .fieldLink RX0 25 "TickWalks$Arc" "centreY" "I", .fieldLink RX0 28 "TickWalks$Arc" "left" "Z", .fieldLink RX0 32 "TickWalks$Arc" "square" "J", .fieldLink RX0 36 "TickWalks$Arc" "length" "I", .fieldLink RX0 39 "TickWalks$Arc" "off" "I", .fieldLink RX0 42 "TickWalks$Arc" "strays" "I", .methodLink RX0 51 yX0_squareFromCentre, .instanceMethod yX0_squareFromCentre, .selects RX0 yX0_squareFromCentre yX0_squareFromCentre, .initialized RX0, .code yX0_squareFromCentre cX0_squareFromCentre 5 (some .long), .methodLink RX0 55 yX0_mark, .instanceMethod yX0_mark, .selects RX0 yX0_mark yX0_mark, .code yX0_mark cX0_mark 3 none, .fieldLink RX0 9 "TickWalks$Arc" "markX" "[I", .fieldLink RX0 15 "TickWalks$Arc" "markY" "[I"] ++ wsX00)
def wsX0_step : List Cond := .code yX0_step cX0_step 17 (some .boolean) :: ([.fieldLink RX0 45 "TickWalks$Arc" "footX" "I", .fieldLink RX0 22 "TickWalks$Arc" "centreX" "I", .fieldLink RX0 48 "TickWalks$Arc" "footY" "I", .fieldLink RX0 25 "TickWalks$Arc" "centreY" "I", .fieldLink RX0 28 "TickWalks$Arc" "left" "Z", .fieldLink RX0 32 "TickWalks$Arc" "square" "J", .methodLink RX0 73 Lib.MathLoose.abs_long.x, .static Lib.MathLoose.abs_long.x, .initialized "java/lang/Math", .code Lib.MathLoose.abs_long.x Lib.MathLoose.abs_long.code 2 (some .long)] ++ wsX00)
def wsX3_greatestAmount : List Cond := .code yX3_greatestAmount cX3_greatestAmount 3 (some .int) :: ([.methodLink RX3 79 Lib.Math.abs.name, .static Lib.Math.abs.name, .initialized "java/lang/Math", .code Lib.Math.abs.name Lib.Math.abs.code 1 (some .int), .methodLink RX3 85 Lib.Math.max.name, .static Lib.Math.max.name, .code Lib.Math.max.name Lib.Math.max.code 2 (some .int)])
def wsX3_isStray : List Cond := .code yX3_isStray cX3_isStray 3 (some .boolean) :: ([.methodLink RX3 88 yX3_greatestAmount, .static yX3_greatestAmount, .initialized RX3, .code yX3_greatestAmount cX3_greatestAmount 3 (some .int), .methodLink RX3 79 Lib.Math.abs.name, .static Lib.Math.abs.name, .initialized "java/lang/Math", .code Lib.Math.abs.name Lib.Math.abs.code 1 (some .int), .methodLink RX3 85 Lib.Math.max.name, .static Lib.Math.max.name, .code Lib.Math.max.name Lib.Math.max.code 2 (some .int)])
def wsX0_measure_r1 : List Cond := [Cond.fieldLink RX0 39 "TickWalks$Arc" "off" "I", Cond.fieldLink RX0 32 "TickWalks$Arc" "square" "J", Cond.methodLink RX0 73 Lib.MathLoose.abs_long.x, Cond.static Lib.MathLoose.abs_long.x, Cond.initialized "java/lang/Math", Cond.code Lib.MathLoose.abs_long.x Lib.MathLoose.abs_long.code 2 (some .long), Cond.methodLink RX0 79 Lib.Math.max.name, Cond.static Lib.Math.max.name, Cond.code Lib.Math.max.name Lib.Math.max.code 2 (some .int), Cond.fieldLink RX0 42 "TickWalks$Arc" "strays" "I", Cond.methodLink RX0 51 yX0_squareFromCentre, Cond.instanceMethod yX0_squareFromCentre, Cond.selects RX0 yX0_squareFromCentre yX0_squareFromCentre, Cond.initialized RX0, Cond.code yX0_squareFromCentre cX0_squareFromCentre 5 (some .long), Cond.fieldLink RX0 45 "TickWalks$Arc" "footX" "I", Cond.fieldLink RX0 22 "TickWalks$Arc" "centreX" "I", Cond.fieldLink RX0 48 "TickWalks$Arc" "footY" "I", Cond.fieldLink RX0 25 "TickWalks$Arc" "centreY" "I", Cond.static yX3_isStray, Cond.initialized RX3, Cond.code yX3_isStray cX3_isStray 3 (some .boolean), Cond.methodLink RX3 88 yX3_greatestAmount, Cond.static yX3_greatestAmount]
def wsX0_measure_r2 : List Cond := [Cond.code yX3_greatestAmount cX3_greatestAmount 3 (some .int), Cond.methodLink RX3 79 Lib.Math.abs.name, Cond.static Lib.Math.abs.name, Cond.code Lib.Math.abs.name Lib.Math.abs.code 1 (some .int), Cond.methodLink RX3 85 Lib.Math.max.name]
def wsX0_measure : List Cond := .code yX0_measure cX0_measure 3 none :: ((wsX0_measure_r1 ++ wsX0_measure_r2) ++ wsX00)
def wsX0_walk_r1 : List Cond := [Cond.fieldLink RX0 32 "TickWalks$Arc" "square" "J", Cond.constantLong RX0 59 (25000000), Cond.constant RX0 61 (40000), Cond.fieldLink RX0 45 "TickWalks$Arc" "footX" "I", Cond.fieldLink RX0 48 "TickWalks$Arc" "footY" "I", Cond.fieldLink RX0 36 "TickWalks$Arc" "length" "I", Cond.fieldLink RX0 9 "TickWalks$Arc" "markX" "[I", Cond.fieldLink RX0 15 "TickWalks$Arc" "markY" "[I", Cond.methodLink RX0 62 yX0_step, Cond.instanceMethod yX0_step, Cond.selects RX0 yX0_step yX0_step, Cond.initialized RX0, Cond.code yX0_step cX0_step 17 (some .boolean), Cond.fieldLink RX0 22 "TickWalks$Arc" "centreX" "I", Cond.fieldLink RX0 25 "TickWalks$Arc" "centreY" "I", Cond.fieldLink RX0 28 "TickWalks$Arc" "left" "Z", Cond.methodLink RX0 73 Lib.MathLoose.abs_long.x, Cond.static Lib.MathLoose.abs_long.x, Cond.initialized "java/lang/Math", Cond.code Lib.MathLoose.abs_long.x Lib.MathLoose.abs_long.code 2 (some .long), Cond.methodLink RX0 55 yX0_mark, Cond.instanceMethod yX0_mark, Cond.selects RX0 yX0_mark yX0_mark, Cond.code yX0_mark cX0_mark 3 none]
def wsX0_walk_r2 : List Cond := [Cond.methodLink RX0 66 yX0_measure, Cond.instanceMethod yX0_measure, Cond.selects RX0 yX0_measure yX0_measure, Cond.code yX0_measure cX0_measure 3 none, Cond.fieldLink RX0 39 "TickWalks$Arc" "off" "I", Cond.methodLink RX0 79 Lib.Math.max.name, Cond.static Lib.Math.max.name, Cond.code Lib.Math.max.name Lib.Math.max.code 2 (some .int), Cond.fieldLink RX0 42 "TickWalks$Arc" "strays" "I", Cond.methodLink RX0 51 yX0_squareFromCentre, Cond.instanceMethod yX0_squareFromCentre, Cond.selects RX0 yX0_squareFromCentre yX0_squareFromCentre, Cond.code yX0_squareFromCentre cX0_squareFromCentre 5 (some .long), Cond.static yX3_isStray, Cond.initialized RX3, Cond.code yX3_isStray cX3_isStray 3 (some .boolean), Cond.methodLink RX3 88 yX3_greatestAmount, Cond.static yX3_greatestAmount, Cond.code yX3_greatestAmount cX3_greatestAmount 3 (some .int), Cond.methodLink RX3 79 Lib.Math.abs.name, Cond.static Lib.Math.abs.name, Cond.code Lib.Math.abs.name Lib.Math.abs.code 1 (some .int), Cond.methodLink RX3 85 Lib.Math.max.name]
def wsX0_walk : List Cond := .code yX0_walk cX0_walk 6 (some .boolean) :: ((wsX0_walk_r1 ++ wsX0_walk_r2) ++ wsX00)
def wsX0_length : List Cond := .code yX0_length cX0_length 1 (some .int) :: ([.fieldLink RX0 36 "TickWalks$Arc" "length" "I"] ++ wsX00)
def wsX0_seek : List Cond := .code yX0_seek cX0_seek 4 none :: ([.fieldLink RX0 9 "TickWalks$Arc" "markX" "[I", .fieldLink RX0 45 "TickWalks$Arc" "footX" "I", .fieldLink RX0 15 "TickWalks$Arc" "markY" "[I", .fieldLink RX0 48 "TickWalks$Arc" "footY" "I", .methodLink RX0 62 yX0_step, .instanceMethod yX0_step, .selects RX0 yX0_step yX0_step, .initialized RX0, .code yX0_step cX0_step 17 (some .boolean), .fieldLink RX0 22 "TickWalks$Arc" "centreX" "I", .fieldLink RX0 25 "TickWalks$Arc" "centreY" "I", .fieldLink RX0 28 "TickWalks$Arc" "left" "Z", .fieldLink RX0 32 "TickWalks$Arc" "square" "J", .methodLink RX0 73 Lib.MathLoose.abs_long.x, .static Lib.MathLoose.abs_long.x, .initialized "java/lang/Math", .code Lib.MathLoose.abs_long.x Lib.MathLoose.abs_long.code 2 (some .long)] ++ wsX00)
def wsX0_placeBehind : List Cond := .code yX0_placeBehind cX0_placeBehind 3 (some .int) :: ([.fieldLink RX0 18 "TickWalks$Arc" "height" "I", .fieldLink RX0 45 "TickWalks$Arc" "footX" "I", .fieldLink RX0 48 "TickWalks$Arc" "footY" "I", .methodLink RX0 70 yX0_seek, .instanceMethod yX0_seek, .selects RX0 yX0_seek yX0_seek, .initialized RX0, .code yX0_seek cX0_seek 4 none, .fieldLink RX0 9 "TickWalks$Arc" "markX" "[I", .fieldLink RX0 15 "TickWalks$Arc" "markY" "[I", .methodLink RX0 62 yX0_step, .instanceMethod yX0_step, .selects RX0 yX0_step yX0_step, .code yX0_step cX0_step 17 (some .boolean), .fieldLink RX0 22 "TickWalks$Arc" "centreX" "I", .fieldLink RX0 25 "TickWalks$Arc" "centreY" "I", .fieldLink RX0 28 "TickWalks$Arc" "left" "Z", .fieldLink RX0 32 "TickWalks$Arc" "square" "J", .methodLink RX0 73 Lib.MathLoose.abs_long.x, .static Lib.MathLoose.abs_long.x, .initialized "java/lang/Math", .code Lib.MathLoose.abs_long.x Lib.MathLoose.abs_long.code 2 (some .long)] ++ wsX00)
def wsX0_greatestOff : List Cond := .code yX0_greatestOff cX0_greatestOff 1 (some .int) :: ([.fieldLink RX0 39 "TickWalks$Arc" "off" "I"] ++ wsX00)
def wsX0_strayTicks : List Cond := .code yX0_strayTicks cX0_strayTicks 1 (some .int) :: ([.fieldLink RX0 42 "TickWalks$Arc" "strays" "I"] ++ wsX00)
def wsX1_init : List Cond := .code yX1_init cX1_init 1 none :: ([.arrayClass .int, .fieldLink RX1 9 "TickWalks$Line" "from" "[I", .fieldLink RX1 15 "TickWalks$Line" "by" "[I", .fieldLink RX1 18 "TickWalks$Line" "length" "I", .fieldLink RX1 22 "TickWalks$Line" "strays" "I", .instanceMethod yX2_init, .initialized RX2, .code yX2_init cX2_init 1 none, .methodLink RX2 1 objectInit, .instanceMethod objectInit, .code objectInit ⟨#[0xb1]⟩ 1 none] ++ wsX10)
def wsX1_walk : List Cond := .code yX1_walk cX1_walk 6 none :: ([.fieldLink RX1 9 "TickWalks$Line" "from" "[I", .fieldLink RX1 15 "TickWalks$Line" "by" "[I", .fieldLink RX1 18 "TickWalks$Line" "length" "I", .fieldLink RX1 22 "TickWalks$Line" "strays" "I", .static yX3_greatestAmount, .initialized RX3, .code yX3_greatestAmount cX3_greatestAmount 3 (some .int), .methodLink RX3 79 Lib.Math.abs.name, .static Lib.Math.abs.name, .initialized "java/lang/Math", .code Lib.Math.abs.name Lib.Math.abs.code 1 (some .int), .methodLink RX3 85 Lib.Math.max.name, .static Lib.Math.max.name, .code Lib.Math.max.name Lib.Math.max.code 2 (some .int)] ++ wsX10)
def wsX1_length : List Cond := .code yX1_length cX1_length 1 (some .int) :: ([.fieldLink RX1 18 "TickWalks$Line" "length" "I"] ++ wsX10)
def wsJ9_floorDiv_f86c9 : List Cond := .code yJ9_floorDiv_f86c9 cJ9_floorDiv_f86c9 6 (some .long) :: ([])
def wsX1_placeBehind : List Cond := .code yX1_placeBehind cX1_placeBehind 5 (some .int) :: ([.fieldLink RX1 18 "TickWalks$Line" "length" "I", .fieldLink RX1 9 "TickWalks$Line" "from" "[I", .constantLong RX1 29 (2), .fieldLink RX1 15 "TickWalks$Line" "by" "[I", .methodLink RX1 31 yJ9_floorDiv_f86c9, .static yJ9_floorDiv_f86c9, .initialized RJ9, .code yJ9_floorDiv_f86c9 cJ9_floorDiv_f86c9 6 (some .long)] ++ wsX10)
def wsX1_greatestOff : List Cond := .code yX1_greatestOff cX1_greatestOff 1 (some .int) :: ([])
def wsX1_countStrays_r1 : List Cond := [Cond.fieldLink RX1 9 "TickWalks$Line" "from" "[I", Cond.fieldLink RX1 18 "TickWalks$Line" "length" "I", Cond.methodLink RX1 41 yX1_placeBehind, Cond.instanceMethod yX1_placeBehind, Cond.selects RX1 yX1_placeBehind yX1_placeBehind, Cond.initialized RX1, Cond.code yX1_placeBehind cX1_placeBehind 5 (some .int), Cond.constantLong RX1 29 (2), Cond.fieldLink RX1 15 "TickWalks$Line" "by" "[I", Cond.methodLink RX1 31 yJ9_floorDiv_f86c9, Cond.static yJ9_floorDiv_f86c9, Cond.initialized RJ9, Cond.code yJ9_floorDiv_f86c9 cJ9_floorDiv_f86c9 6 (some .long), Cond.static yX3_isStray, Cond.initialized RX3, Cond.code yX3_isStray cX3_isStray 3 (some .boolean), Cond.methodLink RX3 88 yX3_greatestAmount, Cond.static yX3_greatestAmount, Cond.code yX3_greatestAmount cX3_greatestAmount 3 (some .int), Cond.methodLink RX3 79 Lib.Math.abs.name, Cond.static Lib.Math.abs.name, Cond.initialized "java/lang/Math", Cond.code Lib.Math.abs.name Lib.Math.abs.code 1 (some .int), Cond.methodLink RX3 85 Lib.Math.max.name]
def wsX1_countStrays_r2 : List Cond := [Cond.static Lib.Math.max.name, Cond.code Lib.Math.max.name Lib.Math.max.code 2 (some .int)]
def wsX1_countStrays : List Cond := .code yX1_countStrays cX1_countStrays 9 (some .int) :: ((wsX1_countStrays_r1 ++ wsX1_countStrays_r2) ++ wsX10)
def wsX1_strayTicks_r1 : List Cond := [Cond.fieldLink RX1 22 "TickWalks$Line" "strays" "I", Cond.methodLink RX1 37 yX1_countStrays, Cond.instanceMethod yX1_countStrays, Cond.selects RX1 yX1_countStrays yX1_countStrays, Cond.initialized RX1, Cond.code yX1_countStrays cX1_countStrays 9 (some .int), Cond.fieldLink RX1 9 "TickWalks$Line" "from" "[I", Cond.fieldLink RX1 18 "TickWalks$Line" "length" "I", Cond.methodLink RX1 41 yX1_placeBehind, Cond.instanceMethod yX1_placeBehind, Cond.selects RX1 yX1_placeBehind yX1_placeBehind, Cond.code yX1_placeBehind cX1_placeBehind 5 (some .int), Cond.constantLong RX1 29 (2), Cond.fieldLink RX1 15 "TickWalks$Line" "by" "[I", Cond.methodLink RX1 31 yJ9_floorDiv_f86c9, Cond.static yJ9_floorDiv_f86c9, Cond.initialized RJ9, Cond.code yJ9_floorDiv_f86c9 cJ9_floorDiv_f86c9 6 (some .long), Cond.static yX3_isStray, Cond.initialized RX3, Cond.code yX3_isStray cX3_isStray 3 (some .boolean), Cond.methodLink RX3 88 yX3_greatestAmount, Cond.static yX3_greatestAmount, Cond.code yX3_greatestAmount cX3_greatestAmount 3 (some .int)]
def wsX1_strayTicks_r2 : List Cond := [Cond.methodLink RX3 79 Lib.Math.abs.name, Cond.static Lib.Math.abs.name, Cond.initialized "java/lang/Math", Cond.code Lib.Math.abs.name Lib.Math.abs.code 1 (some .int), Cond.methodLink RX3 85 Lib.Math.max.name, Cond.static Lib.Math.max.name, Cond.code Lib.Math.max.name Lib.Math.max.code 2 (some .int)]
def wsX1_strayTicks : List Cond := .code yX1_strayTicks cX1_strayTicks 1 (some .int) :: ((wsX1_strayTicks_r1 ++ wsX1_strayTicks_r2) ++ wsX10)
def wsX3_init_r1 : List Cond := [Cond.methodLink RX3 3 objectInit, Cond.instanceMethod objectInit, Cond.code objectInit ⟨#[0xb1]⟩ 1 none, Cond.arrayClass .int, Cond.fieldLink RX3 9 "TickWalks" "stand" "[I", Cond.classLink RX3 13 RX1, Cond.instantiable RX1 4, Cond.initialized RX1, Cond.fieldLink RX3 16 "TickWalks" "latestLine" "LTickWalks$Line;", Cond.classLink RX3 20 RX0, Cond.instantiable RX0 12, Cond.initialized RX0, Cond.fieldLink RX3 23 "TickWalks" "latestArc" "LTickWalks$Arc;", Cond.fieldLink RX3 27 "TickWalks" "triedArc" "LTickWalks$Arc;", Cond.fieldLink RX3 30 "TickWalks" "latest" "LTickWalks$Walk;", Cond.instanceMethod yX1_init, Cond.code yX1_init cX1_init 1 none, Cond.fieldLink RX1 9 "TickWalks$Line" "from" "[I", Cond.fieldLink RX1 15 "TickWalks$Line" "by" "[I", Cond.fieldLink RX1 18 "TickWalks$Line" "length" "I", Cond.fieldLink RX1 22 "TickWalks$Line" "strays" "I", Cond.instanceMethod yX2_init, Cond.initialized RX2, Cond.code yX2_init cX2_init 1 none]
def wsX3_init_r2 : List Cond := [Cond.methodLink RX2 1 objectInit, Cond.instanceMethod yX0_init, Cond.code yX0_init cX0_init 1 none, Cond.fieldLink RX0 9 "TickWalks$Arc" "markX" "[I", Cond.fieldLink RX0 15 "TickWalks$Arc" "markY" "[I", Cond.fieldLink RX0 18 "TickWalks$Arc" "height" "I", Cond.fieldLink RX0 22 "TickWalks$Arc" "centreX" "I", Cond.fieldLink RX0 25 "TickWalks$Arc" "centreY" "I", Cond.fieldLink RX0 28 "TickWalks$Arc" "left" "Z", Cond.fieldLink RX0 32 "TickWalks$Arc" "square" "J", Cond.fieldLink RX0 36 "TickWalks$Arc" "length" "I", Cond.fieldLink RX0 39 "TickWalks$Arc" "off" "I", Cond.fieldLink RX0 42 "TickWalks$Arc" "strays" "I", Cond.fieldLink RX0 45 "TickWalks$Arc" "footX" "I", Cond.fieldLink RX0 48 "TickWalks$Arc" "footY" "I"]
def wsX3_init : List Cond := .code yX3_init cX3_init 1 none :: ((wsX3_init_r1 ++ wsX3_init_r2) ++ wsX30 ++ wsX10 ++ wsX00)
def wsX3_isWithin : List Cond := .code yX3_isWithin cX3_isWithin 2 (some .boolean) :: ([])
def wsX3_isPlace : List Cond := .code yX3_isPlace cX3_isPlace 3 (some .boolean) :: ([.methodLink RX3 51 yX3_isWithin, .static yX3_isWithin, .initialized RX3, .code yX3_isWithin cX3_isWithin 2 (some .boolean)])
def wsX3_standAt : List Cond := .code yX3_standAt cX3_standAt 4 none :: ([.fieldLink RX3 9 "TickWalks" "stand" "[I"] ++ wsX30)
def wsX3_place : List Cond := .code yX3_place cX3_place 4 (some .boolean) :: ([.fieldLink RX3 30 "TickWalks" "latest" "LTickWalks$Walk;", .methodLink RX3 34 yX3_isPlace, .static yX3_isPlace, .initialized RX3, .code yX3_isPlace cX3_isPlace 3 (some .boolean), .methodLink RX3 51 yX3_isWithin, .static yX3_isWithin, .code yX3_isWithin cX3_isWithin 2 (some .boolean), .methodLink RX3 38 yX3_standAt, .instanceMethod yX3_standAt, .selects RX3 yX3_standAt yX3_standAt, .code yX3_standAt cX3_standAt 4 none, .fieldLink RX3 9 "TickWalks" "stand" "[I"] ++ wsX30)
def wsX3_line_r1 : List Cond := [Cond.fieldLink RX3 16 "TickWalks" "latestLine" "LTickWalks$Line;", Cond.fieldLink RX3 9 "TickWalks" "stand" "[I", Cond.fieldLink RX3 30 "TickWalks" "latest" "LTickWalks$Walk;", Cond.methodLink RX3 34 yX3_isPlace, Cond.static yX3_isPlace, Cond.initialized RX3, Cond.code yX3_isPlace cX3_isPlace 3 (some .boolean), Cond.methodLink RX3 51 yX3_isWithin, Cond.static yX3_isWithin, Cond.code yX3_isWithin cX3_isWithin 2 (some .boolean), Cond.methodLink RX3 42 yX1_walk, Cond.instanceMethod yX1_walk, Cond.selects RX1 yX1_walk yX1_walk, Cond.initialized RX1, Cond.code yX1_walk cX1_walk 6 none, Cond.fieldLink RX1 9 "TickWalks$Line" "from" "[I", Cond.fieldLink RX1 15 "TickWalks$Line" "by" "[I", Cond.fieldLink RX1 18 "TickWalks$Line" "length" "I", Cond.fieldLink RX1 22 "TickWalks$Line" "strays" "I", Cond.static yX3_greatestAmount, Cond.code yX3_greatestAmount cX3_greatestAmount 3 (some .int), Cond.methodLink RX3 79 Lib.Math.abs.name, Cond.static Lib.Math.abs.name, Cond.initialized "java/lang/Math"]
def wsX3_line_r2 : List Cond := [Cond.code Lib.Math.abs.name Lib.Math.abs.code 1 (some .int), Cond.methodLink RX3 85 Lib.Math.max.name, Cond.static Lib.Math.max.name, Cond.code Lib.Math.max.name Lib.Math.max.code 2 (some .int), Cond.methodLink RX3 38 yX3_standAt, Cond.instanceMethod yX3_standAt, Cond.selects RX3 yX3_standAt yX3_standAt, Cond.code yX3_standAt cX3_standAt 4 none, Cond.methodLink RX3 46 yX1_length, Cond.instanceMethod yX1_length, Cond.selects RX1 yX1_length yX1_length, Cond.code yX1_length cX1_length 1 (some .int)]
def wsX3_line : List Cond := .code yX3_line cX3_line 4 (some .int) :: ((wsX3_line_r1 ++ wsX3_line_r2) ++ wsX30 ++ wsX10)
def wsX3_arc_r1 : List Cond := [Cond.fieldLink RX3 9 "TickWalks" "stand" "[I", Cond.constant RX3 50 (40000), Cond.fieldLink RX3 27 "TickWalks" "triedArc" "LTickWalks$Arc;", Cond.fieldLink RX3 23 "TickWalks" "latestArc" "LTickWalks$Arc;", Cond.fieldLink RX3 30 "TickWalks" "latest" "LTickWalks$Walk;", Cond.methodLink RX3 34 yX3_isPlace, Cond.static yX3_isPlace, Cond.initialized RX3, Cond.code yX3_isPlace cX3_isPlace 3 (some .boolean), Cond.methodLink RX3 51 yX3_isWithin, Cond.static yX3_isWithin, Cond.code yX3_isWithin cX3_isWithin 2 (some .boolean), Cond.methodLink RX3 55 yX0_begin, Cond.instanceMethod yX0_begin, Cond.selects RX0 yX0_begin yX0_begin, Cond.initialized RX0, Cond.code yX0_begin cX0_begin 5 none, Cond.fieldLink RX0 45 "TickWalks$Arc" "footX" "I", Cond.fieldLink RX0 48 "TickWalks$Arc" "footY" "I", Cond.fieldLink RX0 18 "TickWalks$Arc" "height" "I", Cond.fieldLink RX0 22 "TickWalks$Arc" "centreX" "I", Cond.fieldLink RX0 25 "TickWalks$Arc" "centreY" "I", Cond.fieldLink RX0 28 "TickWalks$Arc" "left" "Z", Cond.fieldLink RX0 32 "TickWalks$Arc" "square" "J"]
def wsX3_arc_r2 : List Cond := [Cond.fieldLink RX0 36 "TickWalks$Arc" "length" "I", Cond.fieldLink RX0 39 "TickWalks$Arc" "off" "I", Cond.fieldLink RX0 42 "TickWalks$Arc" "strays" "I", Cond.methodLink RX0 51 yX0_squareFromCentre, Cond.instanceMethod yX0_squareFromCentre, Cond.selects RX0 yX0_squareFromCentre yX0_squareFromCentre, Cond.code yX0_squareFromCentre cX0_squareFromCentre 5 (some .long), Cond.methodLink RX0 55 yX0_mark, Cond.instanceMethod yX0_mark, Cond.selects RX0 yX0_mark yX0_mark, Cond.code yX0_mark cX0_mark 3 none, Cond.fieldLink RX0 9 "TickWalks$Arc" "markX" "[I", Cond.fieldLink RX0 15 "TickWalks$Arc" "markY" "[I", Cond.methodLink RX3 59 yX0_walk, Cond.instanceMethod yX0_walk, Cond.selects RX0 yX0_walk yX0_walk, Cond.code yX0_walk cX0_walk 6 (some .boolean), Cond.constantLong RX0 59 (25000000), Cond.constant RX0 61 (40000), Cond.methodLink RX0 62 yX0_step, Cond.instanceMethod yX0_step, Cond.selects RX0 yX0_step yX0_step, Cond.code yX0_step cX0_step 17 (some .boolean), Cond.methodLink RX0 73 Lib.MathLoose.abs_long.x]
def wsX3_arc_r3 : List Cond := [Cond.static Lib.MathLoose.abs_long.x, Cond.initialized "java/lang/Math", Cond.code Lib.MathLoose.abs_long.x Lib.MathLoose.abs_long.code 2 (some .long), Cond.methodLink RX0 66 yX0_measure, Cond.instanceMethod yX0_measure, Cond.selects RX0 yX0_measure yX0_measure, Cond.code yX0_measure cX0_measure 3 none, Cond.methodLink RX0 79 Lib.Math.max.name, Cond.static Lib.Math.max.name, Cond.code Lib.Math.max.name Lib.Math.max.code 2 (some .int), Cond.static yX3_isStray, Cond.code yX3_isStray cX3_isStray 3 (some .boolean), Cond.methodLink RX3 88 yX3_greatestAmount, Cond.static yX3_greatestAmount, Cond.code yX3_greatestAmount cX3_greatestAmount 3 (some .int), Cond.methodLink RX3 79 Lib.Math.abs.name, Cond.static Lib.Math.abs.name, Cond.code Lib.Math.abs.name Lib.Math.abs.code 1 (some .int), Cond.methodLink RX3 85 Lib.Math.max.name, Cond.methodLink RX3 38 yX3_standAt, Cond.instanceMethod yX3_standAt, Cond.selects RX3 yX3_standAt yX3_standAt, Cond.code yX3_standAt cX3_standAt 4 none, Cond.methodLink RX3 61 yX0_length]
def wsX3_arc_r4 : List Cond := [Cond.instanceMethod yX0_length, Cond.selects RX0 yX0_length yX0_length, Cond.code yX0_length cX0_length 1 (some .int)]
def wsX3_arc : List Cond := .code yX3_arc cX3_arc 7 (some .int) :: ((wsX3_arc_r1 ++ (wsX3_arc_r2 ++ (wsX3_arc_r3 ++ wsX3_arc_r4))) ++ wsX30 ++ wsX00)
def wsX3_isAxis : List Cond := .code yX3_isAxis cX3_isAxis 1 (some .boolean) :: ([])
def wsX3_tick_r1 : List Cond := [Cond.fieldLink RX3 30 "TickWalks" "latest" "LTickWalks$Walk;", Cond.methodLink RX3 62 yX3_isAxis, Cond.static yX3_isAxis, Cond.initialized RX3, Cond.code yX3_isAxis cX3_isAxis 1 (some .boolean), Cond.methodLink RX3 66 ⟨"TickWalks$Walk", "length", "()I"⟩, Cond.sameMethod "TickWalks$Walk" "TickWalks$Walk" "length" "()I", Cond.selects RX0 ⟨"TickWalks$Walk", "length", "()I"⟩ yX0_length, Cond.instanceMethod yX0_length, Cond.initialized RX0, Cond.code yX0_length cX0_length 1 (some .int), Cond.fieldLink RX0 36 "TickWalks$Arc" "length" "I", Cond.selects RX1 ⟨"TickWalks$Walk", "length", "()I"⟩ yX1_length, Cond.instanceMethod yX1_length, Cond.initialized RX1, Cond.code yX1_length cX1_length 1 (some .int), Cond.fieldLink RX1 18 "TickWalks$Line" "length" "I", Cond.methodLink RX3 69 ⟨"TickWalks$Walk", "placeBehind", "(II)I"⟩, Cond.sameMethod "TickWalks$Walk" "TickWalks$Walk" "placeBehind" "(II)I", Cond.selects RX0 ⟨"TickWalks$Walk", "placeBehind", "(II)I"⟩ yX0_placeBehind, Cond.instanceMethod yX0_placeBehind, Cond.code yX0_placeBehind cX0_placeBehind 3 (some .int), Cond.fieldLink RX0 18 "TickWalks$Arc" "height" "I", Cond.fieldLink RX0 45 "TickWalks$Arc" "footX" "I"]
def wsX3_tick_r2 : List Cond := [Cond.fieldLink RX0 48 "TickWalks$Arc" "footY" "I", Cond.methodLink RX0 70 yX0_seek, Cond.instanceMethod yX0_seek, Cond.selects RX0 yX0_seek yX0_seek, Cond.code yX0_seek cX0_seek 4 none, Cond.fieldLink RX0 9 "TickWalks$Arc" "markX" "[I", Cond.fieldLink RX0 15 "TickWalks$Arc" "markY" "[I", Cond.methodLink RX0 62 yX0_step, Cond.instanceMethod yX0_step, Cond.selects RX0 yX0_step yX0_step, Cond.code yX0_step cX0_step 17 (some .boolean), Cond.fieldLink RX0 22 "TickWalks$Arc" "centreX" "I", Cond.fieldLink RX0 25 "TickWalks$Arc" "centreY" "I", Cond.fieldLink RX0 28 "TickWalks$Arc" "left" "Z", Cond.fieldLink RX0 32 "TickWalks$Arc" "square" "J", Cond.methodLink RX0 73 Lib.MathLoose.abs_long.x, Cond.static Lib.MathLoose.abs_long.x, Cond.initialized "java/lang/Math", Cond.code Lib.MathLoose.abs_long.x Lib.MathLoose.abs_long.code 2 (some .long), Cond.selects RX1 ⟨"TickWalks$Walk", "placeBehind", "(II)I"⟩ yX1_placeBehind, Cond.instanceMethod yX1_placeBehind, Cond.code yX1_placeBehind cX1_placeBehind 5 (some .int), Cond.fieldLink RX1 9 "TickWalks$Line" "from" "[I", Cond.constantLong RX1 29 (2)]
def wsX3_tick_r3 : List Cond := [Cond.fieldLink RX1 15 "TickWalks$Line" "by" "[I", Cond.methodLink RX1 31 yJ9_floorDiv_f86c9, Cond.static yJ9_floorDiv_f86c9, Cond.initialized RJ9, Cond.code yJ9_floorDiv_f86c9 cJ9_floorDiv_f86c9 6 (some .long)]
def wsX3_tick : List Cond := .code yX3_tick cX3_tick 3 (some .int) :: ((wsX3_tick_r1 ++ (wsX3_tick_r2 ++ wsX3_tick_r3)) ++ wsX30 ++ wsX00 ++ wsX10)
def wsX3_ticks : List Cond := .code yX3_ticks cX3_ticks 1 (some .int) :: ([.fieldLink RX3 30 "TickWalks" "latest" "LTickWalks$Walk;", .methodLink RX3 66 ⟨"TickWalks$Walk", "length", "()I"⟩, .sameMethod "TickWalks$Walk" "TickWalks$Walk" "length" "()I", .selects RX0 ⟨"TickWalks$Walk", "length", "()I"⟩ yX0_length, .instanceMethod yX0_length, .initialized RX0, .code yX0_length cX0_length 1 (some .int), .fieldLink RX0 36 "TickWalks$Arc" "length" "I", .selects RX1 ⟨"TickWalks$Walk", "length", "()I"⟩ yX1_length, .instanceMethod yX1_length, .initialized RX1, .code yX1_length cX1_length 1 (some .int), .fieldLink RX1 18 "TickWalks$Line" "length" "I"] ++ wsX30 ++ wsX00 ++ wsX10)
def wsX3_at : List Cond := .code yX3_at cX3_at 2 (some .int) :: ([.fieldLink RX3 9 "TickWalks" "stand" "[I", .methodLink RX3 62 yX3_isAxis, .static yX3_isAxis, .initialized RX3, .code yX3_isAxis cX3_isAxis 1 (some .boolean)] ++ wsX30)
def wsX3_off : List Cond := .code yX3_off cX3_off 1 (some .int) :: ([.fieldLink RX3 30 "TickWalks" "latest" "LTickWalks$Walk;", .methodLink RX3 73 ⟨"TickWalks$Walk", "greatestOff", "()I"⟩, .sameMethod "TickWalks$Walk" "TickWalks$Walk" "greatestOff" "()I", .selects RX0 ⟨"TickWalks$Walk", "greatestOff", "()I"⟩ yX0_greatestOff, .instanceMethod yX0_greatestOff, .initialized RX0, .code yX0_greatestOff cX0_greatestOff 1 (some .int), .fieldLink RX0 39 "TickWalks$Arc" "off" "I", .selects RX1 ⟨"TickWalks$Walk", "greatestOff", "()I"⟩ yX1_greatestOff, .instanceMethod yX1_greatestOff, .initialized RX1, .code yX1_greatestOff cX1_greatestOff 1 (some .int)] ++ wsX30 ++ wsX00)
def wsX3_strays_r1 : List Cond := [Cond.fieldLink RX3 30 "TickWalks" "latest" "LTickWalks$Walk;", Cond.methodLink RX3 76 ⟨"TickWalks$Walk", "strayTicks", "()I"⟩, Cond.sameMethod "TickWalks$Walk" "TickWalks$Walk" "strayTicks" "()I", Cond.selects RX0 ⟨"TickWalks$Walk", "strayTicks", "()I"⟩ yX0_strayTicks, Cond.instanceMethod yX0_strayTicks, Cond.initialized RX0, Cond.code yX0_strayTicks cX0_strayTicks 1 (some .int), Cond.fieldLink RX0 42 "TickWalks$Arc" "strays" "I", Cond.selects RX1 ⟨"TickWalks$Walk", "strayTicks", "()I"⟩ yX1_strayTicks, Cond.instanceMethod yX1_strayTicks, Cond.initialized RX1, Cond.code yX1_strayTicks cX1_strayTicks 1 (some .int), Cond.fieldLink RX1 22 "TickWalks$Line" "strays" "I", Cond.methodLink RX1 37 yX1_countStrays, Cond.instanceMethod yX1_countStrays, Cond.selects RX1 yX1_countStrays yX1_countStrays, Cond.code yX1_countStrays cX1_countStrays 9 (some .int), Cond.fieldLink RX1 9 "TickWalks$Line" "from" "[I", Cond.fieldLink RX1 18 "TickWalks$Line" "length" "I", Cond.methodLink RX1 41 yX1_placeBehind, Cond.instanceMethod yX1_placeBehind, Cond.selects RX1 yX1_placeBehind yX1_placeBehind, Cond.code yX1_placeBehind cX1_placeBehind 5 (some .int), Cond.constantLong RX1 29 (2)]
def wsX3_strays_r2 : List Cond := [Cond.fieldLink RX1 15 "TickWalks$Line" "by" "[I", Cond.methodLink RX1 31 yJ9_floorDiv_f86c9, Cond.static yJ9_floorDiv_f86c9, Cond.initialized RJ9, Cond.code yJ9_floorDiv_f86c9 cJ9_floorDiv_f86c9 6 (some .long), Cond.static yX3_isStray, Cond.initialized RX3, Cond.code yX3_isStray cX3_isStray 3 (some .boolean), Cond.methodLink RX3 88 yX3_greatestAmount, Cond.static yX3_greatestAmount, Cond.code yX3_greatestAmount cX3_greatestAmount 3 (some .int), Cond.methodLink RX3 79 Lib.Math.abs.name, Cond.static Lib.Math.abs.name, Cond.initialized "java/lang/Math", Cond.code Lib.Math.abs.name Lib.Math.abs.code 1 (some .int), Cond.methodLink RX3 85 Lib.Math.max.name, Cond.static Lib.Math.max.name, Cond.code Lib.Math.max.name Lib.Math.max.code 2 (some .int)]
def wsX3_strays : List Cond := .code yX3_strays cX3_strays 1 (some .int) :: ((wsX3_strays_r1 ++ wsX3_strays_r2) ++ wsX30 ++ wsX00 ++ wsX10)
def wsX4_init : List Cond := .code yX4_init cX4_init 1 none :: ([.methodLink RX4 1 objectInit, .instanceMethod objectInit, .code objectInit ⟨#[0xb1]⟩ 1 none, .constant RX4 9 (40000), .arrayClass .byte, .fieldLink RX4 10 "TickWalksModel" "way" "[B", .fieldLink RX4 14 "TickWalksModel" "tried" "[B"] ++ wsX40)
def wsX4_isPlace : List Cond := .code yX4_isPlace cX4_isPlace 1 (some .boolean) :: ([])
def wsX4_isCentre : List Cond := .code yX4_isCentre cX4_isCentre 1 (some .boolean) :: ([.constant RX4 17 (-40000), .constant RX4 9 (40000)])
def wsX4_place : List Cond := .code yX4_place cX4_place 4 (some .boolean) :: ([.fieldLink RX4 22 "TickWalksModel" "x" "I", .fieldLink RX4 26 "TickWalksModel" "y" "I", .fieldLink RX4 29 "TickWalksModel" "z" "I", .fieldLink RX4 32 "TickWalksModel" "walked" "Z", .fieldLink RX4 36 "TickWalksModel" "count" "I", .fieldLink RX4 39 "TickWalksModel" "most" "I", .methodLink RX4 18 yX4_isPlace, .static yX4_isPlace, .initialized RX4, .code yX4_isPlace cX4_isPlace 1 (some .boolean)] ++ wsX40)
def wsX4_amount : List Cond := .code yX4_amount cX4_amount 1 (some .int) :: ([])
def wsX4_begin : List Cond := .code yX4_begin cX4_begin 3 none :: ([.fieldLink RX4 32 "TickWalksModel" "walked" "Z", .fieldLink RX4 42 "TickWalksModel" "isArc" "Z", .fieldLink RX4 22 "TickWalksModel" "x" "I", .fieldLink RX4 45 "TickWalksModel" "fromX" "I", .fieldLink RX4 26 "TickWalksModel" "y" "I", .fieldLink RX4 48 "TickWalksModel" "fromY" "I", .fieldLink RX4 29 "TickWalksModel" "z" "I", .fieldLink RX4 51 "TickWalksModel" "fromZ" "I", .fieldLink RX4 36 "TickWalksModel" "count" "I", .fieldLink RX4 39 "TickWalksModel" "most" "I"] ++ wsX40)
def wsX4_line_r1 : List Cond := [Cond.fieldLink RX4 22 "TickWalksModel" "x" "I", Cond.fieldLink RX4 54 "TickWalksModel" "byX" "I", Cond.fieldLink RX4 26 "TickWalksModel" "y" "I", Cond.fieldLink RX4 57 "TickWalksModel" "byY" "I", Cond.fieldLink RX4 29 "TickWalksModel" "z" "I", Cond.fieldLink RX4 60 "TickWalksModel" "byZ" "I", Cond.methodLink RX4 67 Lib.Math.max.name, Cond.static Lib.Math.max.name, Cond.initialized "java/lang/Math", Cond.code Lib.Math.max.name Lib.Math.max.code 2 (some .int), Cond.fieldLink RX4 36 "TickWalksModel" "count" "I", Cond.methodLink RX4 18 yX4_isPlace, Cond.static yX4_isPlace, Cond.initialized RX4, Cond.code yX4_isPlace cX4_isPlace 1 (some .boolean), Cond.methodLink RX4 63 yX4_amount, Cond.static yX4_amount, Cond.code yX4_amount cX4_amount 1 (some .int), Cond.methodLink RX4 73 yX4_begin, Cond.instanceMethod yX4_begin, Cond.selects RX4 yX4_begin yX4_begin, Cond.code yX4_begin cX4_begin 3 none, Cond.fieldLink RX4 32 "TickWalksModel" "walked" "Z", Cond.fieldLink RX4 42 "TickWalksModel" "isArc" "Z"]
def wsX4_line_r2 : List Cond := [Cond.fieldLink RX4 45 "TickWalksModel" "fromX" "I", Cond.fieldLink RX4 48 "TickWalksModel" "fromY" "I", Cond.fieldLink RX4 51 "TickWalksModel" "fromZ" "I", Cond.fieldLink RX4 39 "TickWalksModel" "most" "I"]
def wsX4_line : List Cond := .code yX4_line cX4_line 4 (some .int) :: ((wsX4_line_r1 ++ wsX4_line_r2) ++ wsX40)
def wsX4_eastOf : List Cond := .code yX4_eastOf cX4_eastOf 1 (some .int) :: ([])
def wsX4_northOf : List Cond := .code yX4_northOf cX4_northOf 1 (some .int) :: ([])
def wsX4_square : List Cond := .code yX4_square cX4_square 2 (some .long) :: ([])
def wsX4_tried : List Cond := .code yX4_tried cX4_tried 27 (some .int) :: ([.fieldLink RX4 22 "TickWalksModel" "x" "I", .fieldLink RX4 26 "TickWalksModel" "y" "I", .constant RX4 9 (40000), .fieldLink RX4 14 "TickWalksModel" "tried" "[B", .methodLink RX4 89 yX4_eastOf, .static yX4_eastOf, .initialized RX4, .code yX4_eastOf cX4_eastOf 1 (some .int), .methodLink RX4 92 yX4_northOf, .static yX4_northOf, .code yX4_northOf cX4_northOf 1 (some .int)] ++ wsX40)
def wsX4_arc_r1 : List Cond := [Cond.fieldLink RX4 22 "TickWalksModel" "x" "I", Cond.fieldLink RX4 26 "TickWalksModel" "y" "I", Cond.constantLong RX4 84 (25000000), Cond.fieldLink RX4 10 "TickWalksModel" "way" "[B", Cond.fieldLink RX4 14 "TickWalksModel" "tried" "[B", Cond.methodLink RX4 95 Lib.MathLoose.max_long.x, Cond.static Lib.MathLoose.max_long.x, Cond.initialized "java/lang/Math", Cond.code Lib.MathLoose.max_long.x Lib.MathLoose.max_long.code 4 (some .long), Cond.fieldLink RX4 39 "TickWalksModel" "most" "I", Cond.methodLink RX4 18 yX4_isPlace, Cond.static yX4_isPlace, Cond.initialized RX4, Cond.code yX4_isPlace cX4_isPlace 1 (some .boolean), Cond.methodLink RX4 77 yX4_isCentre, Cond.static yX4_isCentre, Cond.code yX4_isCentre cX4_isCentre 1 (some .boolean), Cond.constant RX4 17 (-40000), Cond.constant RX4 9 (40000), Cond.methodLink RX4 80 yX4_square, Cond.static yX4_square, Cond.code yX4_square cX4_square 2 (some .long), Cond.methodLink RX4 86 yX4_tried, Cond.instanceMethod yX4_tried]
def wsX4_arc_r2 : List Cond := [Cond.selects RX4 yX4_tried yX4_tried, Cond.code yX4_tried cX4_tried 27 (some .int), Cond.methodLink RX4 89 yX4_eastOf, Cond.static yX4_eastOf, Cond.code yX4_eastOf cX4_eastOf 1 (some .int), Cond.methodLink RX4 92 yX4_northOf, Cond.static yX4_northOf, Cond.code yX4_northOf cX4_northOf 1 (some .int), Cond.methodLink RX4 73 yX4_begin, Cond.instanceMethod yX4_begin, Cond.selects RX4 yX4_begin yX4_begin, Cond.code yX4_begin cX4_begin 3 none, Cond.fieldLink RX4 32 "TickWalksModel" "walked" "Z", Cond.fieldLink RX4 42 "TickWalksModel" "isArc" "Z", Cond.fieldLink RX4 45 "TickWalksModel" "fromX" "I", Cond.fieldLink RX4 48 "TickWalksModel" "fromY" "I", Cond.fieldLink RX4 29 "TickWalksModel" "z" "I", Cond.fieldLink RX4 51 "TickWalksModel" "fromZ" "I", Cond.fieldLink RX4 36 "TickWalksModel" "count" "I"]
def wsX4_arc : List Cond := .code yX4_arc cX4_arc 14 (some .int) :: ((wsX4_arc_r1 ++ wsX4_arc_r2) ++ wsX40)
def wsX4_down : List Cond := .code yX4_down cX4_down 4 (some .int) :: ([])
def wsX4_partOf : List Cond := .code yX4_partOf cX4_partOf 3 (some .int) :: ([.fieldLink RX4 36 "TickWalksModel" "count" "I", .constantLong RX4 98 (2), .methodLink RX4 100 yX4_down, .static yX4_down, .initialized RX4, .code yX4_down cX4_down 4 (some .int)] ++ wsX40)
def wsX4_tick_r1 : List Cond := [Cond.fieldLink RX4 32 "TickWalksModel" "walked" "Z", Cond.fieldLink RX4 36 "TickWalksModel" "count" "I", Cond.fieldLink RX4 42 "TickWalksModel" "isArc" "Z", Cond.fieldLink RX4 45 "TickWalksModel" "fromX" "I", Cond.fieldLink RX4 54 "TickWalksModel" "byX" "I", Cond.fieldLink RX4 48 "TickWalksModel" "fromY" "I", Cond.fieldLink RX4 57 "TickWalksModel" "byY" "I", Cond.fieldLink RX4 51 "TickWalksModel" "fromZ" "I", Cond.fieldLink RX4 60 "TickWalksModel" "byZ" "I", Cond.fieldLink RX4 10 "TickWalksModel" "way" "[B", Cond.methodLink RX4 104 yX4_partOf, Cond.instanceMethod yX4_partOf, Cond.selects RX4 yX4_partOf yX4_partOf, Cond.initialized RX4, Cond.code yX4_partOf cX4_partOf 3 (some .int), Cond.constantLong RX4 98 (2), Cond.methodLink RX4 100 yX4_down, Cond.static yX4_down, Cond.code yX4_down cX4_down 4 (some .int), Cond.methodLink RX4 89 yX4_eastOf, Cond.static yX4_eastOf, Cond.code yX4_eastOf cX4_eastOf 1 (some .int), Cond.methodLink RX4 92 yX4_northOf, Cond.static yX4_northOf]
def wsX4_tick_r2 : List Cond := [Cond.code yX4_northOf cX4_northOf 1 (some .int)]
def wsX4_tick : List Cond := .code yX4_tick cX4_tick 5 (some .int) :: ((wsX4_tick_r1 ++ wsX4_tick_r2) ++ wsX40)
def wsX4_ticks : List Cond := .code yX4_ticks cX4_ticks 1 (some .int) :: ([.fieldLink RX4 36 "TickWalksModel" "count" "I"] ++ wsX40)
def wsX4_at : List Cond := .code yX4_at cX4_at 2 (some .int) :: ([.fieldLink RX4 22 "TickWalksModel" "x" "I", .fieldLink RX4 26 "TickWalksModel" "y" "I", .fieldLink RX4 29 "TickWalksModel" "z" "I"] ++ wsX40)
def wsX4_off : List Cond := .code yX4_off cX4_off 1 (some .int) :: ([.fieldLink RX4 39 "TickWalksModel" "most" "I"] ++ wsX40)
def wsX4_strays : List Cond := .code yX4_strays cX4_strays 6 (some .int) :: ([.fieldLink RX4 36 "TickWalksModel" "count" "I", .fieldLink RX4 42 "TickWalksModel" "isArc" "Z", .fieldLink RX4 54 "TickWalksModel" "byX" "I", .fieldLink RX4 57 "TickWalksModel" "byY" "I", .fieldLink RX4 60 "TickWalksModel" "byZ" "I", .methodLink RX4 104 yX4_partOf, .instanceMethod yX4_partOf, .selects RX4 yX4_partOf yX4_partOf, .initialized RX4, .code yX4_partOf cX4_partOf 3 (some .int), .constantLong RX4 98 (2), .methodLink RX4 100 yX4_down, .static yX4_down, .code yX4_down cX4_down 4 (some .int), .methodLink RX4 63 yX4_amount, .static yX4_amount, .code yX4_amount cX4_amount 1 (some .int)] ++ wsX40)
def wsJ9_abs_0f7a4 : List Cond := .code yJ9_abs_0f7a4 cJ9_abs_0f7a4 1 (some .int) :: ([])
def wsJ9_abs_067f4 : List Cond := .code yJ9_abs_067f4 cJ9_abs_067f4 2 (some .long) :: ([])
def wsJ9_max_7cf53 : List Cond := .code yJ9_max_7cf53 cJ9_max_7cf53 2 (some .int) :: ([])
def wsJ9_max_f86c9 : List Cond := .code yJ9_max_f86c9 cJ9_max_f86c9 4 (some .long) :: ([])
def wsL_law_r1 : List Cond := [Cond.classLink RL 7 RX3, Cond.instantiable RX3 5, Cond.initialized RX3, Cond.classLink RL 10 RX4, Cond.instantiable RX4 15, Cond.initialized RX4, Cond.methodLink RL 9 yX3_init, Cond.instanceMethod yX3_init, Cond.code yX3_init cX3_init 1 none, Cond.methodLink RX3 3 objectInit, Cond.instanceMethod objectInit, Cond.code objectInit ⟨#[0xb1]⟩ 1 none, Cond.arrayClass .int, Cond.fieldLink RX3 9 "TickWalks" "stand" "[I", Cond.classLink RX3 13 RX1, Cond.instantiable RX1 4, Cond.initialized RX1, Cond.fieldLink RX3 16 "TickWalks" "latestLine" "LTickWalks$Line;", Cond.classLink RX3 20 RX0, Cond.instantiable RX0 12, Cond.initialized RX0, Cond.fieldLink RX3 23 "TickWalks" "latestArc" "LTickWalks$Arc;", Cond.fieldLink RX3 27 "TickWalks" "triedArc" "LTickWalks$Arc;", Cond.fieldLink RX3 30 "TickWalks" "latest" "LTickWalks$Walk;"]
def wsL_law_r2 : List Cond := [Cond.instanceMethod yX1_init, Cond.code yX1_init cX1_init 1 none, Cond.fieldLink RX1 9 "TickWalks$Line" "from" "[I", Cond.fieldLink RX1 15 "TickWalks$Line" "by" "[I", Cond.fieldLink RX1 18 "TickWalks$Line" "length" "I", Cond.fieldLink RX1 22 "TickWalks$Line" "strays" "I", Cond.instanceMethod yX2_init, Cond.initialized RX2, Cond.code yX2_init cX2_init 1 none, Cond.methodLink RX2 1 objectInit, Cond.instanceMethod yX0_init, Cond.code yX0_init cX0_init 1 none, Cond.fieldLink RX0 9 "TickWalks$Arc" "markX" "[I", Cond.fieldLink RX0 15 "TickWalks$Arc" "markY" "[I", Cond.fieldLink RX0 18 "TickWalks$Arc" "height" "I", Cond.fieldLink RX0 22 "TickWalks$Arc" "centreX" "I", Cond.fieldLink RX0 25 "TickWalks$Arc" "centreY" "I", Cond.fieldLink RX0 28 "TickWalks$Arc" "left" "Z", Cond.fieldLink RX0 32 "TickWalks$Arc" "square" "J", Cond.fieldLink RX0 36 "TickWalks$Arc" "length" "I", Cond.fieldLink RX0 39 "TickWalks$Arc" "off" "I", Cond.fieldLink RX0 42 "TickWalks$Arc" "strays" "I", Cond.fieldLink RX0 45 "TickWalks$Arc" "footX" "I", Cond.fieldLink RX0 48 "TickWalks$Arc" "footY" "I"]
def wsL_law_r3 : List Cond := [Cond.methodLink RL 12 yX4_init, Cond.instanceMethod yX4_init, Cond.code yX4_init cX4_init 1 none, Cond.methodLink RX4 1 objectInit, Cond.constant RX4 9 (40000), Cond.arrayClass .byte, Cond.fieldLink RX4 10 "TickWalksModel" "way" "[B", Cond.fieldLink RX4 14 "TickWalksModel" "tried" "[B", Cond.methodLink RL 13 yX3_place, Cond.instanceMethod yX3_place, Cond.selects RX3 yX3_place yX3_place, Cond.code yX3_place cX3_place 4 (some .boolean), Cond.methodLink RX3 34 yX3_isPlace, Cond.static yX3_isPlace, Cond.code yX3_isPlace cX3_isPlace 3 (some .boolean), Cond.methodLink RX3 51 yX3_isWithin, Cond.static yX3_isWithin, Cond.code yX3_isWithin cX3_isWithin 2 (some .boolean), Cond.methodLink RX3 38 yX3_standAt, Cond.instanceMethod yX3_standAt, Cond.selects RX3 yX3_standAt yX3_standAt, Cond.code yX3_standAt cX3_standAt 4 none, Cond.methodLink RL 17 yX4_place, Cond.instanceMethod yX4_place]
def wsL_law_r4 : List Cond := [Cond.selects RX4 yX4_place yX4_place, Cond.code yX4_place cX4_place 4 (some .boolean), Cond.fieldLink RX4 22 "TickWalksModel" "x" "I", Cond.fieldLink RX4 26 "TickWalksModel" "y" "I", Cond.fieldLink RX4 29 "TickWalksModel" "z" "I", Cond.fieldLink RX4 32 "TickWalksModel" "walked" "Z", Cond.fieldLink RX4 36 "TickWalksModel" "count" "I", Cond.fieldLink RX4 39 "TickWalksModel" "most" "I", Cond.methodLink RX4 18 yX4_isPlace, Cond.static yX4_isPlace, Cond.code yX4_isPlace cX4_isPlace 1 (some .boolean), Cond.methodLink RL 18 yX3_line, Cond.instanceMethod yX3_line, Cond.selects RX3 yX3_line yX3_line, Cond.code yX3_line cX3_line 4 (some .int), Cond.methodLink RX3 42 yX1_walk, Cond.instanceMethod yX1_walk, Cond.selects RX1 yX1_walk yX1_walk, Cond.code yX1_walk cX1_walk 6 none, Cond.static yX3_greatestAmount, Cond.code yX3_greatestAmount cX3_greatestAmount 3 (some .int), Cond.methodLink RX3 79 Lib.Math.abs.name, Cond.static Lib.Math.abs.name, Cond.initialized "java/lang/Math"]
def wsL_law_r5 : List Cond := [Cond.code Lib.Math.abs.name Lib.Math.abs.code 1 (some .int), Cond.methodLink RX3 85 Lib.Math.max.name, Cond.static Lib.Math.max.name, Cond.code Lib.Math.max.name Lib.Math.max.code 2 (some .int), Cond.methodLink RX3 46 yX1_length, Cond.instanceMethod yX1_length, Cond.selects RX1 yX1_length yX1_length, Cond.code yX1_length cX1_length 1 (some .int), Cond.methodLink RL 22 yX4_line, Cond.instanceMethod yX4_line, Cond.selects RX4 yX4_line yX4_line, Cond.code yX4_line cX4_line 4 (some .int), Cond.fieldLink RX4 54 "TickWalksModel" "byX" "I", Cond.fieldLink RX4 57 "TickWalksModel" "byY" "I", Cond.fieldLink RX4 60 "TickWalksModel" "byZ" "I", Cond.methodLink RX4 67 Lib.Math.max.name, Cond.methodLink RX4 63 yX4_amount, Cond.static yX4_amount, Cond.code yX4_amount cX4_amount 1 (some .int), Cond.methodLink RX4 73 yX4_begin, Cond.instanceMethod yX4_begin, Cond.selects RX4 yX4_begin yX4_begin, Cond.code yX4_begin cX4_begin 3 none, Cond.fieldLink RX4 42 "TickWalksModel" "isArc" "Z"]
def wsL_law_r6 : List Cond := [Cond.fieldLink RX4 45 "TickWalksModel" "fromX" "I", Cond.fieldLink RX4 48 "TickWalksModel" "fromY" "I", Cond.fieldLink RX4 51 "TickWalksModel" "fromZ" "I", Cond.methodLink RL 23 yX3_arc, Cond.instanceMethod yX3_arc, Cond.selects RX3 yX3_arc yX3_arc, Cond.code yX3_arc cX3_arc 7 (some .int), Cond.constant RX3 50 (40000), Cond.methodLink RX3 55 yX0_begin, Cond.instanceMethod yX0_begin, Cond.selects RX0 yX0_begin yX0_begin, Cond.code yX0_begin cX0_begin 5 none, Cond.methodLink RX0 51 yX0_squareFromCentre, Cond.instanceMethod yX0_squareFromCentre, Cond.selects RX0 yX0_squareFromCentre yX0_squareFromCentre, Cond.code yX0_squareFromCentre cX0_squareFromCentre 5 (some .long), Cond.methodLink RX0 55 yX0_mark, Cond.instanceMethod yX0_mark, Cond.selects RX0 yX0_mark yX0_mark, Cond.code yX0_mark cX0_mark 3 none, Cond.methodLink RX3 59 yX0_walk, Cond.instanceMethod yX0_walk, Cond.selects RX0 yX0_walk yX0_walk, Cond.code yX0_walk cX0_walk 6 (some .boolean)]
def wsL_law_r7 : List Cond := [Cond.constantLong RX0 59 (25000000), Cond.constant RX0 61 (40000), Cond.methodLink RX0 62 yX0_step, Cond.instanceMethod yX0_step, Cond.selects RX0 yX0_step yX0_step, Cond.code yX0_step cX0_step 17 (some .boolean), Cond.methodLink RX0 73 Lib.MathLoose.abs_long.x, Cond.static Lib.MathLoose.abs_long.x, Cond.code Lib.MathLoose.abs_long.x Lib.MathLoose.abs_long.code 2 (some .long), Cond.methodLink RX0 66 yX0_measure, Cond.instanceMethod yX0_measure, Cond.selects RX0 yX0_measure yX0_measure, Cond.code yX0_measure cX0_measure 3 none, Cond.methodLink RX0 79 Lib.Math.max.name, Cond.static yX3_isStray, Cond.code yX3_isStray cX3_isStray 3 (some .boolean), Cond.methodLink RX3 88 yX3_greatestAmount, Cond.methodLink RX3 61 yX0_length, Cond.instanceMethod yX0_length, Cond.selects RX0 yX0_length yX0_length, Cond.code yX0_length cX0_length 1 (some .int), Cond.methodLink RL 27 yX4_arc, Cond.instanceMethod yX4_arc, Cond.selects RX4 yX4_arc yX4_arc]
def wsL_law_r8 : List Cond := [Cond.code yX4_arc cX4_arc 14 (some .int), Cond.constantLong RX4 84 (25000000), Cond.methodLink RX4 95 Lib.MathLoose.max_long.x, Cond.static Lib.MathLoose.max_long.x, Cond.code Lib.MathLoose.max_long.x Lib.MathLoose.max_long.code 4 (some .long), Cond.methodLink RX4 77 yX4_isCentre, Cond.static yX4_isCentre, Cond.code yX4_isCentre cX4_isCentre 1 (some .boolean), Cond.constant RX4 17 (-40000), Cond.methodLink RX4 80 yX4_square, Cond.static yX4_square, Cond.code yX4_square cX4_square 2 (some .long), Cond.methodLink RX4 86 yX4_tried, Cond.instanceMethod yX4_tried, Cond.selects RX4 yX4_tried yX4_tried, Cond.code yX4_tried cX4_tried 27 (some .int), Cond.methodLink RX4 89 yX4_eastOf, Cond.static yX4_eastOf, Cond.code yX4_eastOf cX4_eastOf 1 (some .int), Cond.methodLink RX4 92 yX4_northOf, Cond.static yX4_northOf, Cond.code yX4_northOf cX4_northOf 1 (some .int), Cond.methodLink RL 28 yX3_tick, Cond.instanceMethod yX3_tick]
def wsL_law_r9 : List Cond := [Cond.selects RX3 yX3_tick yX3_tick, Cond.code yX3_tick cX3_tick 3 (some .int), Cond.methodLink RX3 62 yX3_isAxis, Cond.static yX3_isAxis, Cond.code yX3_isAxis cX3_isAxis 1 (some .boolean), Cond.methodLink RX3 66 ⟨"TickWalks$Walk", "length", "()I"⟩, Cond.sameMethod "TickWalks$Walk" "TickWalks$Walk" "length" "()I", Cond.selects RX0 ⟨"TickWalks$Walk", "length", "()I"⟩ yX0_length, Cond.selects RX1 ⟨"TickWalks$Walk", "length", "()I"⟩ yX1_length, Cond.methodLink RX3 69 ⟨"TickWalks$Walk", "placeBehind", "(II)I"⟩, Cond.sameMethod "TickWalks$Walk" "TickWalks$Walk" "placeBehind" "(II)I", Cond.selects RX0 ⟨"TickWalks$Walk", "placeBehind", "(II)I"⟩ yX0_placeBehind, Cond.instanceMethod yX0_placeBehind, Cond.code yX0_placeBehind cX0_placeBehind 3 (some .int), Cond.methodLink RX0 70 yX0_seek, Cond.instanceMethod yX0_seek, Cond.selects RX0 yX0_seek yX0_seek, Cond.code yX0_seek cX0_seek 4 none, Cond.selects RX1 ⟨"TickWalks$Walk", "placeBehind", "(II)I"⟩ yX1_placeBehind, Cond.instanceMethod yX1_placeBehind, Cond.code yX1_placeBehind cX1_placeBehind 5 (some .int), Cond.constantLong RX1 29 (2), Cond.methodLink RX1 31 yJ9_floorDiv_f86c9, Cond.static yJ9_floorDiv_f86c9]
def wsL_law_r10 : List Cond := [Cond.initialized RJ9, Cond.code yJ9_floorDiv_f86c9 cJ9_floorDiv_f86c9 6 (some .long), Cond.methodLink RL 32 yX4_tick, Cond.instanceMethod yX4_tick, Cond.selects RX4 yX4_tick yX4_tick, Cond.code yX4_tick cX4_tick 5 (some .int), Cond.methodLink RX4 104 yX4_partOf, Cond.instanceMethod yX4_partOf, Cond.selects RX4 yX4_partOf yX4_partOf, Cond.code yX4_partOf cX4_partOf 3 (some .int), Cond.constantLong RX4 98 (2), Cond.methodLink RX4 100 yX4_down, Cond.static yX4_down, Cond.code yX4_down cX4_down 4 (some .int), Cond.methodLink RL 33 yX3_ticks, Cond.instanceMethod yX3_ticks, Cond.selects RX3 yX3_ticks yX3_ticks, Cond.code yX3_ticks cX3_ticks 1 (some .int), Cond.methodLink RL 37 yX4_ticks, Cond.instanceMethod yX4_ticks, Cond.selects RX4 yX4_ticks yX4_ticks, Cond.code yX4_ticks cX4_ticks 1 (some .int), Cond.methodLink RL 38 yX3_at, Cond.instanceMethod yX3_at]
def wsL_law_r11 : List Cond := [Cond.selects RX3 yX3_at yX3_at, Cond.code yX3_at cX3_at 2 (some .int), Cond.methodLink RL 42 yX4_at, Cond.instanceMethod yX4_at, Cond.selects RX4 yX4_at yX4_at, Cond.code yX4_at cX4_at 2 (some .int), Cond.methodLink RL 43 yX3_off, Cond.instanceMethod yX3_off, Cond.selects RX3 yX3_off yX3_off, Cond.code yX3_off cX3_off 1 (some .int), Cond.methodLink RX3 73 ⟨"TickWalks$Walk", "greatestOff", "()I"⟩, Cond.sameMethod "TickWalks$Walk" "TickWalks$Walk" "greatestOff" "()I", Cond.selects RX0 ⟨"TickWalks$Walk", "greatestOff", "()I"⟩ yX0_greatestOff, Cond.instanceMethod yX0_greatestOff, Cond.code yX0_greatestOff cX0_greatestOff 1 (some .int), Cond.selects RX1 ⟨"TickWalks$Walk", "greatestOff", "()I"⟩ yX1_greatestOff, Cond.instanceMethod yX1_greatestOff, Cond.code yX1_greatestOff cX1_greatestOff 1 (some .int), Cond.methodLink RL 46 yX4_off, Cond.instanceMethod yX4_off, Cond.selects RX4 yX4_off yX4_off, Cond.code yX4_off cX4_off 1 (some .int), Cond.methodLink RL 47 yX3_strays, Cond.instanceMethod yX3_strays]
def wsL_law_r12 : List Cond := [Cond.selects RX3 yX3_strays yX3_strays, Cond.code yX3_strays cX3_strays 1 (some .int), Cond.methodLink RX3 76 ⟨"TickWalks$Walk", "strayTicks", "()I"⟩, Cond.sameMethod "TickWalks$Walk" "TickWalks$Walk" "strayTicks" "()I", Cond.selects RX0 ⟨"TickWalks$Walk", "strayTicks", "()I"⟩ yX0_strayTicks, Cond.instanceMethod yX0_strayTicks, Cond.code yX0_strayTicks cX0_strayTicks 1 (some .int), Cond.selects RX1 ⟨"TickWalks$Walk", "strayTicks", "()I"⟩ yX1_strayTicks, Cond.instanceMethod yX1_strayTicks, Cond.code yX1_strayTicks cX1_strayTicks 1 (some .int), Cond.methodLink RX1 37 yX1_countStrays, Cond.instanceMethod yX1_countStrays, Cond.selects RX1 yX1_countStrays yX1_countStrays, Cond.code yX1_countStrays cX1_countStrays 9 (some .int), Cond.methodLink RX1 41 yX1_placeBehind, Cond.selects RX1 yX1_placeBehind yX1_placeBehind, Cond.methodLink RL 50 yX4_strays, Cond.instanceMethod yX4_strays, Cond.selects RX4 yX4_strays yX4_strays, Cond.code yX4_strays cX4_strays 6 (some .int)]
def wsL_law : List Cond := (wsL_law_r1 ++ (wsL_law_r2 ++ (wsL_law_r3 ++ (wsL_law_r4 ++ (wsL_law_r5 ++ (wsL_law_r6 ++ (wsL_law_r7 ++ (wsL_law_r8 ++ (wsL_law_r9 ++ (wsL_law_r10 ++ (wsL_law_r11 ++ wsL_law_r12))))))))))) ++ wsX30 ++ wsX40 ++ wsX10 ++ wsX00 ++ ([] : List Cond)
set_option maxRecDepth 20000 in
theorem wsL_law_in : ∀ w ∈ wsL_law, w ∈ lw_tbl := fun w h => (goodIn_p wsL_law [21, 24, 29, 32, 52, 262, 110, 113, 116, 120, 315, 318, 124, 128, 131, 134, 137, 141, 322, 325, 330, 145, 150, 154, 158, 162, 168, 175, 179, 183, 188, 334, 355, 337, 341, 346, 349, 352, 192, 195, 206, 210, 213, 217, 359, 363, 367, 221, 371, 225, 375, 229, 235, 238, 379, 242, 248, 251, 255, 383] (by decide +kernel) (by decide +kernel) w h).1
theorem inlX0 : ∀ w ∈ wsX00, w ∈ wsL_law := fun _ h => List.mem_append_left _ (List.mem_append_right _ h)
theorem inX0 : ∀ w ∈ wsX00, w ∈ lw_tbl := fun w h => wsL_law_in w (inlX0 w h)
theorem inlX1 : ∀ w ∈ wsX10, w ∈ wsL_law := fun _ h => List.mem_append_left _ (List.mem_append_left _ (List.mem_append_right _ h))
theorem inX1 : ∀ w ∈ wsX10, w ∈ lw_tbl := fun w h => wsL_law_in w (inlX1 w h)
theorem inX2 : ∀ w ∈ wsX20, w ∈ lw_tbl := by decide +kernel
theorem inlX3 : ∀ w ∈ wsX30, w ∈ wsL_law := fun _ h => List.mem_append_left _ (List.mem_append_left _ (List.mem_append_left _ (List.mem_append_left _ (List.mem_append_right _ h))))
theorem inX3 : ∀ w ∈ wsX30, w ∈ lw_tbl := fun w h => wsL_law_in w (inlX3 w h)
theorem inlX4 : ∀ w ∈ wsX40, w ∈ wsL_law := fun _ h => List.mem_append_left _ (List.mem_append_left _ (List.mem_append_left _ (List.mem_append_right _ h)))
theorem inX4 : ∀ w ∈ wsX40, w ∈ lw_tbl := fun w h => wsL_law_in w (inlX4 w h)
theorem inJ9 : ∀ w ∈ wsJ90, w ∈ lw_tbl := by decide +kernel
set_option maxRecDepth 20000 in
theorem ggX0_init_X2_init : GoodIn wsX0_init wsX2_init := goodIn_r _ [16, 17, 18, 19] (by decide +kernel) (by decide +kernel)
set_option maxRecDepth 20000 in
theorem gX0_init_X2_init_n3 : GoodIn wsX0_init (wsX2_init) := ggX0_init_X2_init
end
section
theorem dX0_init_0 : decode cX0_init 0 = .ok (.aload_n 0, 1) := by decide +kernel
theorem dX0_init_1 : decode cX0_init 1 = .ok (.invokespecial 3, 3) := by decide +kernel
theorem dX0_init_4 : decode cX0_init 4 = .ok (.aload_n 0, 1) := by decide +kernel
theorem dX0_init_5 : decode cX0_init 5 = .ok (.sipush 401, 3) := by decide +kernel
theorem dX0_init_8 : decode cX0_init 8 = .ok (.newarray .int, 2) := by decide +kernel
theorem dX0_init_10 : decode cX0_init 10 = .ok (.putfield 9, 3) := by decide +kernel
theorem dX0_init_13 : decode cX0_init 13 = .ok (.aload_n 0, 1) := by decide +kernel
theorem dX0_init_14 : decode cX0_init 14 = .ok (.sipush 401, 3) := by decide +kernel
theorem dX0_init_17 : decode cX0_init 17 = .ok (.newarray .int, 2) := by decide +kernel
theorem dX0_init_19 : decode cX0_init 19 = .ok (.putfield 15, 3) := by decide +kernel
theorem dX0_init_22 : decode cX0_init 22 = .ok (.aload_n 0, 1) := by decide +kernel
theorem dX0_init_23 : decode cX0_init 23 = .ok (.iconst 0, 1) := by decide +kernel
theorem dX0_init_24 : decode cX0_init 24 = .ok (.putfield 18, 3) := by decide +kernel
theorem dX0_init_27 : decode cX0_init 27 = .ok (.aload_n 0, 1) := by decide +kernel
theorem dX0_init_28 : decode cX0_init 28 = .ok (.iconst 0, 1) := by decide +kernel
theorem dX0_init_29 : decode cX0_init 29 = .ok (.putfield 22, 3) := by decide +kernel
theorem dX0_init_32 : decode cX0_init 32 = .ok (.aload_n 0, 1) := by decide +kernel
theorem dX0_init_33 : decode cX0_init 33 = .ok (.iconst 0, 1) := by decide +kernel
theorem dX0_init_34 : decode cX0_init 34 = .ok (.putfield 25, 3) := by decide +kernel
theorem dX0_init_37 : decode cX0_init 37 = .ok (.aload_n 0, 1) := by decide +kernel
theorem dX0_init_38 : decode cX0_init 38 = .ok (.iconst 0, 1) := by decide +kernel
theorem dX0_init_39 : decode cX0_init 39 = .ok (.putfield 28, 3) := by decide +kernel
theorem dX0_init_42 : decode cX0_init 42 = .ok (.aload_n 0, 1) := by decide +kernel
theorem dX0_init_43 : decode cX0_init 43 = .ok (.lconst 0, 1) := by decide +kernel
theorem dX0_init_44 : decode cX0_init 44 = .ok (.putfield 32, 3) := by decide +kernel
theorem dX0_init_47 : decode cX0_init 47 = .ok (.aload_n 0, 1) := by decide +kernel
theorem dX0_init_48 : decode cX0_init 48 = .ok (.iconst 0, 1) := by decide +kernel
theorem dX0_init_49 : decode cX0_init 49 = .ok (.putfield 36, 3) := by decide +kernel
theorem dX0_init_52 : decode cX0_init 52 = .ok (.aload_n 0, 1) := by decide +kernel
theorem dX0_init_53 : decode cX0_init 53 = .ok (.iconst 0, 1) := by decide +kernel
theorem dX0_init_54 : decode cX0_init 54 = .ok (.putfield 39, 3) := by decide +kernel
theorem dX0_init_57 : decode cX0_init 57 = .ok (.aload_n 0, 1) := by decide +kernel
theorem dX0_init_58 : decode cX0_init 58 = .ok (.iconst 0, 1) := by decide +kernel
theorem dX0_init_59 : decode cX0_init 59 = .ok (.putfield 42, 3) := by decide +kernel
theorem dX0_init_62 : decode cX0_init 62 = .ok (.aload_n 0, 1) := by decide +kernel
theorem dX0_init_63 : decode cX0_init 63 = .ok (.iconst 0, 1) := by decide +kernel
theorem dX0_init_64 : decode cX0_init 64 = .ok (.putfield 45, 3) := by decide +kernel
theorem dX0_init_67 : decode cX0_init 67 = .ok (.aload_n 0, 1) := by decide +kernel
theorem dX0_init_68 : decode cX0_init 68 = .ok (.iconst 0, 1) := by decide +kernel
theorem dX0_init_69 : decode cX0_init 69 = .ok (.putfield 48, 3) := by decide +kernel
theorem dX0_init_72 : decode cX0_init 72 = .ok (.return_, 1) := by decide +kernel
set_option maxRecDepth 20000 in
theorem ggX0_begin_X0_squareFromCentre : GoodIn wsX0_begin wsX0_squareFromCentre := goodIn_r _ [15, 1, 4, 2, 5, 22, 23, 24, 25, 26, 27, 28, 29, 30, 31, 32, 33] (by decide +kernel) (by decide +kernel)
set_option maxRecDepth 20000 in
theorem gX0_begin_X0_squareFromCentre : GoodIn wsX0_begin (wsV RX0 51 RX0 yX0_squareFromCentre wsX0_squareFromCentre) := goodIn_app (goodIn_of _ (by decide +kernel)) ggX0_begin_X0_squareFromCentre
set_option maxRecDepth 20000 in
theorem ggX0_begin_X0_mark : GoodIn wsX0_begin wsX0_mark := goodIn_r _ [19, 20, 1, 21, 2, 22, 23, 24, 25, 26, 27, 28, 29, 30, 31, 32, 33] (by decide +kernel) (by decide +kernel)
set_option maxRecDepth 20000 in
theorem gX0_begin_X0_mark : GoodIn wsX0_begin (wsV RX0 55 RX0 yX0_mark wsX0_mark) := goodIn_app (goodIn_of _ (by decide +kernel)) ggX0_begin_X0_mark
theorem dX0_begin_0 : decode cX0_begin 0 = .ok (.aload_n 0, 1) := by decide +kernel
theorem dX0_begin_1 : decode cX0_begin 1 = .ok (.aload_n 1, 1) := by decide +kernel
theorem dX0_begin_2 : decode cX0_begin 2 = .ok (.iconst 0, 1) := by decide +kernel
theorem dX0_begin_3 : decode cX0_begin 3 = .ok (.iaload, 1) := by decide +kernel
theorem dX0_begin_4 : decode cX0_begin 4 = .ok (.putfield 45, 3) := by decide +kernel
theorem dX0_begin_7 : decode cX0_begin 7 = .ok (.aload_n 0, 1) := by decide +kernel
theorem dX0_begin_8 : decode cX0_begin 8 = .ok (.aload_n 1, 1) := by decide +kernel
theorem dX0_begin_9 : decode cX0_begin 9 = .ok (.iconst 1, 1) := by decide +kernel
theorem dX0_begin_10 : decode cX0_begin 10 = .ok (.iaload, 1) := by decide +kernel
theorem dX0_begin_11 : decode cX0_begin 11 = .ok (.putfield 48, 3) := by decide +kernel
theorem dX0_begin_14 : decode cX0_begin 14 = .ok (.aload_n 0, 1) := by decide +kernel
theorem dX0_begin_15 : decode cX0_begin 15 = .ok (.aload_n 1, 1) := by decide +kernel
theorem dX0_begin_16 : decode cX0_begin 16 = .ok (.iconst 2, 1) := by decide +kernel
theorem dX0_begin_17 : decode cX0_begin 17 = .ok (.iaload, 1) := by decide +kernel
theorem dX0_begin_18 : decode cX0_begin 18 = .ok (.putfield 18, 3) := by decide +kernel
theorem dX0_begin_21 : decode cX0_begin 21 = .ok (.aload_n 0, 1) := by decide +kernel
theorem dX0_begin_22 : decode cX0_begin 22 = .ok (.iload_n 2, 1) := by decide +kernel
theorem dX0_begin_23 : decode cX0_begin 23 = .ok (.putfield 22, 3) := by decide +kernel
theorem dX0_begin_26 : decode cX0_begin 26 = .ok (.aload_n 0, 1) := by decide +kernel
theorem dX0_begin_27 : decode cX0_begin 27 = .ok (.iload_n 3, 1) := by decide +kernel
theorem dX0_begin_28 : decode cX0_begin 28 = .ok (.putfield 25, 3) := by decide +kernel
theorem dX0_begin_31 : decode cX0_begin 31 = .ok (.aload_n 0, 1) := by decide +kernel
theorem dX0_begin_32 : decode cX0_begin 32 = .ok (.iload 4, 2) := by decide +kernel
theorem dX0_begin_34 : decode cX0_begin 34 = .ok (.putfield 28, 3) := by decide +kernel
theorem dX0_begin_37 : decode cX0_begin 37 = .ok (.aload_n 0, 1) := by decide +kernel
theorem dX0_begin_38 : decode cX0_begin 38 = .ok (.aload_n 0, 1) := by decide +kernel
theorem dX0_begin_39 : decode cX0_begin 39 = .ok (.invokevirtual 51, 3) := by decide +kernel
theorem dX0_begin_42 : decode cX0_begin 42 = .ok (.putfield 32, 3) := by decide +kernel
theorem dX0_begin_45 : decode cX0_begin 45 = .ok (.aload_n 0, 1) := by decide +kernel
theorem dX0_begin_46 : decode cX0_begin 46 = .ok (.iconst 0, 1) := by decide +kernel
theorem dX0_begin_47 : decode cX0_begin 47 = .ok (.putfield 36, 3) := by decide +kernel
theorem dX0_begin_50 : decode cX0_begin 50 = .ok (.aload_n 0, 1) := by decide +kernel
theorem dX0_begin_51 : decode cX0_begin 51 = .ok (.iconst 0, 1) := by decide +kernel
theorem dX0_begin_52 : decode cX0_begin 52 = .ok (.putfield 39, 3) := by decide +kernel
theorem dX0_begin_55 : decode cX0_begin 55 = .ok (.aload_n 0, 1) := by decide +kernel
theorem dX0_begin_56 : decode cX0_begin 56 = .ok (.iconst 0, 1) := by decide +kernel
theorem dX0_begin_57 : decode cX0_begin 57 = .ok (.putfield 42, 3) := by decide +kernel
theorem dX0_begin_60 : decode cX0_begin 60 = .ok (.aload_n 0, 1) := by decide +kernel
theorem dX0_begin_61 : decode cX0_begin 61 = .ok (.iconst 0, 1) := by decide +kernel
theorem dX0_begin_62 : decode cX0_begin 62 = .ok (.invokevirtual 55, 3) := by decide +kernel
theorem dX0_begin_65 : decode cX0_begin 65 = .ok (.return_, 1) := by decide +kernel
set_option maxRecDepth 20000 in
theorem ggX0_walk_X0_step : GoodIn wsX0_walk wsX0_step := goodIn_r _ [13, 4, 14, 5, 15, 16, 1, 17, 18, 19, 20, 48, 49, 50, 51, 52, 53, 54, 55, 56, 57, 58, 59] (by decide +kernel) (by decide +kernel)
set_option maxRecDepth 20000 in
theorem gX0_walk_X0_step : GoodIn wsX0_walk (wsV RX0 62 RX0 yX0_step wsX0_step) := goodIn_app (goodIn_of _ (by decide +kernel)) ggX0_walk_X0_step
set_option maxRecDepth 20000 in
theorem ggX0_walk_X0_mark : GoodIn wsX0_walk wsX0_mark := goodIn_r _ [24, 7, 4, 8, 5, 48, 49, 50, 51, 52, 53, 54, 55, 56, 57, 58, 59] (by decide +kernel) (by decide +kernel)
set_option maxRecDepth 20000 in
theorem gX0_walk_X0_mark : GoodIn wsX0_walk (wsV RX0 55 RX0 yX0_mark wsX0_mark) := goodIn_app (goodIn_of _ (by decide +kernel)) ggX0_walk_X0_mark
set_option maxRecDepth 20000 in
theorem ggX0_walk_X0_measure : GoodIn wsX0_walk wsX0_measure := goodIn_r _ [28, 29, 1, 17, 18, 19, 20, 30, 31, 32, 33, 34, 35, 36, 12, 37, 4, 14, 5, 15, 38, 39, 40, 41, 42, 43, 44, 45, 46, 47, 48, 49, 50, 51, 52, 53, 54, 55, 56, 57, 58, 59] (by decide +kernel) (by decide +kernel)
set_option maxRecDepth 20000 in
theorem gX0_walk_X0_measure : GoodIn wsX0_walk (wsV RX0 66 RX0 yX0_measure wsX0_measure) := goodIn_app (goodIn_of _ (by decide +kernel)) ggX0_walk_X0_measure
theorem dX0_walk_0 : decode cX0_walk 0 = .ok (.aload_n 0, 1) := by decide +kernel
theorem dX0_walk_1 : decode cX0_walk 1 = .ok (.getfield 32, 3) := by decide +kernel
theorem dX0_walk_4 : decode cX0_walk 4 = .ok (.lconst 1, 1) := by decide +kernel
theorem dX0_walk_5 : decode cX0_walk 5 = .ok (.lcmp, 1) := by decide +kernel
theorem dX0_walk_6 : decode cX0_walk 6 = .ok (.ifCond .lt 14, 3) := by decide +kernel
theorem dX0_walk_9 : decode cX0_walk 9 = .ok (.aload_n 0, 1) := by decide +kernel
theorem dX0_walk_10 : decode cX0_walk 10 = .ok (.getfield 32, 3) := by decide +kernel
theorem dX0_walk_13 : decode cX0_walk 13 = .ok (.ldc2_w 59, 3) := by decide +kernel
theorem dX0_walk_16 : decode cX0_walk 16 = .ok (.lcmp, 1) := by decide +kernel
theorem dX0_walk_17 : decode cX0_walk 17 = .ok (.ifCond .le 5, 3) := by decide +kernel
theorem dX0_walk_20 : decode cX0_walk 20 = .ok (.iconst 0, 1) := by decide +kernel
theorem dX0_walk_21 : decode cX0_walk 21 = .ok (.ireturn, 1) := by decide +kernel
theorem dX0_walk_22 : decode cX0_walk 22 = .ok (.iconst 1, 1) := by decide +kernel
theorem dX0_walk_23 : decode cX0_walk 23 = .ok (.istore_n 3, 1) := by decide +kernel
theorem dX0_walk_24 : decode cX0_walk 24 = .ok (.iload_n 3, 1) := by decide +kernel
theorem dX0_walk_25 : decode cX0_walk 25 = .ok (.ldc 61, 2) := by decide +kernel
theorem dX0_walk_27 : decode cX0_walk 27 = .ok (.if_icmp .gt 104, 3) := by decide +kernel
theorem dX0_walk_30 : decode cX0_walk 30 = .ok (.aload_n 0, 1) := by decide +kernel
theorem dX0_walk_31 : decode cX0_walk 31 = .ok (.getfield 45, 3) := by decide +kernel
theorem dX0_walk_34 : decode cX0_walk 34 = .ok (.istore 4, 2) := by decide +kernel
theorem dX0_walk_36 : decode cX0_walk 36 = .ok (.aload_n 0, 1) := by decide +kernel
theorem dX0_walk_37 : decode cX0_walk 37 = .ok (.getfield 48, 3) := by decide +kernel
theorem dX0_walk_40 : decode cX0_walk 40 = .ok (.istore 5, 2) := by decide +kernel
theorem dX0_walk_42 : decode cX0_walk 42 = .ok (.aload_n 0, 1) := by decide +kernel
theorem dX0_walk_43 : decode cX0_walk 43 = .ok (.invokevirtual 62, 3) := by decide +kernel
theorem dX0_walk_46 : decode cX0_walk 46 = .ok (.ifCond .ne 5, 3) := by decide +kernel
theorem dX0_walk_49 : decode cX0_walk 49 = .ok (.iconst 0, 1) := by decide +kernel
theorem dX0_walk_50 : decode cX0_walk 50 = .ok (.ireturn, 1) := by decide +kernel
theorem dX0_walk_51 : decode cX0_walk 51 = .ok (.aload_n 0, 1) := by decide +kernel
theorem dX0_walk_52 : decode cX0_walk 52 = .ok (.iload_n 3, 1) := by decide +kernel
theorem dX0_walk_53 : decode cX0_walk 53 = .ok (.invokevirtual 55, 3) := by decide +kernel
theorem dX0_walk_56 : decode cX0_walk 56 = .ok (.aload_n 0, 1) := by decide +kernel
theorem dX0_walk_57 : decode cX0_walk 57 = .ok (.aload_n 0, 1) := by decide +kernel
theorem dX0_walk_58 : decode cX0_walk 58 = .ok (.getfield 45, 3) := by decide +kernel
theorem dX0_walk_61 : decode cX0_walk 61 = .ok (.iload 4, 2) := by decide +kernel
theorem dX0_walk_63 : decode cX0_walk 63 = .ok (.isub, 1) := by decide +kernel
theorem dX0_walk_64 : decode cX0_walk 64 = .ok (.aload_n 0, 1) := by decide +kernel
theorem dX0_walk_65 : decode cX0_walk 65 = .ok (.getfield 48, 3) := by decide +kernel
theorem dX0_walk_68 : decode cX0_walk 68 = .ok (.iload 5, 2) := by decide +kernel
theorem dX0_walk_70 : decode cX0_walk 70 = .ok (.isub, 1) := by decide +kernel
theorem dX0_walk_71 : decode cX0_walk 71 = .ok (.invokevirtual 66, 3) := by decide +kernel
theorem dX0_walk_74 : decode cX0_walk 74 = .ok (.aload_n 0, 1) := by decide +kernel
theorem dX0_walk_75 : decode cX0_walk 75 = .ok (.getfield 45, 3) := by decide +kernel
theorem dX0_walk_78 : decode cX0_walk 78 = .ok (.iload_n 1, 1) := by decide +kernel
theorem dX0_walk_79 : decode cX0_walk 79 = .ok (.if_icmp .ne 18, 3) := by decide +kernel
theorem dX0_walk_82 : decode cX0_walk 82 = .ok (.aload_n 0, 1) := by decide +kernel
theorem dX0_walk_83 : decode cX0_walk 83 = .ok (.getfield 48, 3) := by decide +kernel
theorem dX0_walk_86 : decode cX0_walk 86 = .ok (.iload_n 2, 1) := by decide +kernel
theorem dX0_walk_87 : decode cX0_walk 87 = .ok (.if_icmp .ne 10, 3) := by decide +kernel
theorem dX0_walk_90 : decode cX0_walk 90 = .ok (.aload_n 0, 1) := by decide +kernel
theorem dX0_walk_91 : decode cX0_walk 91 = .ok (.iload_n 3, 1) := by decide +kernel
theorem dX0_walk_92 : decode cX0_walk 92 = .ok (.putfield 36, 3) := by decide +kernel
theorem dX0_walk_95 : decode cX0_walk 95 = .ok (.iconst 1, 1) := by decide +kernel
theorem dX0_walk_96 : decode cX0_walk 96 = .ok (.ireturn, 1) := by decide +kernel
theorem dX0_walk_97 : decode cX0_walk 97 = .ok (.aload_n 0, 1) := by decide +kernel
theorem dX0_walk_98 : decode cX0_walk 98 = .ok (.getfield 45, 3) := by decide +kernel
theorem dX0_walk_101 : decode cX0_walk 101 = .ok (.aload_n 0, 1) := by decide +kernel
theorem dX0_walk_102 : decode cX0_walk 102 = .ok (.getfield 9, 3) := by decide +kernel
theorem dX0_walk_105 : decode cX0_walk 105 = .ok (.iconst 0, 1) := by decide +kernel
theorem dX0_walk_106 : decode cX0_walk 106 = .ok (.iaload, 1) := by decide +kernel
theorem dX0_walk_107 : decode cX0_walk 107 = .ok (.if_icmp .ne 18, 3) := by decide +kernel
theorem dX0_walk_110 : decode cX0_walk 110 = .ok (.aload_n 0, 1) := by decide +kernel
theorem dX0_walk_111 : decode cX0_walk 111 = .ok (.getfield 48, 3) := by decide +kernel
theorem dX0_walk_114 : decode cX0_walk 114 = .ok (.aload_n 0, 1) := by decide +kernel
theorem dX0_walk_115 : decode cX0_walk 115 = .ok (.getfield 15, 3) := by decide +kernel
theorem dX0_walk_118 : decode cX0_walk 118 = .ok (.iconst 0, 1) := by decide +kernel
theorem dX0_walk_119 : decode cX0_walk 119 = .ok (.iaload, 1) := by decide +kernel
theorem dX0_walk_120 : decode cX0_walk 120 = .ok (.if_icmp .ne 5, 3) := by decide +kernel
theorem dX0_walk_123 : decode cX0_walk 123 = .ok (.iconst 0, 1) := by decide +kernel
theorem dX0_walk_124 : decode cX0_walk 124 = .ok (.ireturn, 1) := by decide +kernel
theorem dX0_walk_125 : decode cX0_walk 125 = .ok (.iinc 3 1, 3) := by decide +kernel
theorem dX0_walk_128 : decode cX0_walk 128 = .ok (.goto (-104), 3) := by decide +kernel
theorem dX0_walk_131 : decode cX0_walk 131 = .ok (.iconst 0, 1) := by decide +kernel
theorem dX0_walk_132 : decode cX0_walk 132 = .ok (.ireturn, 1) := by decide +kernel
theorem dX0_length_0 : decode cX0_length 0 = .ok (.aload_n 0, 1) := by decide +kernel
theorem dX0_length_1 : decode cX0_length 1 = .ok (.getfield 36, 3) := by decide +kernel
theorem dX0_length_4 : decode cX0_length 4 = .ok (.ireturn, 1) := by decide +kernel
set_option maxRecDepth 20000 in
theorem ggX0_placeBehind_X0_seek : GoodIn wsX0_placeBehind wsX0_seek := goodIn_r _ [8, 9, 2, 10, 3, 11, 12, 13, 7, 14, 15, 16, 17, 18, 19, 20, 21, 22, 23, 24, 25, 26, 27, 28, 29, 30, 31, 32, 33, 34] (by decide +kernel) (by decide +kernel)
set_option maxRecDepth 20000 in
theorem gX0_placeBehind_X0_seek : GoodIn wsX0_placeBehind (wsV RX0 70 RX0 yX0_seek wsX0_seek) := goodIn_app (goodIn_of _ (by decide +kernel)) ggX0_placeBehind_X0_seek
theorem dX0_placeBehind_0 : decode cX0_placeBehind 0 = .ok (.iload_n 2, 1) := by decide +kernel
theorem dX0_placeBehind_1 : decode cX0_placeBehind 1 = .ok (.iconst 2, 1) := by decide +kernel
theorem dX0_placeBehind_2 : decode cX0_placeBehind 2 = .ok (.if_icmp .ne 8, 3) := by decide +kernel
theorem dX0_placeBehind_5 : decode cX0_placeBehind 5 = .ok (.aload_n 0, 1) := by decide +kernel
theorem dX0_placeBehind_6 : decode cX0_placeBehind 6 = .ok (.getfield 18, 3) := by decide +kernel
theorem dX0_placeBehind_9 : decode cX0_placeBehind 9 = .ok (.ireturn, 1) := by decide +kernel
theorem dX0_placeBehind_10 : decode cX0_placeBehind 10 = .ok (.aload_n 0, 1) := by decide +kernel
theorem dX0_placeBehind_11 : decode cX0_placeBehind 11 = .ok (.iload_n 1, 1) := by decide +kernel
theorem dX0_placeBehind_12 : decode cX0_placeBehind 12 = .ok (.invokevirtual 70, 3) := by decide +kernel
theorem dX0_placeBehind_15 : decode cX0_placeBehind 15 = .ok (.iload_n 2, 1) := by decide +kernel
theorem dX0_placeBehind_16 : decode cX0_placeBehind 16 = .ok (.ifCond .ne 10, 3) := by decide +kernel
theorem dX0_placeBehind_19 : decode cX0_placeBehind 19 = .ok (.aload_n 0, 1) := by decide +kernel
theorem dX0_placeBehind_20 : decode cX0_placeBehind 20 = .ok (.getfield 45, 3) := by decide +kernel
theorem dX0_placeBehind_23 : decode cX0_placeBehind 23 = .ok (.goto 7, 3) := by decide +kernel
theorem dX0_placeBehind_26 : decode cX0_placeBehind 26 = .ok (.aload_n 0, 1) := by decide +kernel
theorem dX0_placeBehind_27 : decode cX0_placeBehind 27 = .ok (.getfield 48, 3) := by decide +kernel
theorem dX0_placeBehind_30 : decode cX0_placeBehind 30 = .ok (.ireturn, 1) := by decide +kernel
theorem dX0_greatestOff_0 : decode cX0_greatestOff 0 = .ok (.aload_n 0, 1) := by decide +kernel
theorem dX0_greatestOff_1 : decode cX0_greatestOff 1 = .ok (.getfield 39, 3) := by decide +kernel
theorem dX0_greatestOff_4 : decode cX0_greatestOff 4 = .ok (.ireturn, 1) := by decide +kernel
theorem dX0_strayTicks_0 : decode cX0_strayTicks 0 = .ok (.aload_n 0, 1) := by decide +kernel
theorem dX0_strayTicks_1 : decode cX0_strayTicks 1 = .ok (.getfield 42, 3) := by decide +kernel
theorem dX0_strayTicks_4 : decode cX0_strayTicks 4 = .ok (.ireturn, 1) := by decide +kernel
theorem dX0_mark_0 : decode cX0_mark 0 = .ok (.iload_n 1, 1) := by decide +kernel
theorem dX0_mark_1 : decode cX0_mark 1 = .ok (.bipush 100, 2) := by decide +kernel
theorem dX0_mark_3 : decode cX0_mark 3 = .ok (.idiv, 1) := by decide +kernel
theorem dX0_mark_4 : decode cX0_mark 4 = .ok (.istore_n 2, 1) := by decide +kernel
theorem dX0_mark_5 : decode cX0_mark 5 = .ok (.iload_n 1, 1) := by decide +kernel
theorem dX0_mark_6 : decode cX0_mark 6 = .ok (.bipush 100, 2) := by decide +kernel
theorem dX0_mark_8 : decode cX0_mark 8 = .ok (.irem, 1) := by decide +kernel
theorem dX0_mark_9 : decode cX0_mark 9 = .ok (.ifCond .ne 34, 3) := by decide +kernel
theorem dX0_mark_12 : decode cX0_mark 12 = .ok (.iload_n 2, 1) := by decide +kernel
theorem dX0_mark_13 : decode cX0_mark 13 = .ok (.ifCond .lt 30, 3) := by decide +kernel
theorem dX0_mark_16 : decode cX0_mark 16 = .ok (.iload_n 2, 1) := by decide +kernel
theorem dX0_mark_17 : decode cX0_mark 17 = .ok (.sipush 401, 3) := by decide +kernel
theorem dX0_mark_20 : decode cX0_mark 20 = .ok (.if_icmp .ge 23, 3) := by decide +kernel
theorem dX0_mark_23 : decode cX0_mark 23 = .ok (.aload_n 0, 1) := by decide +kernel
theorem dX0_mark_24 : decode cX0_mark 24 = .ok (.getfield 9, 3) := by decide +kernel
theorem dX0_mark_27 : decode cX0_mark 27 = .ok (.iload_n 2, 1) := by decide +kernel
theorem dX0_mark_28 : decode cX0_mark 28 = .ok (.aload_n 0, 1) := by decide +kernel
theorem dX0_mark_29 : decode cX0_mark 29 = .ok (.getfield 45, 3) := by decide +kernel
theorem dX0_mark_32 : decode cX0_mark 32 = .ok (.iastore, 1) := by decide +kernel
theorem dX0_mark_33 : decode cX0_mark 33 = .ok (.aload_n 0, 1) := by decide +kernel
theorem dX0_mark_34 : decode cX0_mark 34 = .ok (.getfield 15, 3) := by decide +kernel
theorem dX0_mark_37 : decode cX0_mark 37 = .ok (.iload_n 2, 1) := by decide +kernel
theorem dX0_mark_38 : decode cX0_mark 38 = .ok (.aload_n 0, 1) := by decide +kernel
theorem dX0_mark_39 : decode cX0_mark 39 = .ok (.getfield 48, 3) := by decide +kernel
theorem dX0_mark_42 : decode cX0_mark 42 = .ok (.iastore, 1) := by decide +kernel
theorem dX0_mark_43 : decode cX0_mark 43 = .ok (.return_, 1) := by decide +kernel
set_option maxRecDepth 20000 in
theorem ggX0_seek_X0_step : GoodIn wsX0_seek wsX0_step := goodIn_r _ [9, 2, 10, 4, 11, 12, 13, 14, 15, 16, 17, 18, 19, 20, 21, 22, 23, 24, 25, 26, 27, 28, 29] (by decide +kernel) (by decide +kernel)
set_option maxRecDepth 20000 in
theorem gX0_seek_X0_step : GoodIn wsX0_seek (wsV RX0 62 RX0 yX0_step wsX0_step) := goodIn_app (goodIn_of _ (by decide +kernel)) ggX0_seek_X0_step
theorem dX0_seek_0 : decode cX0_seek 0 = .ok (.iload_n 1, 1) := by decide +kernel
theorem dX0_seek_1 : decode cX0_seek 1 = .ok (.bipush 100, 2) := by decide +kernel
theorem dX0_seek_3 : decode cX0_seek 3 = .ok (.idiv, 1) := by decide +kernel
theorem dX0_seek_4 : decode cX0_seek 4 = .ok (.istore_n 2, 1) := by decide +kernel
theorem dX0_seek_5 : decode cX0_seek 5 = .ok (.iload_n 2, 1) := by decide +kernel
theorem dX0_seek_6 : decode cX0_seek 6 = .ok (.ifCond .lt 10, 3) := by decide +kernel
theorem dX0_seek_9 : decode cX0_seek 9 = .ok (.iload_n 2, 1) := by decide +kernel
theorem dX0_seek_10 : decode cX0_seek 10 = .ok (.sipush 401, 3) := by decide +kernel
theorem dX0_seek_13 : decode cX0_seek 13 = .ok (.if_icmp .lt 4, 3) := by decide +kernel
theorem dX0_seek_16 : decode cX0_seek 16 = .ok (.return_, 1) := by decide +kernel
theorem dX0_seek_17 : decode cX0_seek 17 = .ok (.aload_n 0, 1) := by decide +kernel
theorem dX0_seek_18 : decode cX0_seek 18 = .ok (.aload_n 0, 1) := by decide +kernel
theorem dX0_seek_19 : decode cX0_seek 19 = .ok (.getfield 9, 3) := by decide +kernel
theorem dX0_seek_22 : decode cX0_seek 22 = .ok (.iload_n 2, 1) := by decide +kernel
theorem dX0_seek_23 : decode cX0_seek 23 = .ok (.iaload, 1) := by decide +kernel
theorem dX0_seek_24 : decode cX0_seek 24 = .ok (.putfield 45, 3) := by decide +kernel
theorem dX0_seek_27 : decode cX0_seek 27 = .ok (.aload_n 0, 1) := by decide +kernel
theorem dX0_seek_28 : decode cX0_seek 28 = .ok (.aload_n 0, 1) := by decide +kernel
theorem dX0_seek_29 : decode cX0_seek 29 = .ok (.getfield 15, 3) := by decide +kernel
theorem dX0_seek_32 : decode cX0_seek 32 = .ok (.iload_n 2, 1) := by decide +kernel
theorem dX0_seek_33 : decode cX0_seek 33 = .ok (.iaload, 1) := by decide +kernel
theorem dX0_seek_34 : decode cX0_seek 34 = .ok (.putfield 48, 3) := by decide +kernel
theorem dX0_seek_37 : decode cX0_seek 37 = .ok (.iload_n 2, 1) := by decide +kernel
theorem dX0_seek_38 : decode cX0_seek 38 = .ok (.bipush 100, 2) := by decide +kernel
theorem dX0_seek_40 : decode cX0_seek 40 = .ok (.imul, 1) := by decide +kernel
theorem dX0_seek_41 : decode cX0_seek 41 = .ok (.istore_n 3, 1) := by decide +kernel
theorem dX0_seek_42 : decode cX0_seek 42 = .ok (.iload_n 3, 1) := by decide +kernel
theorem dX0_seek_43 : decode cX0_seek 43 = .ok (.iload_n 1, 1) := by decide +kernel
theorem dX0_seek_44 : decode cX0_seek 44 = .ok (.if_icmp .ge 14, 3) := by decide +kernel
theorem dX0_seek_47 : decode cX0_seek 47 = .ok (.aload_n 0, 1) := by decide +kernel
theorem dX0_seek_48 : decode cX0_seek 48 = .ok (.invokevirtual 62, 3) := by decide +kernel
theorem dX0_seek_51 : decode cX0_seek 51 = .ok (.pop, 1) := by decide +kernel
theorem dX0_seek_52 : decode cX0_seek 52 = .ok (.iinc 3 1, 3) := by decide +kernel
theorem dX0_seek_55 : decode cX0_seek 55 = .ok (.goto (-13), 3) := by decide +kernel
theorem dX0_seek_58 : decode cX0_seek 58 = .ok (.return_, 1) := by decide +kernel
set_option maxRecDepth 20000 in
theorem ggX0_measure_X0_squareFromCentre : GoodIn wsX0_measure wsX0_squareFromCentre := goodIn_r _ [15, 16, 17, 18, 19, 30, 31, 32, 33, 34, 35, 36, 37, 38, 39, 40, 41] (by decide +kernel) (by decide +kernel)
set_option maxRecDepth 20000 in
theorem gX0_measure_X0_squareFromCentre : GoodIn wsX0_measure (wsV RX0 51 RX0 yX0_squareFromCentre wsX0_squareFromCentre) := goodIn_app (goodIn_of _ (by decide +kernel)) ggX0_measure_X0_squareFromCentre
set_option maxRecDepth 20000 in
theorem ggX0_measure_X3_isStray : GoodIn wsX0_measure wsX3_isStray := goodIn_r _ [22, 23, 24, 21, 25, 26, 27, 5, 28, 29, 8, 9] (by decide +kernel) (by decide +kernel)
set_option maxRecDepth 20000 in
theorem gX0_measure_X3_isStray_n83 : GoodIn wsX0_measure (wsX3_isStray) := ggX0_measure_X3_isStray
theorem dX0_measure_0 : decode cX0_measure 0 = .ok (.aload_n 0, 1) := by decide +kernel
theorem dX0_measure_1 : decode cX0_measure 1 = .ok (.aload_n 0, 1) := by decide +kernel
theorem dX0_measure_2 : decode cX0_measure 2 = .ok (.getfield 39, 3) := by decide +kernel
theorem dX0_measure_5 : decode cX0_measure 5 = .ok (.aload_n 0, 1) := by decide +kernel
theorem dX0_measure_6 : decode cX0_measure 6 = .ok (.invokevirtual 51, 3) := by decide +kernel
theorem dX0_measure_9 : decode cX0_measure 9 = .ok (.aload_n 0, 1) := by decide +kernel
theorem dX0_measure_10 : decode cX0_measure 10 = .ok (.getfield 32, 3) := by decide +kernel
theorem dX0_measure_13 : decode cX0_measure 13 = .ok (.lsub, 1) := by decide +kernel
theorem dX0_measure_14 : decode cX0_measure 14 = .ok (.invokestatic 73, 3) := by decide +kernel
theorem dX0_measure_17 : decode cX0_measure 17 = .ok (.l2i, 1) := by decide +kernel
theorem dX0_measure_18 : decode cX0_measure 18 = .ok (.invokestatic 79, 3) := by decide +kernel
theorem dX0_measure_21 : decode cX0_measure 21 = .ok (.putfield 39, 3) := by decide +kernel
theorem dX0_measure_24 : decode cX0_measure 24 = .ok (.iload_n 1, 1) := by decide +kernel
theorem dX0_measure_25 : decode cX0_measure 25 = .ok (.iload_n 2, 1) := by decide +kernel
theorem dX0_measure_26 : decode cX0_measure 26 = .ok (.iconst 0, 1) := by decide +kernel
theorem dX0_measure_27 : decode cX0_measure 27 = .ok (.invokestatic 83, 3) := by decide +kernel
theorem dX0_measure_30 : decode cX0_measure 30 = .ok (.ifCond .eq 13, 3) := by decide +kernel
theorem dX0_measure_33 : decode cX0_measure 33 = .ok (.aload_n 0, 1) := by decide +kernel
theorem dX0_measure_34 : decode cX0_measure 34 = .ok (.dup, 1) := by decide +kernel
theorem dX0_measure_35 : decode cX0_measure 35 = .ok (.getfield 42, 3) := by decide +kernel
theorem dX0_measure_38 : decode cX0_measure 38 = .ok (.iconst 1, 1) := by decide +kernel
theorem dX0_measure_39 : decode cX0_measure 39 = .ok (.iadd, 1) := by decide +kernel
theorem dX0_measure_40 : decode cX0_measure 40 = .ok (.putfield 42, 3) := by decide +kernel
theorem dX0_measure_43 : decode cX0_measure 43 = .ok (.return_, 1) := by decide +kernel
theorem dX0_squareFromCentre_0 : decode cX0_squareFromCentre 0 = .ok (.aload_n 0, 1) := by decide +kernel
theorem dX0_squareFromCentre_1 : decode cX0_squareFromCentre 1 = .ok (.getfield 45, 3) := by decide +kernel
theorem dX0_squareFromCentre_4 : decode cX0_squareFromCentre 4 = .ok (.aload_n 0, 1) := by decide +kernel
theorem dX0_squareFromCentre_5 : decode cX0_squareFromCentre 5 = .ok (.getfield 22, 3) := by decide +kernel
theorem dX0_squareFromCentre_8 : decode cX0_squareFromCentre 8 = .ok (.isub, 1) := by decide +kernel
theorem dX0_squareFromCentre_9 : decode cX0_squareFromCentre 9 = .ok (.i2l, 1) := by decide +kernel
theorem dX0_squareFromCentre_10 : decode cX0_squareFromCentre 10 = .ok (.lstore_n 1, 1) := by decide +kernel
theorem dX0_squareFromCentre_11 : decode cX0_squareFromCentre 11 = .ok (.aload_n 0, 1) := by decide +kernel
theorem dX0_squareFromCentre_12 : decode cX0_squareFromCentre 12 = .ok (.getfield 48, 3) := by decide +kernel
theorem dX0_squareFromCentre_15 : decode cX0_squareFromCentre 15 = .ok (.aload_n 0, 1) := by decide +kernel
theorem dX0_squareFromCentre_16 : decode cX0_squareFromCentre 16 = .ok (.getfield 25, 3) := by decide +kernel
theorem dX0_squareFromCentre_19 : decode cX0_squareFromCentre 19 = .ok (.isub, 1) := by decide +kernel
theorem dX0_squareFromCentre_20 : decode cX0_squareFromCentre 20 = .ok (.i2l, 1) := by decide +kernel
theorem dX0_squareFromCentre_21 : decode cX0_squareFromCentre 21 = .ok (.lstore_n 3, 1) := by decide +kernel
theorem dX0_squareFromCentre_22 : decode cX0_squareFromCentre 22 = .ok (.lload_n 1, 1) := by decide +kernel
theorem dX0_squareFromCentre_23 : decode cX0_squareFromCentre 23 = .ok (.lload_n 1, 1) := by decide +kernel
theorem dX0_squareFromCentre_24 : decode cX0_squareFromCentre 24 = .ok (.lmul, 1) := by decide +kernel
theorem dX0_squareFromCentre_25 : decode cX0_squareFromCentre 25 = .ok (.lload_n 3, 1) := by decide +kernel
theorem dX0_squareFromCentre_26 : decode cX0_squareFromCentre 26 = .ok (.lload_n 3, 1) := by decide +kernel
theorem dX0_squareFromCentre_27 : decode cX0_squareFromCentre 27 = .ok (.lmul, 1) := by decide +kernel
theorem dX0_squareFromCentre_28 : decode cX0_squareFromCentre 28 = .ok (.ladd, 1) := by decide +kernel
theorem dX0_squareFromCentre_29 : decode cX0_squareFromCentre 29 = .ok (.lreturn, 1) := by decide +kernel
theorem dX0_step_0 : decode cX0_step 0 = .ok (.aload_n 0, 1) := by decide +kernel
theorem dX0_step_1 : decode cX0_step 1 = .ok (.getfield 45, 3) := by decide +kernel
theorem dX0_step_4 : decode cX0_step 4 = .ok (.aload_n 0, 1) := by decide +kernel
theorem dX0_step_5 : decode cX0_step 5 = .ok (.getfield 22, 3) := by decide +kernel
theorem dX0_step_8 : decode cX0_step 8 = .ok (.isub, 1) := by decide +kernel
theorem dX0_step_9 : decode cX0_step 9 = .ok (.i2l, 1) := by decide +kernel
theorem dX0_step_10 : decode cX0_step 10 = .ok (.lstore_n 1, 1) := by decide +kernel
theorem dX0_step_11 : decode cX0_step 11 = .ok (.aload_n 0, 1) := by decide +kernel
theorem dX0_step_12 : decode cX0_step 12 = .ok (.getfield 48, 3) := by decide +kernel
theorem dX0_step_15 : decode cX0_step 15 = .ok (.aload_n 0, 1) := by decide +kernel
theorem dX0_step_16 : decode cX0_step 16 = .ok (.getfield 25, 3) := by decide +kernel
theorem dX0_step_19 : decode cX0_step 19 = .ok (.isub, 1) := by decide +kernel
theorem dX0_step_20 : decode cX0_step 20 = .ok (.i2l, 1) := by decide +kernel
theorem dX0_step_21 : decode cX0_step 21 = .ok (.lstore_n 3, 1) := by decide +kernel
theorem dX0_step_22 : decode cX0_step 22 = .ok (.iconst (-1), 1) := by decide +kernel
theorem dX0_step_23 : decode cX0_step 23 = .ok (.istore 5, 2) := by decide +kernel
theorem dX0_step_25 : decode cX0_step 25 = .ok (.lconst 0, 1) := by decide +kernel
theorem dX0_step_26 : decode cX0_step 26 = .ok (.lstore 6, 2) := by decide +kernel
theorem dX0_step_28 : decode cX0_step 28 = .ok (.iconst 0, 1) := by decide +kernel
theorem dX0_step_29 : decode cX0_step 29 = .ok (.istore 8, 2) := by decide +kernel
theorem dX0_step_31 : decode cX0_step 31 = .ok (.iload 8, 2) := by decide +kernel
theorem dX0_step_33 : decode cX0_step 33 = .ok (.bipush 8, 2) := by decide +kernel
theorem dX0_step_35 : decode cX0_step 35 = .ok (.if_icmp .ge 108, 3) := by decide +kernel
theorem dX0_step_38 : decode cX0_step 38 = .ok (.lload_n 1, 1) := by decide +kernel
theorem dX0_step_39 : decode cX0_step 39 = .ok (.getstatic 87, 3) := by decide +kernel
theorem dX0_step_42 : decode cX0_step 42 = .ok (.iload 8, 2) := by decide +kernel
theorem dX0_step_44 : decode cX0_step 44 = .ok (.iaload, 1) := by decide +kernel
theorem dX0_step_45 : decode cX0_step 45 = .ok (.i2l, 1) := by decide +kernel
theorem dX0_step_46 : decode cX0_step 46 = .ok (.ladd, 1) := by decide +kernel
theorem dX0_step_47 : decode cX0_step 47 = .ok (.lstore 9, 2) := by decide +kernel
theorem dX0_step_49 : decode cX0_step 49 = .ok (.lload_n 3, 1) := by decide +kernel
theorem dX0_step_50 : decode cX0_step 50 = .ok (.getstatic 90, 3) := by decide +kernel
theorem dX0_step_53 : decode cX0_step 53 = .ok (.iload 8, 2) := by decide +kernel
theorem dX0_step_55 : decode cX0_step 55 = .ok (.iaload, 1) := by decide +kernel
theorem dX0_step_56 : decode cX0_step 56 = .ok (.i2l, 1) := by decide +kernel
theorem dX0_step_57 : decode cX0_step 57 = .ok (.ladd, 1) := by decide +kernel
theorem dX0_step_58 : decode cX0_step 58 = .ok (.lstore 11, 2) := by decide +kernel
theorem dX0_step_60 : decode cX0_step 60 = .ok (.lload_n 1, 1) := by decide +kernel
theorem dX0_step_61 : decode cX0_step 61 = .ok (.lload 11, 2) := by decide +kernel
theorem dX0_step_63 : decode cX0_step 63 = .ok (.lmul, 1) := by decide +kernel
theorem dX0_step_64 : decode cX0_step 64 = .ok (.lload_n 3, 1) := by decide +kernel
theorem dX0_step_65 : decode cX0_step 65 = .ok (.lload 9, 2) := by decide +kernel
theorem dX0_step_67 : decode cX0_step 67 = .ok (.lmul, 1) := by decide +kernel
theorem dX0_step_68 : decode cX0_step 68 = .ok (.lsub, 1) := by decide +kernel
theorem dX0_step_69 : decode cX0_step 69 = .ok (.lstore 13, 2) := by decide +kernel
theorem dX0_step_71 : decode cX0_step 71 = .ok (.aload_n 0, 1) := by decide +kernel
theorem dX0_step_72 : decode cX0_step 72 = .ok (.getfield 28, 3) := by decide +kernel
theorem dX0_step_75 : decode cX0_step 75 = .ok (.ifCond .eq 13, 3) := by decide +kernel
theorem dX0_step_78 : decode cX0_step 78 = .ok (.lload 13, 2) := by decide +kernel
theorem dX0_step_80 : decode cX0_step 80 = .ok (.lconst 0, 1) := by decide +kernel
theorem dX0_step_81 : decode cX0_step 81 = .ok (.lcmp, 1) := by decide +kernel
theorem dX0_step_82 : decode cX0_step 82 = .ok (.ifCond .le 55, 3) := by decide +kernel
theorem dX0_step_85 : decode cX0_step 85 = .ok (.goto 10, 3) := by decide +kernel
theorem dX0_step_88 : decode cX0_step 88 = .ok (.lload 13, 2) := by decide +kernel
theorem dX0_step_90 : decode cX0_step 90 = .ok (.lconst 0, 1) := by decide +kernel
theorem dX0_step_91 : decode cX0_step 91 = .ok (.lcmp, 1) := by decide +kernel
theorem dX0_step_92 : decode cX0_step 92 = .ok (.ifCond .ge 45, 3) := by decide +kernel
theorem dX0_step_95 : decode cX0_step 95 = .ok (.lload 9, 2) := by decide +kernel
theorem dX0_step_97 : decode cX0_step 97 = .ok (.lload 9, 2) := by decide +kernel
theorem dX0_step_99 : decode cX0_step 99 = .ok (.lmul, 1) := by decide +kernel
theorem dX0_step_100 : decode cX0_step 100 = .ok (.lload 11, 2) := by decide +kernel
theorem dX0_step_102 : decode cX0_step 102 = .ok (.lload 11, 2) := by decide +kernel
theorem dX0_step_104 : decode cX0_step 104 = .ok (.lmul, 1) := by decide +kernel
theorem dX0_step_105 : decode cX0_step 105 = .ok (.ladd, 1) := by decide +kernel
theorem dX0_step_106 : decode cX0_step 106 = .ok (.aload_n 0, 1) := by decide +kernel
theorem dX0_step_107 : decode cX0_step 107 = .ok (.getfield 32, 3) := by decide +kernel
theorem dX0_step_110 : decode cX0_step 110 = .ok (.lsub, 1) := by decide +kernel
theorem dX0_step_111 : decode cX0_step 111 = .ok (.invokestatic 73, 3) := by decide +kernel
theorem dX0_step_114 : decode cX0_step 114 = .ok (.lstore 15, 2) := by decide +kernel
theorem dX0_step_116 : decode cX0_step 116 = .ok (.iload 5, 2) := by decide +kernel
theorem dX0_step_118 : decode cX0_step 118 = .ok (.ifCond .lt 11, 3) := by decide +kernel
theorem dX0_step_121 : decode cX0_step 121 = .ok (.lload 15, 2) := by decide +kernel
theorem dX0_step_123 : decode cX0_step 123 = .ok (.lload 6, 2) := by decide +kernel
theorem dX0_step_125 : decode cX0_step 125 = .ok (.lcmp, 1) := by decide +kernel
theorem dX0_step_126 : decode cX0_step 126 = .ok (.ifCond .ge 11, 3) := by decide +kernel
theorem dX0_step_129 : decode cX0_step 129 = .ok (.iload 8, 2) := by decide +kernel
theorem dX0_step_131 : decode cX0_step 131 = .ok (.istore 5, 2) := by decide +kernel
theorem dX0_step_133 : decode cX0_step 133 = .ok (.lload 15, 2) := by decide +kernel
theorem dX0_step_135 : decode cX0_step 135 = .ok (.lstore 6, 2) := by decide +kernel
theorem dX0_step_137 : decode cX0_step 137 = .ok (.iinc 8 1, 3) := by decide +kernel
theorem dX0_step_140 : decode cX0_step 140 = .ok (.goto (-109), 3) := by decide +kernel
theorem dX0_step_143 : decode cX0_step 143 = .ok (.iload 5, 2) := by decide +kernel
theorem dX0_step_145 : decode cX0_step 145 = .ok (.ifCond .ge 5, 3) := by decide +kernel
theorem dX0_step_148 : decode cX0_step 148 = .ok (.iconst 0, 1) := by decide +kernel
theorem dX0_step_149 : decode cX0_step 149 = .ok (.ireturn, 1) := by decide +kernel
theorem dX0_step_150 : decode cX0_step 150 = .ok (.aload_n 0, 1) := by decide +kernel
theorem dX0_step_151 : decode cX0_step 151 = .ok (.dup, 1) := by decide +kernel
theorem dX0_step_152 : decode cX0_step 152 = .ok (.getfield 45, 3) := by decide +kernel
theorem dX0_step_155 : decode cX0_step 155 = .ok (.getstatic 87, 3) := by decide +kernel
theorem dX0_step_158 : decode cX0_step 158 = .ok (.iload 5, 2) := by decide +kernel
theorem dX0_step_160 : decode cX0_step 160 = .ok (.iaload, 1) := by decide +kernel
theorem dX0_step_161 : decode cX0_step 161 = .ok (.iadd, 1) := by decide +kernel
theorem dX0_step_162 : decode cX0_step 162 = .ok (.putfield 45, 3) := by decide +kernel
theorem dX0_step_165 : decode cX0_step 165 = .ok (.aload_n 0, 1) := by decide +kernel
theorem dX0_step_166 : decode cX0_step 166 = .ok (.dup, 1) := by decide +kernel
theorem dX0_step_167 : decode cX0_step 167 = .ok (.getfield 48, 3) := by decide +kernel
theorem dX0_step_170 : decode cX0_step 170 = .ok (.getstatic 90, 3) := by decide +kernel
theorem dX0_step_173 : decode cX0_step 173 = .ok (.iload 5, 2) := by decide +kernel
theorem dX0_step_175 : decode cX0_step 175 = .ok (.iaload, 1) := by decide +kernel
theorem dX0_step_176 : decode cX0_step 176 = .ok (.iadd, 1) := by decide +kernel
theorem dX0_step_177 : decode cX0_step 177 = .ok (.putfield 48, 3) := by decide +kernel
theorem dX0_step_180 : decode cX0_step 180 = .ok (.iconst 1, 1) := by decide +kernel
theorem dX0_step_181 : decode cX0_step 181 = .ok (.ireturn, 1) := by decide +kernel
set_option maxRecDepth 20000 in
theorem ggX1_init_X2_init : GoodIn wsX1_init wsX2_init := goodIn_r _ [8, 9, 10, 11] (by decide +kernel) (by decide +kernel)
set_option maxRecDepth 20000 in
theorem gX1_init_X2_init_n3 : GoodIn wsX1_init (wsX2_init) := ggX1_init_X2_init
theorem dX1_init_0 : decode cX1_init 0 = .ok (.aload_n 0, 1) := by decide +kernel
theorem dX1_init_1 : decode cX1_init 1 = .ok (.invokespecial 3, 3) := by decide +kernel
theorem dX1_init_4 : decode cX1_init 4 = .ok (.aload_n 0, 1) := by decide +kernel
theorem dX1_init_5 : decode cX1_init 5 = .ok (.iconst 3, 1) := by decide +kernel
theorem dX1_init_6 : decode cX1_init 6 = .ok (.newarray .int, 2) := by decide +kernel
theorem dX1_init_8 : decode cX1_init 8 = .ok (.putfield 9, 3) := by decide +kernel
theorem dX1_init_11 : decode cX1_init 11 = .ok (.aload_n 0, 1) := by decide +kernel
theorem dX1_init_12 : decode cX1_init 12 = .ok (.iconst 3, 1) := by decide +kernel
theorem dX1_init_13 : decode cX1_init 13 = .ok (.newarray .int, 2) := by decide +kernel
theorem dX1_init_15 : decode cX1_init 15 = .ok (.putfield 15, 3) := by decide +kernel
theorem dX1_init_18 : decode cX1_init 18 = .ok (.aload_n 0, 1) := by decide +kernel
theorem dX1_init_19 : decode cX1_init 19 = .ok (.iconst 0, 1) := by decide +kernel
theorem dX1_init_20 : decode cX1_init 20 = .ok (.putfield 18, 3) := by decide +kernel
theorem dX1_init_23 : decode cX1_init 23 = .ok (.aload_n 0, 1) := by decide +kernel
theorem dX1_init_24 : decode cX1_init 24 = .ok (.iconst (-1), 1) := by decide +kernel
theorem dX1_init_25 : decode cX1_init 25 = .ok (.putfield 22, 3) := by decide +kernel
theorem dX1_init_28 : decode cX1_init 28 = .ok (.return_, 1) := by decide +kernel
set_option maxRecDepth 20000 in
theorem ggX1_walk_X3_greatestAmount : GoodIn wsX1_walk wsX3_greatestAmount := goodIn_r _ [7, 8, 9, 10, 11, 12, 13, 14] (by decide +kernel) (by decide +kernel)
set_option maxRecDepth 20000 in
theorem gX1_walk_X3_greatestAmount_n25 : GoodIn wsX1_walk (wsX3_greatestAmount) := ggX1_walk_X3_greatestAmount
theorem dX1_walk_0 : decode cX1_walk 0 = .ok (.iconst 0, 1) := by decide +kernel
theorem dX1_walk_1 : decode cX1_walk 1 = .ok (.istore 5, 2) := by decide +kernel
theorem dX1_walk_3 : decode cX1_walk 3 = .ok (.iload 5, 2) := by decide +kernel
theorem dX1_walk_5 : decode cX1_walk 5 = .ok (.iconst 3, 1) := by decide +kernel
theorem dX1_walk_6 : decode cX1_walk 6 = .ok (.if_icmp .ge 20, 3) := by decide +kernel
theorem dX1_walk_9 : decode cX1_walk 9 = .ok (.aload_n 0, 1) := by decide +kernel
theorem dX1_walk_10 : decode cX1_walk 10 = .ok (.getfield 9, 3) := by decide +kernel
theorem dX1_walk_13 : decode cX1_walk 13 = .ok (.iload 5, 2) := by decide +kernel
theorem dX1_walk_15 : decode cX1_walk 15 = .ok (.aload_n 1, 1) := by decide +kernel
theorem dX1_walk_16 : decode cX1_walk 16 = .ok (.iload 5, 2) := by decide +kernel
theorem dX1_walk_18 : decode cX1_walk 18 = .ok (.iaload, 1) := by decide +kernel
theorem dX1_walk_19 : decode cX1_walk 19 = .ok (.iastore, 1) := by decide +kernel
theorem dX1_walk_20 : decode cX1_walk 20 = .ok (.iinc 5 1, 3) := by decide +kernel
theorem dX1_walk_23 : decode cX1_walk 23 = .ok (.goto (-20), 3) := by decide +kernel
theorem dX1_walk_26 : decode cX1_walk 26 = .ok (.aload_n 0, 1) := by decide +kernel
theorem dX1_walk_27 : decode cX1_walk 27 = .ok (.getfield 15, 3) := by decide +kernel
theorem dX1_walk_30 : decode cX1_walk 30 = .ok (.iconst 0, 1) := by decide +kernel
theorem dX1_walk_31 : decode cX1_walk 31 = .ok (.iload_n 2, 1) := by decide +kernel
theorem dX1_walk_32 : decode cX1_walk 32 = .ok (.aload_n 0, 1) := by decide +kernel
theorem dX1_walk_33 : decode cX1_walk 33 = .ok (.getfield 9, 3) := by decide +kernel
theorem dX1_walk_36 : decode cX1_walk 36 = .ok (.iconst 0, 1) := by decide +kernel
theorem dX1_walk_37 : decode cX1_walk 37 = .ok (.iaload, 1) := by decide +kernel
theorem dX1_walk_38 : decode cX1_walk 38 = .ok (.isub, 1) := by decide +kernel
theorem dX1_walk_39 : decode cX1_walk 39 = .ok (.iastore, 1) := by decide +kernel
theorem dX1_walk_40 : decode cX1_walk 40 = .ok (.aload_n 0, 1) := by decide +kernel
theorem dX1_walk_41 : decode cX1_walk 41 = .ok (.getfield 15, 3) := by decide +kernel
theorem dX1_walk_44 : decode cX1_walk 44 = .ok (.iconst 1, 1) := by decide +kernel
theorem dX1_walk_45 : decode cX1_walk 45 = .ok (.iload_n 3, 1) := by decide +kernel
theorem dX1_walk_46 : decode cX1_walk 46 = .ok (.aload_n 0, 1) := by decide +kernel
theorem dX1_walk_47 : decode cX1_walk 47 = .ok (.getfield 9, 3) := by decide +kernel
theorem dX1_walk_50 : decode cX1_walk 50 = .ok (.iconst 1, 1) := by decide +kernel
theorem dX1_walk_51 : decode cX1_walk 51 = .ok (.iaload, 1) := by decide +kernel
theorem dX1_walk_52 : decode cX1_walk 52 = .ok (.isub, 1) := by decide +kernel
theorem dX1_walk_53 : decode cX1_walk 53 = .ok (.iastore, 1) := by decide +kernel
theorem dX1_walk_54 : decode cX1_walk 54 = .ok (.aload_n 0, 1) := by decide +kernel
theorem dX1_walk_55 : decode cX1_walk 55 = .ok (.getfield 15, 3) := by decide +kernel
theorem dX1_walk_58 : decode cX1_walk 58 = .ok (.iconst 2, 1) := by decide +kernel
theorem dX1_walk_59 : decode cX1_walk 59 = .ok (.iload 4, 2) := by decide +kernel
theorem dX1_walk_61 : decode cX1_walk 61 = .ok (.aload_n 0, 1) := by decide +kernel
theorem dX1_walk_62 : decode cX1_walk 62 = .ok (.getfield 9, 3) := by decide +kernel
theorem dX1_walk_65 : decode cX1_walk 65 = .ok (.iconst 2, 1) := by decide +kernel
theorem dX1_walk_66 : decode cX1_walk 66 = .ok (.iaload, 1) := by decide +kernel
theorem dX1_walk_67 : decode cX1_walk 67 = .ok (.isub, 1) := by decide +kernel
theorem dX1_walk_68 : decode cX1_walk 68 = .ok (.iastore, 1) := by decide +kernel
theorem dX1_walk_69 : decode cX1_walk 69 = .ok (.aload_n 0, 1) := by decide +kernel
theorem dX1_walk_70 : decode cX1_walk 70 = .ok (.aload_n 0, 1) := by decide +kernel
theorem dX1_walk_71 : decode cX1_walk 71 = .ok (.getfield 15, 3) := by decide +kernel
theorem dX1_walk_74 : decode cX1_walk 74 = .ok (.iconst 0, 1) := by decide +kernel
theorem dX1_walk_75 : decode cX1_walk 75 = .ok (.iaload, 1) := by decide +kernel
theorem dX1_walk_76 : decode cX1_walk 76 = .ok (.aload_n 0, 1) := by decide +kernel
theorem dX1_walk_77 : decode cX1_walk 77 = .ok (.getfield 15, 3) := by decide +kernel
theorem dX1_walk_80 : decode cX1_walk 80 = .ok (.iconst 1, 1) := by decide +kernel
theorem dX1_walk_81 : decode cX1_walk 81 = .ok (.iaload, 1) := by decide +kernel
theorem dX1_walk_82 : decode cX1_walk 82 = .ok (.aload_n 0, 1) := by decide +kernel
theorem dX1_walk_83 : decode cX1_walk 83 = .ok (.getfield 15, 3) := by decide +kernel
theorem dX1_walk_86 : decode cX1_walk 86 = .ok (.iconst 2, 1) := by decide +kernel
theorem dX1_walk_87 : decode cX1_walk 87 = .ok (.iaload, 1) := by decide +kernel
theorem dX1_walk_88 : decode cX1_walk 88 = .ok (.invokestatic 25, 3) := by decide +kernel
theorem dX1_walk_91 : decode cX1_walk 91 = .ok (.putfield 18, 3) := by decide +kernel
theorem dX1_walk_94 : decode cX1_walk 94 = .ok (.aload_n 0, 1) := by decide +kernel
theorem dX1_walk_95 : decode cX1_walk 95 = .ok (.iconst (-1), 1) := by decide +kernel
theorem dX1_walk_96 : decode cX1_walk 96 = .ok (.putfield 22, 3) := by decide +kernel
theorem dX1_walk_99 : decode cX1_walk 99 = .ok (.return_, 1) := by decide +kernel
theorem dX1_length_0 : decode cX1_length 0 = .ok (.aload_n 0, 1) := by decide +kernel
theorem dX1_length_1 : decode cX1_length 1 = .ok (.getfield 18, 3) := by decide +kernel
theorem dX1_length_4 : decode cX1_length 4 = .ok (.ireturn, 1) := by decide +kernel
set_option maxRecDepth 20000 in
theorem ggX1_placeBehind_J9_floorDiv_f86c9 : GoodIn wsX1_placeBehind wsJ9_floorDiv_f86c9 := goodIn_r _ [8] (by decide +kernel) (by decide +kernel)
set_option maxRecDepth 20000 in
theorem gX1_placeBehind_J9_floorDiv_f86c9 : GoodIn wsX1_placeBehind (va_wsS RX1 31 yJ9_floorDiv_f86c9 wsJ9_floorDiv_f86c9) := goodIn_app (goodIn_of _ (by decide +kernel)) ggX1_placeBehind_J9_floorDiv_f86c9
theorem dX1_placeBehind_0 : decode cX1_placeBehind 0 = .ok (.aload_n 0, 1) := by decide +kernel
theorem dX1_placeBehind_1 : decode cX1_placeBehind 1 = .ok (.getfield 18, 3) := by decide +kernel
theorem dX1_placeBehind_4 : decode cX1_placeBehind 4 = .ok (.ifCond .ne 10, 3) := by decide +kernel
theorem dX1_placeBehind_7 : decode cX1_placeBehind 7 = .ok (.aload_n 0, 1) := by decide +kernel
theorem dX1_placeBehind_8 : decode cX1_placeBehind 8 = .ok (.getfield 9, 3) := by decide +kernel
theorem dX1_placeBehind_11 : decode cX1_placeBehind 11 = .ok (.iload_n 2, 1) := by decide +kernel
theorem dX1_placeBehind_12 : decode cX1_placeBehind 12 = .ok (.iaload, 1) := by decide +kernel
theorem dX1_placeBehind_13 : decode cX1_placeBehind 13 = .ok (.ireturn, 1) := by decide +kernel
theorem dX1_placeBehind_14 : decode cX1_placeBehind 14 = .ok (.aload_n 0, 1) := by decide +kernel
theorem dX1_placeBehind_15 : decode cX1_placeBehind 15 = .ok (.getfield 18, 3) := by decide +kernel
theorem dX1_placeBehind_18 : decode cX1_placeBehind 18 = .ok (.i2l, 1) := by decide +kernel
theorem dX1_placeBehind_19 : decode cX1_placeBehind 19 = .ok (.lstore_n 3, 1) := by decide +kernel
theorem dX1_placeBehind_20 : decode cX1_placeBehind 20 = .ok (.aload_n 0, 1) := by decide +kernel
theorem dX1_placeBehind_21 : decode cX1_placeBehind 21 = .ok (.getfield 9, 3) := by decide +kernel
theorem dX1_placeBehind_24 : decode cX1_placeBehind 24 = .ok (.iload_n 2, 1) := by decide +kernel
end
section
theorem dX1_placeBehind_25 : decode cX1_placeBehind 25 = .ok (.iaload, 1) := by decide +kernel
theorem dX1_placeBehind_26 : decode cX1_placeBehind 26 = .ok (.ldc2_w 29, 3) := by decide +kernel
theorem dX1_placeBehind_29 : decode cX1_placeBehind 29 = .ok (.aload_n 0, 1) := by decide +kernel
theorem dX1_placeBehind_30 : decode cX1_placeBehind 30 = .ok (.getfield 15, 3) := by decide +kernel
theorem dX1_placeBehind_33 : decode cX1_placeBehind 33 = .ok (.iload_n 2, 1) := by decide +kernel
theorem dX1_placeBehind_34 : decode cX1_placeBehind 34 = .ok (.iaload, 1) := by decide +kernel
theorem dX1_placeBehind_35 : decode cX1_placeBehind 35 = .ok (.i2l, 1) := by decide +kernel
theorem dX1_placeBehind_36 : decode cX1_placeBehind 36 = .ok (.lmul, 1) := by decide +kernel
theorem dX1_placeBehind_37 : decode cX1_placeBehind 37 = .ok (.iload_n 1, 1) := by decide +kernel
theorem dX1_placeBehind_38 : decode cX1_placeBehind 38 = .ok (.i2l, 1) := by decide +kernel
theorem dX1_placeBehind_39 : decode cX1_placeBehind 39 = .ok (.lmul, 1) := by decide +kernel
theorem dX1_placeBehind_40 : decode cX1_placeBehind 40 = .ok (.lload_n 3, 1) := by decide +kernel
theorem dX1_placeBehind_41 : decode cX1_placeBehind 41 = .ok (.ladd, 1) := by decide +kernel
theorem dX1_placeBehind_42 : decode cX1_placeBehind 42 = .ok (.ldc2_w 29, 3) := by decide +kernel
theorem dX1_placeBehind_45 : decode cX1_placeBehind 45 = .ok (.lload_n 3, 1) := by decide +kernel
theorem dX1_placeBehind_46 : decode cX1_placeBehind 46 = .ok (.lmul, 1) := by decide +kernel
theorem dX1_placeBehind_47 : decode cX1_placeBehind 47 = .ok (.invokestatic 31, 3) := by decide +kernel
theorem dX1_placeBehind_50 : decode cX1_placeBehind 50 = .ok (.l2i, 1) := by decide +kernel
theorem dX1_placeBehind_51 : decode cX1_placeBehind 51 = .ok (.iadd, 1) := by decide +kernel
theorem dX1_placeBehind_52 : decode cX1_placeBehind 52 = .ok (.ireturn, 1) := by decide +kernel
theorem dX1_greatestOff_0 : decode cX1_greatestOff 0 = .ok (.iconst 0, 1) := by decide +kernel
theorem dX1_greatestOff_1 : decode cX1_greatestOff 1 = .ok (.ireturn, 1) := by decide +kernel
set_option maxRecDepth 20000 in
theorem ggX1_strayTicks_X1_countStrays : GoodIn wsX1_strayTicks wsX1_countStrays := goodIn_r _ [6, 7, 8, 9, 10, 11, 5, 12, 13, 14, 15, 16, 17, 18, 19, 20, 21, 22, 23, 24, 25, 26, 27, 28, 29, 30, 31, 32, 33, 34, 35] (by decide +kernel) (by decide +kernel)
set_option maxRecDepth 20000 in
theorem gX1_strayTicks_X1_countStrays : GoodIn wsX1_strayTicks (wsV RX1 37 RX1 yX1_countStrays wsX1_countStrays) := goodIn_app (goodIn_of _ (by decide +kernel)) ggX1_strayTicks_X1_countStrays
theorem dX1_strayTicks_0 : decode cX1_strayTicks 0 = .ok (.aload_n 0, 1) := by decide +kernel
theorem dX1_strayTicks_1 : decode cX1_strayTicks 1 = .ok (.getfield 22, 3) := by decide +kernel
theorem dX1_strayTicks_4 : decode cX1_strayTicks 4 = .ok (.iconst (-1), 1) := by decide +kernel
theorem dX1_strayTicks_5 : decode cX1_strayTicks 5 = .ok (.if_icmp .ne 11, 3) := by decide +kernel
theorem dX1_strayTicks_8 : decode cX1_strayTicks 8 = .ok (.aload_n 0, 1) := by decide +kernel
theorem dX1_strayTicks_9 : decode cX1_strayTicks 9 = .ok (.aload_n 0, 1) := by decide +kernel
theorem dX1_strayTicks_10 : decode cX1_strayTicks 10 = .ok (.invokevirtual 37, 3) := by decide +kernel
theorem dX1_strayTicks_13 : decode cX1_strayTicks 13 = .ok (.putfield 22, 3) := by decide +kernel
theorem dX1_strayTicks_16 : decode cX1_strayTicks 16 = .ok (.aload_n 0, 1) := by decide +kernel
theorem dX1_strayTicks_17 : decode cX1_strayTicks 17 = .ok (.getfield 22, 3) := by decide +kernel
theorem dX1_strayTicks_20 : decode cX1_strayTicks 20 = .ok (.ireturn, 1) := by decide +kernel
set_option maxRecDepth 20000 in
theorem ggX1_countStrays_X1_placeBehind : GoodIn wsX1_countStrays wsX1_placeBehind := goodIn_r _ [7, 2, 1, 8, 9, 10, 11, 12, 13, 27, 28, 29, 30] (by decide +kernel) (by decide +kernel)
set_option maxRecDepth 20000 in
theorem gX1_countStrays_X1_placeBehind : GoodIn wsX1_countStrays (wsV RX1 41 RX1 yX1_placeBehind wsX1_placeBehind) := goodIn_app (goodIn_of _ (by decide +kernel)) ggX1_countStrays_X1_placeBehind
set_option maxRecDepth 20000 in
theorem ggX1_countStrays_X3_isStray : GoodIn wsX1_countStrays wsX3_isStray := goodIn_r _ [16, 17, 18, 15, 19, 20, 21, 22, 23, 24, 25, 26] (by decide +kernel) (by decide +kernel)
set_option maxRecDepth 20000 in
theorem gX1_countStrays_X3_isStray_n45 : GoodIn wsX1_countStrays (wsX3_isStray) := ggX1_countStrays_X3_isStray
theorem dX1_countStrays_0 : decode cX1_countStrays 0 = .ok (.iconst 0, 1) := by decide +kernel
theorem dX1_countStrays_1 : decode cX1_countStrays 1 = .ok (.istore_n 1, 1) := by decide +kernel
theorem dX1_countStrays_2 : decode cX1_countStrays 2 = .ok (.aload_n 0, 1) := by decide +kernel
theorem dX1_countStrays_3 : decode cX1_countStrays 3 = .ok (.getfield 9, 3) := by decide +kernel
theorem dX1_countStrays_6 : decode cX1_countStrays 6 = .ok (.iconst 0, 1) := by decide +kernel
theorem dX1_countStrays_7 : decode cX1_countStrays 7 = .ok (.iaload, 1) := by decide +kernel
theorem dX1_countStrays_8 : decode cX1_countStrays 8 = .ok (.istore_n 2, 1) := by decide +kernel
theorem dX1_countStrays_9 : decode cX1_countStrays 9 = .ok (.aload_n 0, 1) := by decide +kernel
theorem dX1_countStrays_10 : decode cX1_countStrays 10 = .ok (.getfield 9, 3) := by decide +kernel
theorem dX1_countStrays_13 : decode cX1_countStrays 13 = .ok (.iconst 1, 1) := by decide +kernel
theorem dX1_countStrays_14 : decode cX1_countStrays 14 = .ok (.iaload, 1) := by decide +kernel
theorem dX1_countStrays_15 : decode cX1_countStrays 15 = .ok (.istore_n 3, 1) := by decide +kernel
theorem dX1_countStrays_16 : decode cX1_countStrays 16 = .ok (.aload_n 0, 1) := by decide +kernel
theorem dX1_countStrays_17 : decode cX1_countStrays 17 = .ok (.getfield 9, 3) := by decide +kernel
theorem dX1_countStrays_20 : decode cX1_countStrays 20 = .ok (.iconst 2, 1) := by decide +kernel
theorem dX1_countStrays_21 : decode cX1_countStrays 21 = .ok (.iaload, 1) := by decide +kernel
theorem dX1_countStrays_22 : decode cX1_countStrays 22 = .ok (.istore 4, 2) := by decide +kernel
theorem dX1_countStrays_24 : decode cX1_countStrays 24 = .ok (.iconst 1, 1) := by decide +kernel
theorem dX1_countStrays_25 : decode cX1_countStrays 25 = .ok (.istore 5, 2) := by decide +kernel
theorem dX1_countStrays_27 : decode cX1_countStrays 27 = .ok (.iload 5, 2) := by decide +kernel
theorem dX1_countStrays_29 : decode cX1_countStrays 29 = .ok (.aload_n 0, 1) := by decide +kernel
theorem dX1_countStrays_30 : decode cX1_countStrays 30 = .ok (.getfield 18, 3) := by decide +kernel
theorem dX1_countStrays_33 : decode cX1_countStrays 33 = .ok (.if_icmp .gt 68, 3) := by decide +kernel
theorem dX1_countStrays_36 : decode cX1_countStrays 36 = .ok (.aload_n 0, 1) := by decide +kernel
theorem dX1_countStrays_37 : decode cX1_countStrays 37 = .ok (.iload 5, 2) := by decide +kernel
theorem dX1_countStrays_39 : decode cX1_countStrays 39 = .ok (.iconst 0, 1) := by decide +kernel
theorem dX1_countStrays_40 : decode cX1_countStrays 40 = .ok (.invokevirtual 41, 3) := by decide +kernel
theorem dX1_countStrays_43 : decode cX1_countStrays 43 = .ok (.istore 6, 2) := by decide +kernel
theorem dX1_countStrays_45 : decode cX1_countStrays 45 = .ok (.aload_n 0, 1) := by decide +kernel
theorem dX1_countStrays_46 : decode cX1_countStrays 46 = .ok (.iload 5, 2) := by decide +kernel
theorem dX1_countStrays_48 : decode cX1_countStrays 48 = .ok (.iconst 1, 1) := by decide +kernel
theorem dX1_countStrays_49 : decode cX1_countStrays 49 = .ok (.invokevirtual 41, 3) := by decide +kernel
theorem dX1_countStrays_52 : decode cX1_countStrays 52 = .ok (.istore 7, 2) := by decide +kernel
theorem dX1_countStrays_54 : decode cX1_countStrays 54 = .ok (.aload_n 0, 1) := by decide +kernel
theorem dX1_countStrays_55 : decode cX1_countStrays 55 = .ok (.iload 5, 2) := by decide +kernel
theorem dX1_countStrays_57 : decode cX1_countStrays 57 = .ok (.iconst 2, 1) := by decide +kernel
theorem dX1_countStrays_58 : decode cX1_countStrays 58 = .ok (.invokevirtual 41, 3) := by decide +kernel
theorem dX1_countStrays_61 : decode cX1_countStrays 61 = .ok (.istore 8, 2) := by decide +kernel
theorem dX1_countStrays_63 : decode cX1_countStrays 63 = .ok (.iload 6, 2) := by decide +kernel
theorem dX1_countStrays_65 : decode cX1_countStrays 65 = .ok (.iload_n 2, 1) := by decide +kernel
theorem dX1_countStrays_66 : decode cX1_countStrays 66 = .ok (.isub, 1) := by decide +kernel
theorem dX1_countStrays_67 : decode cX1_countStrays 67 = .ok (.iload 7, 2) := by decide +kernel
theorem dX1_countStrays_69 : decode cX1_countStrays 69 = .ok (.iload_n 3, 1) := by decide +kernel
theorem dX1_countStrays_70 : decode cX1_countStrays 70 = .ok (.isub, 1) := by decide +kernel
theorem dX1_countStrays_71 : decode cX1_countStrays 71 = .ok (.iload 8, 2) := by decide +kernel
theorem dX1_countStrays_73 : decode cX1_countStrays 73 = .ok (.iload 4, 2) := by decide +kernel
theorem dX1_countStrays_75 : decode cX1_countStrays 75 = .ok (.isub, 1) := by decide +kernel
theorem dX1_countStrays_76 : decode cX1_countStrays 76 = .ok (.invokestatic 45, 3) := by decide +kernel
theorem dX1_countStrays_79 : decode cX1_countStrays 79 = .ok (.ifCond .eq 6, 3) := by decide +kernel
theorem dX1_countStrays_82 : decode cX1_countStrays 82 = .ok (.iinc 1 1, 3) := by decide +kernel
theorem dX1_countStrays_85 : decode cX1_countStrays 85 = .ok (.iload 6, 2) := by decide +kernel
theorem dX1_countStrays_87 : decode cX1_countStrays 87 = .ok (.istore_n 2, 1) := by decide +kernel
theorem dX1_countStrays_88 : decode cX1_countStrays 88 = .ok (.iload 7, 2) := by decide +kernel
theorem dX1_countStrays_90 : decode cX1_countStrays 90 = .ok (.istore_n 3, 1) := by decide +kernel
theorem dX1_countStrays_91 : decode cX1_countStrays 91 = .ok (.iload 8, 2) := by decide +kernel
theorem dX1_countStrays_93 : decode cX1_countStrays 93 = .ok (.istore 4, 2) := by decide +kernel
theorem dX1_countStrays_95 : decode cX1_countStrays 95 = .ok (.iinc 5 1, 3) := by decide +kernel
theorem dX1_countStrays_98 : decode cX1_countStrays 98 = .ok (.goto (-71), 3) := by decide +kernel
theorem dX1_countStrays_101 : decode cX1_countStrays 101 = .ok (.iload_n 1, 1) := by decide +kernel
theorem dX1_countStrays_102 : decode cX1_countStrays 102 = .ok (.ireturn, 1) := by decide +kernel
theorem dX2_init_0 : decode cX2_init 0 = .ok (.aload_n 0, 1) := by decide +kernel
theorem dX2_init_1 : decode cX2_init 1 = .ok (.invokespecial 1, 3) := by decide +kernel
theorem dX2_init_4 : decode cX2_init 4 = .ok (.return_, 1) := by decide +kernel
set_option maxRecDepth 20000 in
theorem ggX3_init_X1_init : GoodIn wsX3_init wsX1_init := goodIn_r _ [17, 4, 18, 19, 20, 21, 22, 23, 24, 25, 2, 3, 45, 46, 47, 48] (by decide +kernel) (by decide +kernel)
set_option maxRecDepth 20000 in
theorem gX3_init_X1_init_n15 : GoodIn wsX3_init (wsX1_init) := ggX3_init_X1_init
set_option maxRecDepth 20000 in
theorem ggX3_init_X0_init : GoodIn wsX3_init wsX0_init := goodIn_r _ [27, 4, 28, 29, 30, 31, 32, 33, 34, 35, 36, 37, 38, 39, 22, 23, 24, 25, 2, 3, 49, 50, 51, 52, 53, 54, 55, 56, 57, 58, 59, 60] (by decide +kernel) (by decide +kernel)
set_option maxRecDepth 20000 in
theorem gX3_init_X0_init_n22 : GoodIn wsX3_init (wsX0_init) := ggX3_init_X0_init
theorem dX3_init_0 : decode cX3_init 0 = .ok (.aload_n 0, 1) := by decide +kernel
theorem dX3_init_1 : decode cX3_init 1 = .ok (.invokespecial 3, 3) := by decide +kernel
theorem dX3_init_4 : decode cX3_init 4 = .ok (.aload_n 0, 1) := by decide +kernel
theorem dX3_init_5 : decode cX3_init 5 = .ok (.iconst 3, 1) := by decide +kernel
theorem dX3_init_6 : decode cX3_init 6 = .ok (.newarray .int, 2) := by decide +kernel
theorem dX3_init_8 : decode cX3_init 8 = .ok (.putfield 9, 3) := by decide +kernel
theorem dX3_init_11 : decode cX3_init 11 = .ok (.aload_n 0, 1) := by decide +kernel
theorem dX3_init_12 : decode cX3_init 12 = .ok (.new 13, 3) := by decide +kernel
theorem dX3_init_15 : decode cX3_init 15 = .ok (.dup, 1) := by decide +kernel
theorem dX3_init_16 : decode cX3_init 16 = .ok (.invokespecial 15, 3) := by decide +kernel
theorem dX3_init_19 : decode cX3_init 19 = .ok (.putfield 16, 3) := by decide +kernel
theorem dX3_init_22 : decode cX3_init 22 = .ok (.aload_n 0, 1) := by decide +kernel
theorem dX3_init_23 : decode cX3_init 23 = .ok (.new 20, 3) := by decide +kernel
theorem dX3_init_26 : decode cX3_init 26 = .ok (.dup, 1) := by decide +kernel
theorem dX3_init_27 : decode cX3_init 27 = .ok (.invokespecial 22, 3) := by decide +kernel
theorem dX3_init_30 : decode cX3_init 30 = .ok (.putfield 23, 3) := by decide +kernel
theorem dX3_init_33 : decode cX3_init 33 = .ok (.aload_n 0, 1) := by decide +kernel
theorem dX3_init_34 : decode cX3_init 34 = .ok (.new 20, 3) := by decide +kernel
theorem dX3_init_37 : decode cX3_init 37 = .ok (.dup, 1) := by decide +kernel
theorem dX3_init_38 : decode cX3_init 38 = .ok (.invokespecial 22, 3) := by decide +kernel
theorem dX3_init_41 : decode cX3_init 41 = .ok (.putfield 27, 3) := by decide +kernel
theorem dX3_init_44 : decode cX3_init 44 = .ok (.aload_n 0, 1) := by decide +kernel
theorem dX3_init_45 : decode cX3_init 45 = .ok (.aconst_null, 1) := by decide +kernel
theorem dX3_init_46 : decode cX3_init 46 = .ok (.putfield 30, 3) := by decide +kernel
theorem dX3_init_49 : decode cX3_init 49 = .ok (.return_, 1) := by decide +kernel
set_option maxRecDepth 20000 in
theorem ggX3_place_X3_isPlace : GoodIn wsX3_place wsX3_isPlace := goodIn_r _ [5, 6, 7, 4, 8] (by decide +kernel) (by decide +kernel)
set_option maxRecDepth 20000 in
theorem gX3_place_X3_isPlace : GoodIn wsX3_place (va_wsS RX3 34 yX3_isPlace wsX3_isPlace) := goodIn_app (goodIn_of _ (by decide +kernel)) ggX3_place_X3_isPlace
set_option maxRecDepth 20000 in
theorem ggX3_place_X3_standAt : GoodIn wsX3_place wsX3_standAt := goodIn_r _ [12, 13, 14, 15, 16, 17, 18] (by decide +kernel) (by decide +kernel)
set_option maxRecDepth 20000 in
theorem gX3_place_X3_standAt : GoodIn wsX3_place (wsV RX3 38 RX3 yX3_standAt wsX3_standAt) := goodIn_app (goodIn_of _ (by decide +kernel)) ggX3_place_X3_standAt
theorem dX3_place_0 : decode cX3_place 0 = .ok (.iload_n 1, 1) := by decide +kernel
theorem dX3_place_1 : decode cX3_place 1 = .ok (.iload_n 2, 1) := by decide +kernel
theorem dX3_place_2 : decode cX3_place 2 = .ok (.iload_n 3, 1) := by decide +kernel
theorem dX3_place_3 : decode cX3_place 3 = .ok (.invokestatic 34, 3) := by decide +kernel
theorem dX3_place_6 : decode cX3_place 6 = .ok (.ifCond .ne 5, 3) := by decide +kernel
theorem dX3_place_9 : decode cX3_place 9 = .ok (.iconst 0, 1) := by decide +kernel
theorem dX3_place_10 : decode cX3_place 10 = .ok (.ireturn, 1) := by decide +kernel
theorem dX3_place_11 : decode cX3_place 11 = .ok (.aload_n 0, 1) := by decide +kernel
theorem dX3_place_12 : decode cX3_place 12 = .ok (.iload_n 1, 1) := by decide +kernel
theorem dX3_place_13 : decode cX3_place 13 = .ok (.iload_n 2, 1) := by decide +kernel
theorem dX3_place_14 : decode cX3_place 14 = .ok (.iload_n 3, 1) := by decide +kernel
theorem dX3_place_15 : decode cX3_place 15 = .ok (.invokevirtual 38, 3) := by decide +kernel
theorem dX3_place_18 : decode cX3_place 18 = .ok (.aload_n 0, 1) := by decide +kernel
theorem dX3_place_19 : decode cX3_place 19 = .ok (.aconst_null, 1) := by decide +kernel
theorem dX3_place_20 : decode cX3_place 20 = .ok (.putfield 30, 3) := by decide +kernel
theorem dX3_place_23 : decode cX3_place 23 = .ok (.iconst 1, 1) := by decide +kernel
theorem dX3_place_24 : decode cX3_place 24 = .ok (.ireturn, 1) := by decide +kernel
set_option maxRecDepth 20000 in
theorem ggX3_line_X3_isPlace : GoodIn wsX3_line wsX3_isPlace := goodIn_r _ [7, 8, 9, 6, 10] (by decide +kernel) (by decide +kernel)
set_option maxRecDepth 20000 in
theorem gX3_line_X3_isPlace : GoodIn wsX3_line (va_wsS RX3 34 yX3_isPlace wsX3_isPlace) := goodIn_app (goodIn_of _ (by decide +kernel)) ggX3_line_X3_isPlace
set_option maxRecDepth 20000 in
theorem ggX3_line_X1_walk : GoodIn wsX3_line wsX1_walk := goodIn_r _ [15, 16, 17, 18, 19, 20, 6, 21, 22, 23, 24, 25, 26, 27, 28, 42, 43, 44, 45] (by decide +kernel) (by decide +kernel)
set_option maxRecDepth 20000 in
theorem gX3_line_X1_walk : GoodIn wsX3_line (wsV RX3 42 RX1 yX1_walk wsX1_walk) := goodIn_app (goodIn_of _ (by decide +kernel)) ggX3_line_X1_walk
set_option maxRecDepth 20000 in
theorem ggX3_line_X3_standAt : GoodIn wsX3_line wsX3_standAt := goodIn_r _ [32, 2, 37, 38, 39, 40, 41] (by decide +kernel) (by decide +kernel)
set_option maxRecDepth 20000 in
theorem gX3_line_X3_standAt : GoodIn wsX3_line (wsV RX3 38 RX3 yX3_standAt wsX3_standAt) := goodIn_app (goodIn_of _ (by decide +kernel)) ggX3_line_X3_standAt
set_option maxRecDepth 20000 in
theorem ggX3_line_X1_length : GoodIn wsX3_line wsX1_length := goodIn_r _ [36, 18, 42, 43, 44, 45] (by decide +kernel) (by decide +kernel)
set_option maxRecDepth 20000 in
theorem gX3_line_X1_length : GoodIn wsX3_line (wsV RX3 46 RX1 yX1_length wsX1_length) := goodIn_app (goodIn_of _ (by decide +kernel)) ggX3_line_X1_length
theorem dX3_line_0 : decode cX3_line 0 = .ok (.iload_n 1, 1) := by decide +kernel
theorem dX3_line_1 : decode cX3_line 1 = .ok (.iload_n 2, 1) := by decide +kernel
theorem dX3_line_2 : decode cX3_line 2 = .ok (.iload_n 3, 1) := by decide +kernel
theorem dX3_line_3 : decode cX3_line 3 = .ok (.invokestatic 34, 3) := by decide +kernel
theorem dX3_line_6 : decode cX3_line 6 = .ok (.ifCond .ne 5, 3) := by decide +kernel
theorem dX3_line_9 : decode cX3_line 9 = .ok (.iconst (-1), 1) := by decide +kernel
theorem dX3_line_10 : decode cX3_line 10 = .ok (.ireturn, 1) := by decide +kernel
theorem dX3_line_11 : decode cX3_line 11 = .ok (.aload_n 0, 1) := by decide +kernel
theorem dX3_line_12 : decode cX3_line 12 = .ok (.getfield 16, 3) := by decide +kernel
theorem dX3_line_15 : decode cX3_line 15 = .ok (.aload_n 0, 1) := by decide +kernel
theorem dX3_line_16 : decode cX3_line 16 = .ok (.getfield 9, 3) := by decide +kernel
theorem dX3_line_19 : decode cX3_line 19 = .ok (.iload_n 1, 1) := by decide +kernel
theorem dX3_line_20 : decode cX3_line 20 = .ok (.iload_n 2, 1) := by decide +kernel
theorem dX3_line_21 : decode cX3_line 21 = .ok (.iload_n 3, 1) := by decide +kernel
theorem dX3_line_22 : decode cX3_line 22 = .ok (.invokevirtual 42, 3) := by decide +kernel
theorem dX3_line_25 : decode cX3_line 25 = .ok (.aload_n 0, 1) := by decide +kernel
theorem dX3_line_26 : decode cX3_line 26 = .ok (.aload_n 0, 1) := by decide +kernel
theorem dX3_line_27 : decode cX3_line 27 = .ok (.getfield 16, 3) := by decide +kernel
theorem dX3_line_30 : decode cX3_line 30 = .ok (.putfield 30, 3) := by decide +kernel
theorem dX3_line_33 : decode cX3_line 33 = .ok (.aload_n 0, 1) := by decide +kernel
theorem dX3_line_34 : decode cX3_line 34 = .ok (.iload_n 1, 1) := by decide +kernel
theorem dX3_line_35 : decode cX3_line 35 = .ok (.iload_n 2, 1) := by decide +kernel
theorem dX3_line_36 : decode cX3_line 36 = .ok (.iload_n 3, 1) := by decide +kernel
theorem dX3_line_37 : decode cX3_line 37 = .ok (.invokevirtual 38, 3) := by decide +kernel
theorem dX3_line_40 : decode cX3_line 40 = .ok (.aload_n 0, 1) := by decide +kernel
theorem dX3_line_41 : decode cX3_line 41 = .ok (.getfield 16, 3) := by decide +kernel
theorem dX3_line_44 : decode cX3_line 44 = .ok (.invokevirtual 46, 3) := by decide +kernel
theorem dX3_line_47 : decode cX3_line 47 = .ok (.ireturn, 1) := by decide +kernel
set_option maxRecDepth 20000 in
theorem ggX3_arc_X3_isPlace : GoodIn wsX3_arc wsX3_isPlace := goodIn_r _ [9, 10, 11, 8, 12] (by decide +kernel) (by decide +kernel)
set_option maxRecDepth 20000 in
theorem gX3_arc_X3_isPlace : GoodIn wsX3_arc (va_wsS RX3 34 yX3_isPlace wsX3_isPlace) := goodIn_app (goodIn_of _ (by decide +kernel)) ggX3_arc_X3_isPlace
set_option maxRecDepth 20000 in
theorem ggX3_arc_X3_isWithin : GoodIn wsX3_arc wsX3_isWithin := goodIn_r _ [12] (by decide +kernel) (by decide +kernel)
set_option maxRecDepth 20000 in
theorem gX3_arc_X3_isWithin : GoodIn wsX3_arc (va_wsS RX3 51 yX3_isWithin wsX3_isWithin) := goodIn_app (goodIn_of _ (by decide +kernel)) ggX3_arc_X3_isWithin
set_option maxRecDepth 20000 in
theorem ggX3_arc_X0_begin : GoodIn wsX3_arc wsX0_begin := goodIn_r _ [17, 18, 19, 20, 21, 22, 23, 24, 25, 26, 27, 28, 29, 30, 16, 31, 32, 33, 34, 35, 36, 37, 81, 82, 83, 84, 85, 86, 87, 88, 89, 90, 91, 92] (by decide +kernel) (by decide +kernel)
set_option maxRecDepth 20000 in
theorem gX3_arc_X0_begin : GoodIn wsX3_arc (wsV RX3 55 RX0 yX0_begin wsX0_begin) := goodIn_app (goodIn_of _ (by decide +kernel)) ggX3_arc_X0_begin
set_option maxRecDepth 20000 in
theorem ggX3_arc_X0_walk : GoodIn wsX3_arc wsX0_walk := goodIn_r _ [41, 24, 42, 43, 18, 19, 25, 36, 37, 44, 45, 46, 16, 47, 21, 22, 23, 48, 49, 50, 51, 32, 33, 34, 35, 52, 53, 54, 55, 26, 56, 57, 58, 27, 28, 29, 30, 31, 59, 8, 60, 61, 62, 63, 64, 65, 66, 67, 81, 82, 83, 84, 85, 86, 87, 88, 89, 90, 91, 92] (by decide +kernel) (by decide +kernel)
set_option maxRecDepth 20000 in
theorem gX3_arc_X0_walk : GoodIn wsX3_arc (wsV RX3 59 RX0 yX0_walk wsX0_walk) := goodIn_app (goodIn_of _ (by decide +kernel)) ggX3_arc_X0_walk
set_option maxRecDepth 20000 in
theorem ggX3_arc_X3_standAt : GoodIn wsX3_arc wsX3_standAt := goodIn_r _ [71, 1, 76, 77, 78, 79, 80] (by decide +kernel) (by decide +kernel)
set_option maxRecDepth 20000 in
theorem gX3_arc_X3_standAt : GoodIn wsX3_arc (wsV RX3 38 RX3 yX3_standAt wsX3_standAt) := goodIn_app (goodIn_of _ (by decide +kernel)) ggX3_arc_X3_standAt
set_option maxRecDepth 20000 in
theorem ggX3_arc_X0_length : GoodIn wsX3_arc wsX0_length := goodIn_r _ [75, 25, 81, 82, 83, 84, 85, 86, 87, 88, 89, 90, 91, 92] (by decide +kernel) (by decide +kernel)
set_option maxRecDepth 20000 in
theorem gX3_arc_X0_length : GoodIn wsX3_arc (wsV RX3 61 RX0 yX0_length wsX0_length) := goodIn_app (goodIn_of _ (by decide +kernel)) ggX3_arc_X0_length
theorem dX3_arc_0 : decode cX3_arc 0 = .ok (.iload_n 1, 1) := by decide +kernel
theorem dX3_arc_1 : decode cX3_arc 1 = .ok (.iload_n 2, 1) := by decide +kernel
theorem dX3_arc_2 : decode cX3_arc 2 = .ok (.aload_n 0, 1) := by decide +kernel
theorem dX3_arc_3 : decode cX3_arc 3 = .ok (.getfield 9, 3) := by decide +kernel
theorem dX3_arc_6 : decode cX3_arc 6 = .ok (.iconst 2, 1) := by decide +kernel
theorem dX3_arc_7 : decode cX3_arc 7 = .ok (.iaload, 1) := by decide +kernel
theorem dX3_arc_8 : decode cX3_arc 8 = .ok (.invokestatic 34, 3) := by decide +kernel
theorem dX3_arc_11 : decode cX3_arc 11 = .ok (.ifCond .eq 22, 3) := by decide +kernel
theorem dX3_arc_14 : decode cX3_arc 14 = .ok (.iload_n 3, 1) := by decide +kernel
theorem dX3_arc_15 : decode cX3_arc 15 = .ok (.ldc 50, 2) := by decide +kernel
theorem dX3_arc_17 : decode cX3_arc 17 = .ok (.invokestatic 51, 3) := by decide +kernel
theorem dX3_arc_20 : decode cX3_arc 20 = .ok (.ifCond .eq 13, 3) := by decide +kernel
theorem dX3_arc_23 : decode cX3_arc 23 = .ok (.iload 4, 2) := by decide +kernel
theorem dX3_arc_25 : decode cX3_arc 25 = .ok (.ldc 50, 2) := by decide +kernel
theorem dX3_arc_27 : decode cX3_arc 27 = .ok (.invokestatic 51, 3) := by decide +kernel
theorem dX3_arc_30 : decode cX3_arc 30 = .ok (.ifCond .ne 5, 3) := by decide +kernel
theorem dX3_arc_33 : decode cX3_arc 33 = .ok (.iconst (-1), 1) := by decide +kernel
theorem dX3_arc_34 : decode cX3_arc 34 = .ok (.ireturn, 1) := by decide +kernel
theorem dX3_arc_35 : decode cX3_arc 35 = .ok (.aload_n 0, 1) := by decide +kernel
theorem dX3_arc_36 : decode cX3_arc 36 = .ok (.getfield 27, 3) := by decide +kernel
theorem dX3_arc_39 : decode cX3_arc 39 = .ok (.aload_n 0, 1) := by decide +kernel
theorem dX3_arc_40 : decode cX3_arc 40 = .ok (.getfield 9, 3) := by decide +kernel
theorem dX3_arc_43 : decode cX3_arc 43 = .ok (.iload_n 3, 1) := by decide +kernel
theorem dX3_arc_44 : decode cX3_arc 44 = .ok (.iload 4, 2) := by decide +kernel
theorem dX3_arc_46 : decode cX3_arc 46 = .ok (.iload 5, 2) := by decide +kernel
theorem dX3_arc_48 : decode cX3_arc 48 = .ok (.invokevirtual 55, 3) := by decide +kernel
theorem dX3_arc_51 : decode cX3_arc 51 = .ok (.aload_n 0, 1) := by decide +kernel
theorem dX3_arc_52 : decode cX3_arc 52 = .ok (.getfield 27, 3) := by decide +kernel
theorem dX3_arc_55 : decode cX3_arc 55 = .ok (.iload_n 1, 1) := by decide +kernel
theorem dX3_arc_56 : decode cX3_arc 56 = .ok (.iload_n 2, 1) := by decide +kernel
theorem dX3_arc_57 : decode cX3_arc 57 = .ok (.invokevirtual 59, 3) := by decide +kernel
theorem dX3_arc_60 : decode cX3_arc 60 = .ok (.ifCond .ne 5, 3) := by decide +kernel
theorem dX3_arc_63 : decode cX3_arc 63 = .ok (.iconst (-1), 1) := by decide +kernel
theorem dX3_arc_64 : decode cX3_arc 64 = .ok (.ireturn, 1) := by decide +kernel
theorem dX3_arc_65 : decode cX3_arc 65 = .ok (.aload_n 0, 1) := by decide +kernel
theorem dX3_arc_66 : decode cX3_arc 66 = .ok (.getfield 27, 3) := by decide +kernel
theorem dX3_arc_69 : decode cX3_arc 69 = .ok (.astore 6, 2) := by decide +kernel
theorem dX3_arc_71 : decode cX3_arc 71 = .ok (.aload_n 0, 1) := by decide +kernel
theorem dX3_arc_72 : decode cX3_arc 72 = .ok (.aload_n 0, 1) := by decide +kernel
theorem dX3_arc_73 : decode cX3_arc 73 = .ok (.getfield 23, 3) := by decide +kernel
theorem dX3_arc_76 : decode cX3_arc 76 = .ok (.putfield 27, 3) := by decide +kernel
theorem dX3_arc_79 : decode cX3_arc 79 = .ok (.aload_n 0, 1) := by decide +kernel
theorem dX3_arc_80 : decode cX3_arc 80 = .ok (.aload 6, 2) := by decide +kernel
theorem dX3_arc_82 : decode cX3_arc 82 = .ok (.putfield 23, 3) := by decide +kernel
theorem dX3_arc_85 : decode cX3_arc 85 = .ok (.aload_n 0, 1) := by decide +kernel
theorem dX3_arc_86 : decode cX3_arc 86 = .ok (.aload 6, 2) := by decide +kernel
theorem dX3_arc_88 : decode cX3_arc 88 = .ok (.putfield 30, 3) := by decide +kernel
theorem dX3_arc_91 : decode cX3_arc 91 = .ok (.aload_n 0, 1) := by decide +kernel
theorem dX3_arc_92 : decode cX3_arc 92 = .ok (.iload_n 1, 1) := by decide +kernel
theorem dX3_arc_93 : decode cX3_arc 93 = .ok (.iload_n 2, 1) := by decide +kernel
theorem dX3_arc_94 : decode cX3_arc 94 = .ok (.aload_n 0, 1) := by decide +kernel
theorem dX3_arc_95 : decode cX3_arc 95 = .ok (.getfield 9, 3) := by decide +kernel
theorem dX3_arc_98 : decode cX3_arc 98 = .ok (.iconst 2, 1) := by decide +kernel
theorem dX3_arc_99 : decode cX3_arc 99 = .ok (.iaload, 1) := by decide +kernel
theorem dX3_arc_100 : decode cX3_arc 100 = .ok (.invokevirtual 38, 3) := by decide +kernel
theorem dX3_arc_103 : decode cX3_arc 103 = .ok (.aload 6, 2) := by decide +kernel
theorem dX3_arc_105 : decode cX3_arc 105 = .ok (.invokevirtual 61, 3) := by decide +kernel
theorem dX3_arc_108 : decode cX3_arc 108 = .ok (.ireturn, 1) := by decide +kernel
set_option maxRecDepth 20000 in
theorem ggX3_tick_X3_isAxis : GoodIn wsX3_tick wsX3_isAxis := goodIn_r _ [5] (by decide +kernel) (by decide +kernel)
set_option maxRecDepth 20000 in
theorem gX3_tick_X3_isAxis : GoodIn wsX3_tick (va_wsS RX3 62 yX3_isAxis wsX3_isAxis) := goodIn_app (goodIn_of _ (by decide +kernel)) ggX3_tick_X3_isAxis
set_option maxRecDepth 20000 in
theorem ggX3_tick_X0_length : GoodIn wsX3_tick wsX0_length := goodIn_r _ [11, 12, 59, 60, 61, 62, 63, 64, 65, 66, 67, 68, 69, 70] (by decide +kernel) (by decide +kernel)
set_option maxRecDepth 20000 in
theorem gX3_tick_X0_length_u66X0 : GoodIn wsX3_tick (va_wsU RX3 66 RX0 "TickWalks$Walk" ⟨"TickWalks$Walk", "length", "()I"⟩ yX0_length wsX0_length) := goodIn_app (goodIn_of _ (by decide +kernel)) ggX3_tick_X0_length
set_option maxRecDepth 20000 in
theorem ggX3_tick_X1_length : GoodIn wsX3_tick wsX1_length := goodIn_r _ [16, 17, 71, 72, 73, 74] (by decide +kernel) (by decide +kernel)
set_option maxRecDepth 20000 in
theorem gX3_tick_X1_length_u66X1 : GoodIn wsX3_tick (va_wsU RX3 66 RX1 "TickWalks$Walk" ⟨"TickWalks$Walk", "length", "()I"⟩ yX1_length wsX1_length) := goodIn_app (goodIn_of _ (by decide +kernel)) ggX3_tick_X1_length
set_option maxRecDepth 20000 in
theorem ggX3_tick_X0_placeBehind : GoodIn wsX3_tick wsX0_placeBehind := goodIn_r _ [22, 23, 24, 25, 26, 27, 28, 10, 29, 30, 31, 32, 33, 34, 35, 36, 37, 38, 39, 40, 41, 42, 43, 59, 60, 61, 62, 63, 64, 65, 66, 67, 68, 69, 70] (by decide +kernel) (by decide +kernel)
set_option maxRecDepth 20000 in
theorem gX3_tick_X0_placeBehind_u69X0 : GoodIn wsX3_tick (va_wsU RX3 69 RX0 "TickWalks$Walk" ⟨"TickWalks$Walk", "placeBehind", "(II)I"⟩ yX0_placeBehind wsX0_placeBehind) := goodIn_app (goodIn_of _ (by decide +kernel)) ggX3_tick_X0_placeBehind
set_option maxRecDepth 20000 in
theorem ggX3_tick_X1_placeBehind : GoodIn wsX3_tick wsX1_placeBehind := goodIn_r _ [46, 17, 47, 48, 49, 50, 51, 52, 53, 71, 72, 73, 74] (by decide +kernel) (by decide +kernel)
set_option maxRecDepth 20000 in
theorem gX3_tick_X1_placeBehind_u69X1 : GoodIn wsX3_tick (va_wsU RX3 69 RX1 "TickWalks$Walk" ⟨"TickWalks$Walk", "placeBehind", "(II)I"⟩ yX1_placeBehind wsX1_placeBehind) := goodIn_app (goodIn_of _ (by decide +kernel)) ggX3_tick_X1_placeBehind
theorem dX3_tick_0 : decode cX3_tick 0 = .ok (.aload_n 0, 1) := by decide +kernel
theorem dX3_tick_1 : decode cX3_tick 1 = .ok (.getfield 30, 3) := by decide +kernel
theorem dX3_tick_4 : decode cX3_tick 4 = .ok (.ifnull 25, 3) := by decide +kernel
theorem dX3_tick_7 : decode cX3_tick 7 = .ok (.iload_n 2, 1) := by decide +kernel
theorem dX3_tick_8 : decode cX3_tick 8 = .ok (.invokestatic 62, 3) := by decide +kernel
theorem dX3_tick_11 : decode cX3_tick 11 = .ok (.ifCond .eq 18, 3) := by decide +kernel
theorem dX3_tick_14 : decode cX3_tick 14 = .ok (.iload_n 1, 1) := by decide +kernel
theorem dX3_tick_15 : decode cX3_tick 15 = .ok (.ifCond .lt 14, 3) := by decide +kernel
theorem dX3_tick_18 : decode cX3_tick 18 = .ok (.iload_n 1, 1) := by decide +kernel
theorem dX3_tick_19 : decode cX3_tick 19 = .ok (.aload_n 0, 1) := by decide +kernel
theorem dX3_tick_20 : decode cX3_tick 20 = .ok (.getfield 30, 3) := by decide +kernel
theorem dX3_tick_23 : decode cX3_tick 23 = .ok (.invokevirtual 66, 3) := by decide +kernel
theorem dX3_tick_26 : decode cX3_tick 26 = .ok (.if_icmp .le 5, 3) := by decide +kernel
theorem dX3_tick_29 : decode cX3_tick 29 = .ok (.iconst 0, 1) := by decide +kernel
theorem dX3_tick_30 : decode cX3_tick 30 = .ok (.ireturn, 1) := by decide +kernel
theorem dX3_tick_31 : decode cX3_tick 31 = .ok (.aload_n 0, 1) := by decide +kernel
theorem dX3_tick_32 : decode cX3_tick 32 = .ok (.getfield 30, 3) := by decide +kernel
theorem dX3_tick_35 : decode cX3_tick 35 = .ok (.iload_n 1, 1) := by decide +kernel
theorem dX3_tick_36 : decode cX3_tick 36 = .ok (.iload_n 2, 1) := by decide +kernel
theorem dX3_tick_37 : decode cX3_tick 37 = .ok (.invokevirtual 69, 3) := by decide +kernel
theorem dX3_tick_40 : decode cX3_tick 40 = .ok (.ireturn, 1) := by decide +kernel
set_option maxRecDepth 20000 in
theorem ggX3_ticks_X0_length : GoodIn wsX3_ticks wsX0_length := goodIn_r _ [7, 8, 19, 20, 21, 22, 23, 24, 25, 26, 27, 28, 29, 30] (by decide +kernel) (by decide +kernel)
set_option maxRecDepth 20000 in
theorem gX3_ticks_X0_length_u66X0 : GoodIn wsX3_ticks (va_wsU RX3 66 RX0 "TickWalks$Walk" ⟨"TickWalks$Walk", "length", "()I"⟩ yX0_length wsX0_length) := goodIn_app (goodIn_of _ (by decide +kernel)) ggX3_ticks_X0_length
set_option maxRecDepth 20000 in
theorem ggX3_ticks_X1_length : GoodIn wsX3_ticks wsX1_length := goodIn_r _ [12, 13, 31, 32, 33, 34] (by decide +kernel) (by decide +kernel)
set_option maxRecDepth 20000 in
theorem gX3_ticks_X1_length_u66X1 : GoodIn wsX3_ticks (va_wsU RX3 66 RX1 "TickWalks$Walk" ⟨"TickWalks$Walk", "length", "()I"⟩ yX1_length wsX1_length) := goodIn_app (goodIn_of _ (by decide +kernel)) ggX3_ticks_X1_length
theorem dX3_ticks_0 : decode cX3_ticks 0 = .ok (.aload_n 0, 1) := by decide +kernel
theorem dX3_ticks_1 : decode cX3_ticks 1 = .ok (.getfield 30, 3) := by decide +kernel
theorem dX3_ticks_4 : decode cX3_ticks 4 = .ok (.ifnonnull 7, 3) := by decide +kernel
theorem dX3_ticks_7 : decode cX3_ticks 7 = .ok (.iconst 0, 1) := by decide +kernel
theorem dX3_ticks_8 : decode cX3_ticks 8 = .ok (.goto 10, 3) := by decide +kernel
theorem dX3_ticks_11 : decode cX3_ticks 11 = .ok (.aload_n 0, 1) := by decide +kernel
theorem dX3_ticks_12 : decode cX3_ticks 12 = .ok (.getfield 30, 3) := by decide +kernel
theorem dX3_ticks_15 : decode cX3_ticks 15 = .ok (.invokevirtual 66, 3) := by decide +kernel
theorem dX3_ticks_18 : decode cX3_ticks 18 = .ok (.ireturn, 1) := by decide +kernel
set_option maxRecDepth 20000 in
theorem ggX3_at_X3_isAxis : GoodIn wsX3_at wsX3_isAxis := goodIn_r _ [5] (by decide +kernel) (by decide +kernel)
set_option maxRecDepth 20000 in
theorem gX3_at_X3_isAxis : GoodIn wsX3_at (va_wsS RX3 62 yX3_isAxis wsX3_isAxis) := goodIn_app (goodIn_of _ (by decide +kernel)) ggX3_at_X3_isAxis
theorem dX3_at_0 : decode cX3_at 0 = .ok (.iload_n 1, 1) := by decide +kernel
theorem dX3_at_1 : decode cX3_at 1 = .ok (.invokestatic 62, 3) := by decide +kernel
theorem dX3_at_4 : decode cX3_at 4 = .ok (.ifCond .eq 12, 3) := by decide +kernel
theorem dX3_at_7 : decode cX3_at 7 = .ok (.aload_n 0, 1) := by decide +kernel
theorem dX3_at_8 : decode cX3_at 8 = .ok (.getfield 9, 3) := by decide +kernel
theorem dX3_at_11 : decode cX3_at 11 = .ok (.iload_n 1, 1) := by decide +kernel
theorem dX3_at_12 : decode cX3_at 12 = .ok (.iaload, 1) := by decide +kernel
theorem dX3_at_13 : decode cX3_at 13 = .ok (.goto 4, 3) := by decide +kernel
theorem dX3_at_16 : decode cX3_at 16 = .ok (.iconst 0, 1) := by decide +kernel
theorem dX3_at_17 : decode cX3_at 17 = .ok (.ireturn, 1) := by decide +kernel
set_option maxRecDepth 20000 in
theorem ggX3_off_X0_greatestOff : GoodIn wsX3_off wsX0_greatestOff := goodIn_r _ [7, 8, 18, 19, 20, 21, 22, 23, 24, 25, 26, 27, 28, 29] (by decide +kernel) (by decide +kernel)
set_option maxRecDepth 20000 in
theorem gX3_off_X0_greatestOff_u73X0 : GoodIn wsX3_off (va_wsU RX3 73 RX0 "TickWalks$Walk" ⟨"TickWalks$Walk", "greatestOff", "()I"⟩ yX0_greatestOff wsX0_greatestOff) := goodIn_app (goodIn_of _ (by decide +kernel)) ggX3_off_X0_greatestOff
set_option maxRecDepth 20000 in
theorem ggX3_off_X1_greatestOff : GoodIn wsX3_off wsX1_greatestOff := goodIn_r _ [12] (by decide +kernel) (by decide +kernel)
set_option maxRecDepth 20000 in
theorem gX3_off_X1_greatestOff_u73X1 : GoodIn wsX3_off (va_wsU RX3 73 RX1 "TickWalks$Walk" ⟨"TickWalks$Walk", "greatestOff", "()I"⟩ yX1_greatestOff wsX1_greatestOff) := goodIn_app (goodIn_of _ (by decide +kernel)) ggX3_off_X1_greatestOff
theorem dX3_off_0 : decode cX3_off 0 = .ok (.aload_n 0, 1) := by decide +kernel
theorem dX3_off_1 : decode cX3_off 1 = .ok (.getfield 30, 3) := by decide +kernel
theorem dX3_off_4 : decode cX3_off 4 = .ok (.ifnonnull 7, 3) := by decide +kernel
theorem dX3_off_7 : decode cX3_off 7 = .ok (.iconst 0, 1) := by decide +kernel
theorem dX3_off_8 : decode cX3_off 8 = .ok (.goto 10, 3) := by decide +kernel
theorem dX3_off_11 : decode cX3_off 11 = .ok (.aload_n 0, 1) := by decide +kernel
theorem dX3_off_12 : decode cX3_off 12 = .ok (.getfield 30, 3) := by decide +kernel
theorem dX3_off_15 : decode cX3_off 15 = .ok (.invokevirtual 73, 3) := by decide +kernel
theorem dX3_off_18 : decode cX3_off 18 = .ok (.ireturn, 1) := by decide +kernel
set_option maxRecDepth 20000 in
theorem ggX3_strays_X0_strayTicks : GoodIn wsX3_strays wsX0_strayTicks := goodIn_r _ [7, 8, 48, 49, 50, 51, 52, 53, 54, 55, 56, 57, 58, 59] (by decide +kernel) (by decide +kernel)
set_option maxRecDepth 20000 in
theorem gX3_strays_X0_strayTicks_u76X0 : GoodIn wsX3_strays (va_wsU RX3 76 RX0 "TickWalks$Walk" ⟨"TickWalks$Walk", "strayTicks", "()I"⟩ yX0_strayTicks wsX0_strayTicks) := goodIn_app (goodIn_of _ (by decide +kernel)) ggX3_strays_X0_strayTicks
set_option maxRecDepth 20000 in
theorem ggX3_strays_X1_strayTicks : GoodIn wsX3_strays wsX1_strayTicks := goodIn_r _ [12, 13, 14, 15, 16, 11, 17, 18, 19, 20, 21, 22, 23, 24, 25, 26, 27, 28, 29, 30, 31, 32, 33, 34, 35, 36, 37, 38, 39, 40, 41, 42, 60, 61, 62, 63] (by decide +kernel) (by decide +kernel)
set_option maxRecDepth 20000 in
theorem gX3_strays_X1_strayTicks_u76X1 : GoodIn wsX3_strays (va_wsU RX3 76 RX1 "TickWalks$Walk" ⟨"TickWalks$Walk", "strayTicks", "()I"⟩ yX1_strayTicks wsX1_strayTicks) := goodIn_app (goodIn_of _ (by decide +kernel)) ggX3_strays_X1_strayTicks
theorem dX3_strays_0 : decode cX3_strays 0 = .ok (.aload_n 0, 1) := by decide +kernel
theorem dX3_strays_1 : decode cX3_strays 1 = .ok (.getfield 30, 3) := by decide +kernel
theorem dX3_strays_4 : decode cX3_strays 4 = .ok (.ifnonnull 7, 3) := by decide +kernel
theorem dX3_strays_7 : decode cX3_strays 7 = .ok (.iconst 0, 1) := by decide +kernel
theorem dX3_strays_8 : decode cX3_strays 8 = .ok (.goto 10, 3) := by decide +kernel
theorem dX3_strays_11 : decode cX3_strays 11 = .ok (.aload_n 0, 1) := by decide +kernel
theorem dX3_strays_12 : decode cX3_strays 12 = .ok (.getfield 30, 3) := by decide +kernel
theorem dX3_strays_15 : decode cX3_strays 15 = .ok (.invokevirtual 76, 3) := by decide +kernel
theorem dX3_strays_18 : decode cX3_strays 18 = .ok (.ireturn, 1) := by decide +kernel
theorem dX3_standAt_0 : decode cX3_standAt 0 = .ok (.aload_n 0, 1) := by decide +kernel
theorem dX3_standAt_1 : decode cX3_standAt 1 = .ok (.getfield 9, 3) := by decide +kernel
theorem dX3_standAt_4 : decode cX3_standAt 4 = .ok (.iconst 0, 1) := by decide +kernel
theorem dX3_standAt_5 : decode cX3_standAt 5 = .ok (.iload_n 1, 1) := by decide +kernel
theorem dX3_standAt_6 : decode cX3_standAt 6 = .ok (.iastore, 1) := by decide +kernel
theorem dX3_standAt_7 : decode cX3_standAt 7 = .ok (.aload_n 0, 1) := by decide +kernel
theorem dX3_standAt_8 : decode cX3_standAt 8 = .ok (.getfield 9, 3) := by decide +kernel
theorem dX3_standAt_11 : decode cX3_standAt 11 = .ok (.iconst 1, 1) := by decide +kernel
theorem dX3_standAt_12 : decode cX3_standAt 12 = .ok (.iload_n 2, 1) := by decide +kernel
theorem dX3_standAt_13 : decode cX3_standAt 13 = .ok (.iastore, 1) := by decide +kernel
theorem dX3_standAt_14 : decode cX3_standAt 14 = .ok (.aload_n 0, 1) := by decide +kernel
theorem dX3_standAt_15 : decode cX3_standAt 15 = .ok (.getfield 9, 3) := by decide +kernel
theorem dX3_standAt_18 : decode cX3_standAt 18 = .ok (.iconst 2, 1) := by decide +kernel
theorem dX3_standAt_19 : decode cX3_standAt 19 = .ok (.iload_n 3, 1) := by decide +kernel
theorem dX3_standAt_20 : decode cX3_standAt 20 = .ok (.iastore, 1) := by decide +kernel
theorem dX3_standAt_21 : decode cX3_standAt 21 = .ok (.return_, 1) := by decide +kernel
theorem dX3_isAxis_0 : decode cX3_isAxis 0 = .ok (.iload_n 0, 1) := by decide +kernel
theorem dX3_isAxis_1 : decode cX3_isAxis 1 = .ok (.ifCond .lt 12, 3) := by decide +kernel
theorem dX3_isAxis_4 : decode cX3_isAxis 4 = .ok (.iload_n 0, 1) := by decide +kernel
theorem dX3_isAxis_5 : decode cX3_isAxis 5 = .ok (.iconst 3, 1) := by decide +kernel
theorem dX3_isAxis_6 : decode cX3_isAxis 6 = .ok (.if_icmp .ge 7, 3) := by decide +kernel
theorem dX3_isAxis_9 : decode cX3_isAxis 9 = .ok (.iconst 1, 1) := by decide +kernel
theorem dX3_isAxis_10 : decode cX3_isAxis 10 = .ok (.goto 4, 3) := by decide +kernel
theorem dX3_isAxis_13 : decode cX3_isAxis 13 = .ok (.iconst 0, 1) := by decide +kernel
theorem dX3_isAxis_14 : decode cX3_isAxis 14 = .ok (.ireturn, 1) := by decide +kernel
set_option maxRecDepth 20000 in
theorem ggX3_isPlace_X3_isWithin : GoodIn wsX3_isPlace wsX3_isWithin := goodIn_r _ [4] (by decide +kernel) (by decide +kernel)
set_option maxRecDepth 20000 in
theorem gX3_isPlace_X3_isWithin : GoodIn wsX3_isPlace (va_wsS RX3 51 yX3_isWithin wsX3_isWithin) := goodIn_app (goodIn_of _ (by decide +kernel)) ggX3_isPlace_X3_isWithin
theorem dX3_isPlace_0 : decode cX3_isPlace 0 = .ok (.iload_n 0, 1) := by decide +kernel
theorem dX3_isPlace_1 : decode cX3_isPlace 1 = .ok (.sipush 30000, 3) := by decide +kernel
theorem dX3_isPlace_4 : decode cX3_isPlace 4 = .ok (.invokestatic 51, 3) := by decide +kernel
theorem dX3_isPlace_7 : decode cX3_isPlace 7 = .ok (.ifCond .eq 27, 3) := by decide +kernel
theorem dX3_isPlace_10 : decode cX3_isPlace 10 = .ok (.iload_n 1, 1) := by decide +kernel
theorem dX3_isPlace_11 : decode cX3_isPlace 11 = .ok (.sipush 30000, 3) := by decide +kernel
theorem dX3_isPlace_14 : decode cX3_isPlace 14 = .ok (.invokestatic 51, 3) := by decide +kernel
theorem dX3_isPlace_17 : decode cX3_isPlace 17 = .ok (.ifCond .eq 17, 3) := by decide +kernel
theorem dX3_isPlace_20 : decode cX3_isPlace 20 = .ok (.iload_n 2, 1) := by decide +kernel
theorem dX3_isPlace_21 : decode cX3_isPlace 21 = .ok (.sipush 30000, 3) := by decide +kernel
theorem dX3_isPlace_24 : decode cX3_isPlace 24 = .ok (.invokestatic 51, 3) := by decide +kernel
theorem dX3_isPlace_27 : decode cX3_isPlace 27 = .ok (.ifCond .eq 7, 3) := by decide +kernel
theorem dX3_isPlace_30 : decode cX3_isPlace 30 = .ok (.iconst 1, 1) := by decide +kernel
theorem dX3_isPlace_31 : decode cX3_isPlace 31 = .ok (.goto 4, 3) := by decide +kernel
theorem dX3_isPlace_34 : decode cX3_isPlace 34 = .ok (.iconst 0, 1) := by decide +kernel
theorem dX3_isPlace_35 : decode cX3_isPlace 35 = .ok (.ireturn, 1) := by decide +kernel
theorem dX3_isWithin_0 : decode cX3_isWithin 0 = .ok (.iload_n 0, 1) := by decide +kernel
theorem dX3_isWithin_1 : decode cX3_isWithin 1 = .ok (.iload_n 1, 1) := by decide +kernel
theorem dX3_isWithin_2 : decode cX3_isWithin 2 = .ok (.ineg, 1) := by decide +kernel
theorem dX3_isWithin_3 : decode cX3_isWithin 3 = .ok (.if_icmp .lt 12, 3) := by decide +kernel
theorem dX3_isWithin_6 : decode cX3_isWithin 6 = .ok (.iload_n 0, 1) := by decide +kernel
theorem dX3_isWithin_7 : decode cX3_isWithin 7 = .ok (.iload_n 1, 1) := by decide +kernel
theorem dX3_isWithin_8 : decode cX3_isWithin 8 = .ok (.if_icmp .gt 7, 3) := by decide +kernel
theorem dX3_isWithin_11 : decode cX3_isWithin 11 = .ok (.iconst 1, 1) := by decide +kernel
theorem dX3_isWithin_12 : decode cX3_isWithin 12 = .ok (.goto 4, 3) := by decide +kernel
theorem dX3_isWithin_15 : decode cX3_isWithin 15 = .ok (.iconst 0, 1) := by decide +kernel
theorem dX3_isWithin_16 : decode cX3_isWithin 16 = .ok (.ireturn, 1) := by decide +kernel
theorem dX3_greatestAmount_0 : decode cX3_greatestAmount 0 = .ok (.iload_n 0, 1) := by decide +kernel
theorem dX3_greatestAmount_1 : decode cX3_greatestAmount 1 = .ok (.invokestatic 79, 3) := by decide +kernel
theorem dX3_greatestAmount_4 : decode cX3_greatestAmount 4 = .ok (.iload_n 1, 1) := by decide +kernel
theorem dX3_greatestAmount_5 : decode cX3_greatestAmount 5 = .ok (.invokestatic 79, 3) := by decide +kernel
theorem dX3_greatestAmount_8 : decode cX3_greatestAmount 8 = .ok (.iload_n 2, 1) := by decide +kernel
theorem dX3_greatestAmount_9 : decode cX3_greatestAmount 9 = .ok (.invokestatic 79, 3) := by decide +kernel
theorem dX3_greatestAmount_12 : decode cX3_greatestAmount 12 = .ok (.invokestatic 85, 3) := by decide +kernel
theorem dX3_greatestAmount_15 : decode cX3_greatestAmount 15 = .ok (.invokestatic 85, 3) := by decide +kernel
theorem dX3_greatestAmount_18 : decode cX3_greatestAmount 18 = .ok (.ireturn, 1) := by decide +kernel
set_option maxRecDepth 20000 in
theorem ggX3_isStray_X3_greatestAmount : GoodIn wsX3_isStray wsX3_greatestAmount := goodIn_r _ [4, 5, 6, 7, 8, 9, 10, 11] (by decide +kernel) (by decide +kernel)
set_option maxRecDepth 20000 in
theorem gX3_isStray_X3_greatestAmount : GoodIn wsX3_isStray (va_wsS RX3 88 yX3_greatestAmount wsX3_greatestAmount) := goodIn_app (goodIn_of _ (by decide +kernel)) ggX3_isStray_X3_greatestAmount
theorem dX3_isStray_0 : decode cX3_isStray 0 = .ok (.iload_n 0, 1) := by decide +kernel
theorem dX3_isStray_1 : decode cX3_isStray 1 = .ok (.iload_n 1, 1) := by decide +kernel
theorem dX3_isStray_2 : decode cX3_isStray 2 = .ok (.iload_n 2, 1) := by decide +kernel
theorem dX3_isStray_3 : decode cX3_isStray 3 = .ok (.invokestatic 88, 3) := by decide +kernel
theorem dX3_isStray_6 : decode cX3_isStray 6 = .ok (.iconst 1, 1) := by decide +kernel
theorem dX3_isStray_7 : decode cX3_isStray 7 = .ok (.if_icmp .eq 7, 3) := by decide +kernel
theorem dX3_isStray_10 : decode cX3_isStray 10 = .ok (.iconst 1, 1) := by decide +kernel
theorem dX3_isStray_11 : decode cX3_isStray 11 = .ok (.goto 4, 3) := by decide +kernel
theorem dX3_isStray_14 : decode cX3_isStray 14 = .ok (.iconst 0, 1) := by decide +kernel
theorem dX3_isStray_15 : decode cX3_isStray 15 = .ok (.ireturn, 1) := by decide +kernel
theorem dX4_init_0 : decode cX4_init 0 = .ok (.aload_n 0, 1) := by decide +kernel
theorem dX4_init_1 : decode cX4_init 1 = .ok (.invokespecial 1, 3) := by decide +kernel
theorem dX4_init_4 : decode cX4_init 4 = .ok (.aload_n 0, 1) := by decide +kernel
theorem dX4_init_5 : decode cX4_init 5 = .ok (.ldc 9, 2) := by decide +kernel
theorem dX4_init_7 : decode cX4_init 7 = .ok (.newarray .byte, 2) := by decide +kernel
theorem dX4_init_9 : decode cX4_init 9 = .ok (.putfield 10, 3) := by decide +kernel
theorem dX4_init_12 : decode cX4_init 12 = .ok (.aload_n 0, 1) := by decide +kernel
theorem dX4_init_13 : decode cX4_init 13 = .ok (.ldc 9, 2) := by decide +kernel
theorem dX4_init_15 : decode cX4_init 15 = .ok (.newarray .byte, 2) := by decide +kernel
theorem dX4_init_17 : decode cX4_init 17 = .ok (.putfield 14, 3) := by decide +kernel
theorem dX4_init_20 : decode cX4_init 20 = .ok (.return_, 1) := by decide +kernel
theorem dX4_isPlace_0 : decode cX4_isPlace 0 = .ok (.iload_n 0, 1) := by decide +kernel
theorem dX4_isPlace_1 : decode cX4_isPlace 1 = .ok (.sipush (-30000), 3) := by decide +kernel
theorem dX4_isPlace_4 : decode cX4_isPlace 4 = .ok (.if_icmp .lt 14, 3) := by decide +kernel
theorem dX4_isPlace_7 : decode cX4_isPlace 7 = .ok (.iload_n 0, 1) := by decide +kernel
theorem dX4_isPlace_8 : decode cX4_isPlace 8 = .ok (.sipush 30000, 3) := by decide +kernel
theorem dX4_isPlace_11 : decode cX4_isPlace 11 = .ok (.if_icmp .gt 7, 3) := by decide +kernel
theorem dX4_isPlace_14 : decode cX4_isPlace 14 = .ok (.iconst 1, 1) := by decide +kernel
theorem dX4_isPlace_15 : decode cX4_isPlace 15 = .ok (.goto 4, 3) := by decide +kernel
theorem dX4_isPlace_18 : decode cX4_isPlace 18 = .ok (.iconst 0, 1) := by decide +kernel
theorem dX4_isPlace_19 : decode cX4_isPlace 19 = .ok (.ireturn, 1) := by decide +kernel
theorem dX4_isCentre_0 : decode cX4_isCentre 0 = .ok (.iload_n 0, 1) := by decide +kernel
theorem dX4_isCentre_1 : decode cX4_isCentre 1 = .ok (.ldc 17, 2) := by decide +kernel
theorem dX4_isCentre_3 : decode cX4_isCentre 3 = .ok (.if_icmp .lt 13, 3) := by decide +kernel
theorem dX4_isCentre_6 : decode cX4_isCentre 6 = .ok (.iload_n 0, 1) := by decide +kernel
theorem dX4_isCentre_7 : decode cX4_isCentre 7 = .ok (.ldc 9, 2) := by decide +kernel
theorem dX4_isCentre_9 : decode cX4_isCentre 9 = .ok (.if_icmp .gt 7, 3) := by decide +kernel
theorem dX4_isCentre_12 : decode cX4_isCentre 12 = .ok (.iconst 1, 1) := by decide +kernel
theorem dX4_isCentre_13 : decode cX4_isCentre 13 = .ok (.goto 4, 3) := by decide +kernel
theorem dX4_isCentre_16 : decode cX4_isCentre 16 = .ok (.iconst 0, 1) := by decide +kernel
theorem dX4_isCentre_17 : decode cX4_isCentre 17 = .ok (.ireturn, 1) := by decide +kernel
set_option maxRecDepth 20000 in
theorem ggX4_place_X4_isPlace : GoodIn wsX4_place wsX4_isPlace := goodIn_r _ [10] (by decide +kernel) (by decide +kernel)
set_option maxRecDepth 20000 in
theorem gX4_place_X4_isPlace : GoodIn wsX4_place (va_wsS RX4 18 yX4_isPlace wsX4_isPlace) := goodIn_app (goodIn_of _ (by decide +kernel)) ggX4_place_X4_isPlace
theorem dX4_place_0 : decode cX4_place 0 = .ok (.iload_n 1, 1) := by decide +kernel
theorem dX4_place_1 : decode cX4_place 1 = .ok (.invokestatic 18, 3) := by decide +kernel
theorem dX4_place_4 : decode cX4_place 4 = .ok (.ifCond .eq 17, 3) := by decide +kernel
theorem dX4_place_7 : decode cX4_place 7 = .ok (.iload_n 2, 1) := by decide +kernel
theorem dX4_place_8 : decode cX4_place 8 = .ok (.invokestatic 18, 3) := by decide +kernel
theorem dX4_place_11 : decode cX4_place 11 = .ok (.ifCond .eq 10, 3) := by decide +kernel
theorem dX4_place_14 : decode cX4_place 14 = .ok (.iload_n 3, 1) := by decide +kernel
theorem dX4_place_15 : decode cX4_place 15 = .ok (.invokestatic 18, 3) := by decide +kernel
theorem dX4_place_18 : decode cX4_place 18 = .ok (.ifCond .ne 5, 3) := by decide +kernel
theorem dX4_place_21 : decode cX4_place 21 = .ok (.iconst 0, 1) := by decide +kernel
theorem dX4_place_22 : decode cX4_place 22 = .ok (.ireturn, 1) := by decide +kernel
theorem dX4_place_23 : decode cX4_place 23 = .ok (.aload_n 0, 1) := by decide +kernel
theorem dX4_place_24 : decode cX4_place 24 = .ok (.iload_n 1, 1) := by decide +kernel
theorem dX4_place_25 : decode cX4_place 25 = .ok (.putfield 22, 3) := by decide +kernel
theorem dX4_place_28 : decode cX4_place 28 = .ok (.aload_n 0, 1) := by decide +kernel
theorem dX4_place_29 : decode cX4_place 29 = .ok (.iload_n 2, 1) := by decide +kernel
theorem dX4_place_30 : decode cX4_place 30 = .ok (.putfield 26, 3) := by decide +kernel
theorem dX4_place_33 : decode cX4_place 33 = .ok (.aload_n 0, 1) := by decide +kernel
theorem dX4_place_34 : decode cX4_place 34 = .ok (.iload_n 3, 1) := by decide +kernel
theorem dX4_place_35 : decode cX4_place 35 = .ok (.putfield 29, 3) := by decide +kernel
theorem dX4_place_38 : decode cX4_place 38 = .ok (.aload_n 0, 1) := by decide +kernel
theorem dX4_place_39 : decode cX4_place 39 = .ok (.iconst 0, 1) := by decide +kernel
theorem dX4_place_40 : decode cX4_place 40 = .ok (.putfield 32, 3) := by decide +kernel
theorem dX4_place_43 : decode cX4_place 43 = .ok (.aload_n 0, 1) := by decide +kernel
theorem dX4_place_44 : decode cX4_place 44 = .ok (.iconst 0, 1) := by decide +kernel
theorem dX4_place_45 : decode cX4_place 45 = .ok (.putfield 36, 3) := by decide +kernel
theorem dX4_place_48 : decode cX4_place 48 = .ok (.aload_n 0, 1) := by decide +kernel
theorem dX4_place_49 : decode cX4_place 49 = .ok (.iconst 0, 1) := by decide +kernel
theorem dX4_place_50 : decode cX4_place 50 = .ok (.putfield 39, 3) := by decide +kernel
theorem dX4_place_53 : decode cX4_place 53 = .ok (.iconst 1, 1) := by decide +kernel
theorem dX4_place_54 : decode cX4_place 54 = .ok (.ireturn, 1) := by decide +kernel
theorem dX4_amount_0 : decode cX4_amount 0 = .ok (.iload_n 0, 1) := by decide +kernel
theorem dX4_amount_1 : decode cX4_amount 1 = .ok (.ifCond .ge 8, 3) := by decide +kernel
theorem dX4_amount_4 : decode cX4_amount 4 = .ok (.iload_n 0, 1) := by decide +kernel
theorem dX4_amount_5 : decode cX4_amount 5 = .ok (.ineg, 1) := by decide +kernel
theorem dX4_amount_6 : decode cX4_amount 6 = .ok (.goto 4, 3) := by decide +kernel
theorem dX4_amount_9 : decode cX4_amount 9 = .ok (.iload_n 0, 1) := by decide +kernel
theorem dX4_amount_10 : decode cX4_amount 10 = .ok (.ireturn, 1) := by decide +kernel
end
section
theorem dX4_begin_0 : decode cX4_begin 0 = .ok (.aload_n 0, 1) := by decide +kernel
theorem dX4_begin_1 : decode cX4_begin 1 = .ok (.iconst 1, 1) := by decide +kernel
theorem dX4_begin_2 : decode cX4_begin 2 = .ok (.putfield 32, 3) := by decide +kernel
theorem dX4_begin_5 : decode cX4_begin 5 = .ok (.aload_n 0, 1) := by decide +kernel
theorem dX4_begin_6 : decode cX4_begin 6 = .ok (.iload_n 1, 1) := by decide +kernel
theorem dX4_begin_7 : decode cX4_begin 7 = .ok (.putfield 42, 3) := by decide +kernel
theorem dX4_begin_10 : decode cX4_begin 10 = .ok (.aload_n 0, 1) := by decide +kernel
theorem dX4_begin_11 : decode cX4_begin 11 = .ok (.aload_n 0, 1) := by decide +kernel
theorem dX4_begin_12 : decode cX4_begin 12 = .ok (.getfield 22, 3) := by decide +kernel
theorem dX4_begin_15 : decode cX4_begin 15 = .ok (.putfield 45, 3) := by decide +kernel
theorem dX4_begin_18 : decode cX4_begin 18 = .ok (.aload_n 0, 1) := by decide +kernel
theorem dX4_begin_19 : decode cX4_begin 19 = .ok (.aload_n 0, 1) := by decide +kernel
theorem dX4_begin_20 : decode cX4_begin 20 = .ok (.getfield 26, 3) := by decide +kernel
theorem dX4_begin_23 : decode cX4_begin 23 = .ok (.putfield 48, 3) := by decide +kernel
theorem dX4_begin_26 : decode cX4_begin 26 = .ok (.aload_n 0, 1) := by decide +kernel
theorem dX4_begin_27 : decode cX4_begin 27 = .ok (.aload_n 0, 1) := by decide +kernel
theorem dX4_begin_28 : decode cX4_begin 28 = .ok (.getfield 29, 3) := by decide +kernel
theorem dX4_begin_31 : decode cX4_begin 31 = .ok (.putfield 51, 3) := by decide +kernel
theorem dX4_begin_34 : decode cX4_begin 34 = .ok (.aload_n 0, 1) := by decide +kernel
theorem dX4_begin_35 : decode cX4_begin 35 = .ok (.iload_n 2, 1) := by decide +kernel
theorem dX4_begin_36 : decode cX4_begin 36 = .ok (.putfield 36, 3) := by decide +kernel
theorem dX4_begin_39 : decode cX4_begin 39 = .ok (.aload_n 0, 1) := by decide +kernel
theorem dX4_begin_40 : decode cX4_begin 40 = .ok (.iconst 0, 1) := by decide +kernel
theorem dX4_begin_41 : decode cX4_begin 41 = .ok (.putfield 39, 3) := by decide +kernel
theorem dX4_begin_44 : decode cX4_begin 44 = .ok (.return_, 1) := by decide +kernel
set_option maxRecDepth 20000 in
theorem ggX4_line_X4_isPlace : GoodIn wsX4_line wsX4_isPlace := goodIn_r _ [15] (by decide +kernel) (by decide +kernel)
set_option maxRecDepth 20000 in
theorem gX4_line_X4_isPlace : GoodIn wsX4_line (va_wsS RX4 18 yX4_isPlace wsX4_isPlace) := goodIn_app (goodIn_of _ (by decide +kernel)) ggX4_line_X4_isPlace
set_option maxRecDepth 20000 in
theorem ggX4_line_X4_amount : GoodIn wsX4_line wsX4_amount := goodIn_r _ [18] (by decide +kernel) (by decide +kernel)
set_option maxRecDepth 20000 in
theorem gX4_line_X4_amount : GoodIn wsX4_line (va_wsS RX4 63 yX4_amount wsX4_amount) := goodIn_app (goodIn_of _ (by decide +kernel)) ggX4_line_X4_amount
set_option maxRecDepth 20000 in
theorem ggX4_line_X4_begin : GoodIn wsX4_line wsX4_begin := goodIn_r _ [22, 23, 24, 1, 25, 3, 26, 5, 27, 11, 28, 29, 30, 31, 32, 33, 34, 35, 36, 37, 38, 39, 40, 41, 42, 43] (by decide +kernel) (by decide +kernel)
set_option maxRecDepth 20000 in
theorem gX4_line_X4_begin : GoodIn wsX4_line (wsV RX4 73 RX4 yX4_begin wsX4_begin) := goodIn_app (goodIn_of _ (by decide +kernel)) ggX4_line_X4_begin
theorem dX4_line_0 : decode cX4_line 0 = .ok (.iload_n 1, 1) := by decide +kernel
theorem dX4_line_1 : decode cX4_line 1 = .ok (.invokestatic 18, 3) := by decide +kernel
theorem dX4_line_4 : decode cX4_line 4 = .ok (.ifCond .eq 17, 3) := by decide +kernel
theorem dX4_line_7 : decode cX4_line 7 = .ok (.iload_n 2, 1) := by decide +kernel
theorem dX4_line_8 : decode cX4_line 8 = .ok (.invokestatic 18, 3) := by decide +kernel
theorem dX4_line_11 : decode cX4_line 11 = .ok (.ifCond .eq 10, 3) := by decide +kernel
theorem dX4_line_14 : decode cX4_line 14 = .ok (.iload_n 3, 1) := by decide +kernel
theorem dX4_line_15 : decode cX4_line 15 = .ok (.invokestatic 18, 3) := by decide +kernel
theorem dX4_line_18 : decode cX4_line 18 = .ok (.ifCond .ne 5, 3) := by decide +kernel
theorem dX4_line_21 : decode cX4_line 21 = .ok (.iconst (-1), 1) := by decide +kernel
theorem dX4_line_22 : decode cX4_line 22 = .ok (.ireturn, 1) := by decide +kernel
theorem dX4_line_23 : decode cX4_line 23 = .ok (.aload_n 0, 1) := by decide +kernel
theorem dX4_line_24 : decode cX4_line 24 = .ok (.iload_n 1, 1) := by decide +kernel
theorem dX4_line_25 : decode cX4_line 25 = .ok (.aload_n 0, 1) := by decide +kernel
theorem dX4_line_26 : decode cX4_line 26 = .ok (.getfield 22, 3) := by decide +kernel
theorem dX4_line_29 : decode cX4_line 29 = .ok (.isub, 1) := by decide +kernel
theorem dX4_line_30 : decode cX4_line 30 = .ok (.putfield 54, 3) := by decide +kernel
theorem dX4_line_33 : decode cX4_line 33 = .ok (.aload_n 0, 1) := by decide +kernel
theorem dX4_line_34 : decode cX4_line 34 = .ok (.iload_n 2, 1) := by decide +kernel
theorem dX4_line_35 : decode cX4_line 35 = .ok (.aload_n 0, 1) := by decide +kernel
theorem dX4_line_36 : decode cX4_line 36 = .ok (.getfield 26, 3) := by decide +kernel
theorem dX4_line_39 : decode cX4_line 39 = .ok (.isub, 1) := by decide +kernel
theorem dX4_line_40 : decode cX4_line 40 = .ok (.putfield 57, 3) := by decide +kernel
theorem dX4_line_43 : decode cX4_line 43 = .ok (.aload_n 0, 1) := by decide +kernel
theorem dX4_line_44 : decode cX4_line 44 = .ok (.iload_n 3, 1) := by decide +kernel
theorem dX4_line_45 : decode cX4_line 45 = .ok (.aload_n 0, 1) := by decide +kernel
theorem dX4_line_46 : decode cX4_line 46 = .ok (.getfield 29, 3) := by decide +kernel
theorem dX4_line_49 : decode cX4_line 49 = .ok (.isub, 1) := by decide +kernel
theorem dX4_line_50 : decode cX4_line 50 = .ok (.putfield 60, 3) := by decide +kernel
theorem dX4_line_53 : decode cX4_line 53 = .ok (.aload_n 0, 1) := by decide +kernel
theorem dX4_line_54 : decode cX4_line 54 = .ok (.iconst 0, 1) := by decide +kernel
theorem dX4_line_55 : decode cX4_line 55 = .ok (.aload_n 0, 1) := by decide +kernel
theorem dX4_line_56 : decode cX4_line 56 = .ok (.getfield 54, 3) := by decide +kernel
theorem dX4_line_59 : decode cX4_line 59 = .ok (.invokestatic 63, 3) := by decide +kernel
theorem dX4_line_62 : decode cX4_line 62 = .ok (.aload_n 0, 1) := by decide +kernel
theorem dX4_line_63 : decode cX4_line 63 = .ok (.getfield 57, 3) := by decide +kernel
theorem dX4_line_66 : decode cX4_line 66 = .ok (.invokestatic 63, 3) := by decide +kernel
theorem dX4_line_69 : decode cX4_line 69 = .ok (.aload_n 0, 1) := by decide +kernel
theorem dX4_line_70 : decode cX4_line 70 = .ok (.getfield 60, 3) := by decide +kernel
theorem dX4_line_73 : decode cX4_line 73 = .ok (.invokestatic 63, 3) := by decide +kernel
theorem dX4_line_76 : decode cX4_line 76 = .ok (.invokestatic 67, 3) := by decide +kernel
theorem dX4_line_79 : decode cX4_line 79 = .ok (.invokestatic 67, 3) := by decide +kernel
theorem dX4_line_82 : decode cX4_line 82 = .ok (.invokevirtual 73, 3) := by decide +kernel
theorem dX4_line_85 : decode cX4_line 85 = .ok (.aload_n 0, 1) := by decide +kernel
theorem dX4_line_86 : decode cX4_line 86 = .ok (.iload_n 1, 1) := by decide +kernel
theorem dX4_line_87 : decode cX4_line 87 = .ok (.putfield 22, 3) := by decide +kernel
theorem dX4_line_90 : decode cX4_line 90 = .ok (.aload_n 0, 1) := by decide +kernel
theorem dX4_line_91 : decode cX4_line 91 = .ok (.iload_n 2, 1) := by decide +kernel
theorem dX4_line_92 : decode cX4_line 92 = .ok (.putfield 26, 3) := by decide +kernel
theorem dX4_line_95 : decode cX4_line 95 = .ok (.aload_n 0, 1) := by decide +kernel
theorem dX4_line_96 : decode cX4_line 96 = .ok (.iload_n 3, 1) := by decide +kernel
theorem dX4_line_97 : decode cX4_line 97 = .ok (.putfield 29, 3) := by decide +kernel
theorem dX4_line_100 : decode cX4_line 100 = .ok (.aload_n 0, 1) := by decide +kernel
theorem dX4_line_101 : decode cX4_line 101 = .ok (.getfield 36, 3) := by decide +kernel
theorem dX4_line_104 : decode cX4_line 104 = .ok (.ireturn, 1) := by decide +kernel
theorem dX4_eastOf_0 : decode cX4_eastOf 0 = .ok (.iload_n 0, 1) := by decide +kernel
theorem dX4_eastOf_1 : decode cX4_eastOf 1 = .ok (.ifCond .eq 14, 3) := by decide +kernel
theorem dX4_eastOf_4 : decode cX4_eastOf 4 = .ok (.iload_n 0, 1) := by decide +kernel
theorem dX4_eastOf_5 : decode cX4_eastOf 5 = .ok (.iconst 1, 1) := by decide +kernel
theorem dX4_eastOf_6 : decode cX4_eastOf 6 = .ok (.if_icmp .eq 9, 3) := by decide +kernel
theorem dX4_eastOf_9 : decode cX4_eastOf 9 = .ok (.iload_n 0, 1) := by decide +kernel
theorem dX4_eastOf_10 : decode cX4_eastOf 10 = .ok (.bipush 7, 2) := by decide +kernel
theorem dX4_eastOf_12 : decode cX4_eastOf 12 = .ok (.if_icmp .ne 7, 3) := by decide +kernel
theorem dX4_eastOf_15 : decode cX4_eastOf 15 = .ok (.iconst 1, 1) := by decide +kernel
theorem dX4_eastOf_16 : decode cX4_eastOf 16 = .ok (.goto 19, 3) := by decide +kernel
theorem dX4_eastOf_19 : decode cX4_eastOf 19 = .ok (.iload_n 0, 1) := by decide +kernel
theorem dX4_eastOf_20 : decode cX4_eastOf 20 = .ok (.iconst 2, 1) := by decide +kernel
theorem dX4_eastOf_21 : decode cX4_eastOf 21 = .ok (.if_icmp .eq 9, 3) := by decide +kernel
theorem dX4_eastOf_24 : decode cX4_eastOf 24 = .ok (.iload_n 0, 1) := by decide +kernel
theorem dX4_eastOf_25 : decode cX4_eastOf 25 = .ok (.bipush 6, 2) := by decide +kernel
theorem dX4_eastOf_27 : decode cX4_eastOf 27 = .ok (.if_icmp .ne 7, 3) := by decide +kernel
theorem dX4_eastOf_30 : decode cX4_eastOf 30 = .ok (.iconst 0, 1) := by decide +kernel
theorem dX4_eastOf_31 : decode cX4_eastOf 31 = .ok (.goto 4, 3) := by decide +kernel
theorem dX4_eastOf_34 : decode cX4_eastOf 34 = .ok (.iconst (-1), 1) := by decide +kernel
theorem dX4_eastOf_35 : decode cX4_eastOf 35 = .ok (.ireturn, 1) := by decide +kernel
theorem dX4_northOf_0 : decode cX4_northOf 0 = .ok (.iload_n 0, 1) := by decide +kernel
theorem dX4_northOf_1 : decode cX4_northOf 1 = .ok (.iconst 1, 1) := by decide +kernel
theorem dX4_northOf_2 : decode cX4_northOf 2 = .ok (.if_icmp .eq 13, 3) := by decide +kernel
theorem dX4_northOf_5 : decode cX4_northOf 5 = .ok (.iload_n 0, 1) := by decide +kernel
theorem dX4_northOf_6 : decode cX4_northOf 6 = .ok (.iconst 2, 1) := by decide +kernel
theorem dX4_northOf_7 : decode cX4_northOf 7 = .ok (.if_icmp .eq 8, 3) := by decide +kernel
theorem dX4_northOf_10 : decode cX4_northOf 10 = .ok (.iload_n 0, 1) := by decide +kernel
theorem dX4_northOf_11 : decode cX4_northOf 11 = .ok (.iconst 3, 1) := by decide +kernel
theorem dX4_northOf_12 : decode cX4_northOf 12 = .ok (.if_icmp .ne 7, 3) := by decide +kernel
theorem dX4_northOf_15 : decode cX4_northOf 15 = .ok (.iconst 1, 1) := by decide +kernel
theorem dX4_northOf_16 : decode cX4_northOf 16 = .ok (.goto 17, 3) := by decide +kernel
theorem dX4_northOf_19 : decode cX4_northOf 19 = .ok (.iload_n 0, 1) := by decide +kernel
theorem dX4_northOf_20 : decode cX4_northOf 20 = .ok (.ifCond .eq 8, 3) := by decide +kernel
theorem dX4_northOf_23 : decode cX4_northOf 23 = .ok (.iload_n 0, 1) := by decide +kernel
theorem dX4_northOf_24 : decode cX4_northOf 24 = .ok (.iconst 4, 1) := by decide +kernel
theorem dX4_northOf_25 : decode cX4_northOf 25 = .ok (.if_icmp .ne 7, 3) := by decide +kernel
theorem dX4_northOf_28 : decode cX4_northOf 28 = .ok (.iconst 0, 1) := by decide +kernel
theorem dX4_northOf_29 : decode cX4_northOf 29 = .ok (.goto 4, 3) := by decide +kernel
theorem dX4_northOf_32 : decode cX4_northOf 32 = .ok (.iconst (-1), 1) := by decide +kernel
theorem dX4_northOf_33 : decode cX4_northOf 33 = .ok (.ireturn, 1) := by decide +kernel
theorem dX4_square_0 : decode cX4_square 0 = .ok (.lload_n 0, 1) := by decide +kernel
theorem dX4_square_1 : decode cX4_square 1 = .ok (.lload_n 0, 1) := by decide +kernel
theorem dX4_square_2 : decode cX4_square 2 = .ok (.lmul, 1) := by decide +kernel
theorem dX4_square_3 : decode cX4_square 3 = .ok (.lreturn, 1) := by decide +kernel
set_option maxRecDepth 20000 in
theorem ggX4_arc_X4_isPlace : GoodIn wsX4_arc wsX4_isPlace := goodIn_r _ [14] (by decide +kernel) (by decide +kernel)
set_option maxRecDepth 20000 in
theorem gX4_arc_X4_isPlace : GoodIn wsX4_arc (va_wsS RX4 18 yX4_isPlace wsX4_isPlace) := goodIn_app (goodIn_of _ (by decide +kernel)) ggX4_arc_X4_isPlace
set_option maxRecDepth 20000 in
theorem ggX4_arc_X4_isCentre : GoodIn wsX4_arc wsX4_isCentre := goodIn_r _ [17, 18, 19] (by decide +kernel) (by decide +kernel)
set_option maxRecDepth 20000 in
theorem gX4_arc_X4_isCentre : GoodIn wsX4_arc (va_wsS RX4 77 yX4_isCentre wsX4_isCentre) := goodIn_app (goodIn_of _ (by decide +kernel)) ggX4_arc_X4_isCentre
set_option maxRecDepth 20000 in
theorem ggX4_arc_X4_square : GoodIn wsX4_arc wsX4_square := goodIn_r _ [22] (by decide +kernel) (by decide +kernel)
set_option maxRecDepth 20000 in
theorem gX4_arc_X4_square : GoodIn wsX4_arc (va_wsS RX4 80 yX4_square wsX4_square) := goodIn_app (goodIn_of _ (by decide +kernel)) ggX4_arc_X4_square
set_option maxRecDepth 20000 in
theorem ggX4_arc_X4_tried : GoodIn wsX4_arc wsX4_tried := goodIn_r _ [26, 1, 2, 19, 5, 27, 28, 13, 29, 30, 31, 32, 44, 45, 46, 47, 48, 49, 50, 51, 52, 53, 54, 55, 56, 57, 58] (by decide +kernel) (by decide +kernel)
set_option maxRecDepth 20000 in
theorem gX4_arc_X4_tried : GoodIn wsX4_arc (wsV RX4 86 RX4 yX4_tried wsX4_tried) := goodIn_app (goodIn_of _ (by decide +kernel)) ggX4_arc_X4_tried
set_option maxRecDepth 20000 in
theorem ggX4_arc_X4_begin : GoodIn wsX4_arc wsX4_begin := goodIn_r _ [36, 37, 38, 1, 39, 2, 40, 41, 42, 43, 10, 44, 45, 46, 47, 48, 49, 50, 51, 52, 53, 54, 55, 56, 57, 58] (by decide +kernel) (by decide +kernel)
set_option maxRecDepth 20000 in
theorem gX4_arc_X4_begin : GoodIn wsX4_arc (wsV RX4 73 RX4 yX4_begin wsX4_begin) := goodIn_app (goodIn_of _ (by decide +kernel)) ggX4_arc_X4_begin
set_option maxRecDepth 20000 in
theorem ggX4_arc_X4_eastOf : GoodIn wsX4_arc wsX4_eastOf := goodIn_r _ [29] (by decide +kernel) (by decide +kernel)
set_option maxRecDepth 20000 in
theorem gX4_arc_X4_eastOf : GoodIn wsX4_arc (va_wsS RX4 89 yX4_eastOf wsX4_eastOf) := goodIn_app (goodIn_of _ (by decide +kernel)) ggX4_arc_X4_eastOf
set_option maxRecDepth 20000 in
theorem ggX4_arc_X4_northOf : GoodIn wsX4_arc wsX4_northOf := goodIn_r _ [32] (by decide +kernel) (by decide +kernel)
set_option maxRecDepth 20000 in
theorem gX4_arc_X4_northOf : GoodIn wsX4_arc (va_wsS RX4 92 yX4_northOf wsX4_northOf) := goodIn_app (goodIn_of _ (by decide +kernel)) ggX4_arc_X4_northOf
theorem dX4_arc_0 : decode cX4_arc 0 = .ok (.iload_n 1, 1) := by decide +kernel
theorem dX4_arc_1 : decode cX4_arc 1 = .ok (.invokestatic 18, 3) := by decide +kernel
theorem dX4_arc_4 : decode cX4_arc 4 = .ok (.ifCond .eq 25, 3) := by decide +kernel
theorem dX4_arc_7 : decode cX4_arc 7 = .ok (.iload_n 2, 1) := by decide +kernel
theorem dX4_arc_8 : decode cX4_arc 8 = .ok (.invokestatic 18, 3) := by decide +kernel
theorem dX4_arc_11 : decode cX4_arc 11 = .ok (.ifCond .eq 18, 3) := by decide +kernel
theorem dX4_arc_14 : decode cX4_arc 14 = .ok (.iload_n 3, 1) := by decide +kernel
theorem dX4_arc_15 : decode cX4_arc 15 = .ok (.invokestatic 77, 3) := by decide +kernel
theorem dX4_arc_18 : decode cX4_arc 18 = .ok (.ifCond .eq 11, 3) := by decide +kernel
theorem dX4_arc_21 : decode cX4_arc 21 = .ok (.iload 4, 2) := by decide +kernel
theorem dX4_arc_23 : decode cX4_arc 23 = .ok (.invokestatic 77, 3) := by decide +kernel
theorem dX4_arc_26 : decode cX4_arc 26 = .ok (.ifCond .ne 5, 3) := by decide +kernel
theorem dX4_arc_29 : decode cX4_arc 29 = .ok (.iconst (-1), 1) := by decide +kernel
theorem dX4_arc_30 : decode cX4_arc 30 = .ok (.ireturn, 1) := by decide +kernel
theorem dX4_arc_31 : decode cX4_arc 31 = .ok (.aload_n 0, 1) := by decide +kernel
theorem dX4_arc_32 : decode cX4_arc 32 = .ok (.getfield 22, 3) := by decide +kernel
theorem dX4_arc_35 : decode cX4_arc 35 = .ok (.iload_n 3, 1) := by decide +kernel
theorem dX4_arc_36 : decode cX4_arc 36 = .ok (.isub, 1) := by decide +kernel
theorem dX4_arc_37 : decode cX4_arc 37 = .ok (.i2l, 1) := by decide +kernel
theorem dX4_arc_38 : decode cX4_arc 38 = .ok (.invokestatic 80, 3) := by decide +kernel
theorem dX4_arc_41 : decode cX4_arc 41 = .ok (.aload_n 0, 1) := by decide +kernel
theorem dX4_arc_42 : decode cX4_arc 42 = .ok (.getfield 26, 3) := by decide +kernel
theorem dX4_arc_45 : decode cX4_arc 45 = .ok (.iload 4, 2) := by decide +kernel
theorem dX4_arc_47 : decode cX4_arc 47 = .ok (.isub, 1) := by decide +kernel
theorem dX4_arc_48 : decode cX4_arc 48 = .ok (.i2l, 1) := by decide +kernel
theorem dX4_arc_49 : decode cX4_arc 49 = .ok (.invokestatic 80, 3) := by decide +kernel
theorem dX4_arc_52 : decode cX4_arc 52 = .ok (.ladd, 1) := by decide +kernel
theorem dX4_arc_53 : decode cX4_arc 53 = .ok (.lstore 6, 2) := by decide +kernel
theorem dX4_arc_55 : decode cX4_arc 55 = .ok (.lload 6, 2) := by decide +kernel
theorem dX4_arc_57 : decode cX4_arc 57 = .ok (.lconst 1, 1) := by decide +kernel
theorem dX4_arc_58 : decode cX4_arc 58 = .ok (.lcmp, 1) := by decide +kernel
theorem dX4_arc_59 : decode cX4_arc 59 = .ok (.ifCond .lt 12, 3) := by decide +kernel
theorem dX4_arc_62 : decode cX4_arc 62 = .ok (.lload 6, 2) := by decide +kernel
theorem dX4_arc_64 : decode cX4_arc 64 = .ok (.ldc2_w 84, 3) := by decide +kernel
theorem dX4_arc_67 : decode cX4_arc 67 = .ok (.lcmp, 1) := by decide +kernel
theorem dX4_arc_68 : decode cX4_arc 68 = .ok (.ifCond .le 5, 3) := by decide +kernel
theorem dX4_arc_71 : decode cX4_arc 71 = .ok (.iconst (-1), 1) := by decide +kernel
theorem dX4_arc_72 : decode cX4_arc 72 = .ok (.ireturn, 1) := by decide +kernel
theorem dX4_arc_73 : decode cX4_arc 73 = .ok (.aload_n 0, 1) := by decide +kernel
theorem dX4_arc_74 : decode cX4_arc 74 = .ok (.iload_n 1, 1) := by decide +kernel
theorem dX4_arc_75 : decode cX4_arc 75 = .ok (.iload_n 3, 1) := by decide +kernel
theorem dX4_arc_76 : decode cX4_arc 76 = .ok (.isub, 1) := by decide +kernel
theorem dX4_arc_77 : decode cX4_arc 77 = .ok (.i2l, 1) := by decide +kernel
theorem dX4_arc_78 : decode cX4_arc 78 = .ok (.iload_n 2, 1) := by decide +kernel
theorem dX4_arc_79 : decode cX4_arc 79 = .ok (.iload 4, 2) := by decide +kernel
theorem dX4_arc_81 : decode cX4_arc 81 = .ok (.isub, 1) := by decide +kernel
theorem dX4_arc_82 : decode cX4_arc 82 = .ok (.i2l, 1) := by decide +kernel
theorem dX4_arc_83 : decode cX4_arc 83 = .ok (.iload_n 3, 1) := by decide +kernel
theorem dX4_arc_84 : decode cX4_arc 84 = .ok (.iload 4, 2) := by decide +kernel
theorem dX4_arc_86 : decode cX4_arc 86 = .ok (.lload 6, 2) := by decide +kernel
theorem dX4_arc_88 : decode cX4_arc 88 = .ok (.iload 5, 2) := by decide +kernel
theorem dX4_arc_90 : decode cX4_arc 90 = .ok (.invokevirtual 86, 3) := by decide +kernel
theorem dX4_arc_93 : decode cX4_arc 93 = .ok (.istore 8, 2) := by decide +kernel
theorem dX4_arc_95 : decode cX4_arc 95 = .ok (.iload 8, 2) := by decide +kernel
theorem dX4_arc_97 : decode cX4_arc 97 = .ok (.ifCond .ge 5, 3) := by decide +kernel
theorem dX4_arc_100 : decode cX4_arc 100 = .ok (.iconst (-1), 1) := by decide +kernel
theorem dX4_arc_101 : decode cX4_arc 101 = .ok (.ireturn, 1) := by decide +kernel
theorem dX4_arc_102 : decode cX4_arc 102 = .ok (.aload_n 0, 1) := by decide +kernel
theorem dX4_arc_103 : decode cX4_arc 103 = .ok (.iconst 1, 1) := by decide +kernel
theorem dX4_arc_104 : decode cX4_arc 104 = .ok (.iload 8, 2) := by decide +kernel
theorem dX4_arc_106 : decode cX4_arc 106 = .ok (.invokevirtual 73, 3) := by decide +kernel
theorem dX4_arc_109 : decode cX4_arc 109 = .ok (.lconst 0, 1) := by decide +kernel
theorem dX4_arc_110 : decode cX4_arc 110 = .ok (.lstore 9, 2) := by decide +kernel
theorem dX4_arc_112 : decode cX4_arc 112 = .ok (.iconst 0, 1) := by decide +kernel
theorem dX4_arc_113 : decode cX4_arc 113 = .ok (.istore 11, 2) := by decide +kernel
theorem dX4_arc_115 : decode cX4_arc 115 = .ok (.iload 11, 2) := by decide +kernel
theorem dX4_arc_117 : decode cX4_arc 117 = .ok (.iload 8, 2) := by decide +kernel
theorem dX4_arc_119 : decode cX4_arc 119 = .ok (.if_icmp .ge 110, 3) := by decide +kernel
theorem dX4_arc_122 : decode cX4_arc 122 = .ok (.aload_n 0, 1) := by decide +kernel
theorem dX4_arc_123 : decode cX4_arc 123 = .ok (.getfield 10, 3) := by decide +kernel
theorem dX4_arc_126 : decode cX4_arc 126 = .ok (.iload 11, 2) := by decide +kernel
theorem dX4_arc_128 : decode cX4_arc 128 = .ok (.aload_n 0, 1) := by decide +kernel
theorem dX4_arc_129 : decode cX4_arc 129 = .ok (.getfield 14, 3) := by decide +kernel
theorem dX4_arc_132 : decode cX4_arc 132 = .ok (.iload 11, 2) := by decide +kernel
theorem dX4_arc_134 : decode cX4_arc 134 = .ok (.baload, 1) := by decide +kernel
theorem dX4_arc_135 : decode cX4_arc 135 = .ok (.bastore, 1) := by decide +kernel
theorem dX4_arc_136 : decode cX4_arc 136 = .ok (.aload_n 0, 1) := by decide +kernel
theorem dX4_arc_137 : decode cX4_arc 137 = .ok (.dup, 1) := by decide +kernel
theorem dX4_arc_138 : decode cX4_arc 138 = .ok (.getfield 22, 3) := by decide +kernel
theorem dX4_arc_141 : decode cX4_arc 141 = .ok (.aload_n 0, 1) := by decide +kernel
theorem dX4_arc_142 : decode cX4_arc 142 = .ok (.getfield 10, 3) := by decide +kernel
theorem dX4_arc_145 : decode cX4_arc 145 = .ok (.iload 11, 2) := by decide +kernel
theorem dX4_arc_147 : decode cX4_arc 147 = .ok (.baload, 1) := by decide +kernel
theorem dX4_arc_148 : decode cX4_arc 148 = .ok (.invokestatic 89, 3) := by decide +kernel
theorem dX4_arc_151 : decode cX4_arc 151 = .ok (.iadd, 1) := by decide +kernel
theorem dX4_arc_152 : decode cX4_arc 152 = .ok (.putfield 22, 3) := by decide +kernel
theorem dX4_arc_155 : decode cX4_arc 155 = .ok (.aload_n 0, 1) := by decide +kernel
theorem dX4_arc_156 : decode cX4_arc 156 = .ok (.dup, 1) := by decide +kernel
theorem dX4_arc_157 : decode cX4_arc 157 = .ok (.getfield 26, 3) := by decide +kernel
theorem dX4_arc_160 : decode cX4_arc 160 = .ok (.aload_n 0, 1) := by decide +kernel
theorem dX4_arc_161 : decode cX4_arc 161 = .ok (.getfield 10, 3) := by decide +kernel
theorem dX4_arc_164 : decode cX4_arc 164 = .ok (.iload 11, 2) := by decide +kernel
theorem dX4_arc_166 : decode cX4_arc 166 = .ok (.baload, 1) := by decide +kernel
theorem dX4_arc_167 : decode cX4_arc 167 = .ok (.invokestatic 92, 3) := by decide +kernel
theorem dX4_arc_170 : decode cX4_arc 170 = .ok (.iadd, 1) := by decide +kernel
theorem dX4_arc_171 : decode cX4_arc 171 = .ok (.putfield 26, 3) := by decide +kernel
theorem dX4_arc_174 : decode cX4_arc 174 = .ok (.aload_n 0, 1) := by decide +kernel
theorem dX4_arc_175 : decode cX4_arc 175 = .ok (.getfield 22, 3) := by decide +kernel
theorem dX4_arc_178 : decode cX4_arc 178 = .ok (.iload_n 3, 1) := by decide +kernel
theorem dX4_arc_179 : decode cX4_arc 179 = .ok (.isub, 1) := by decide +kernel
theorem dX4_arc_180 : decode cX4_arc 180 = .ok (.i2l, 1) := by decide +kernel
theorem dX4_arc_181 : decode cX4_arc 181 = .ok (.invokestatic 80, 3) := by decide +kernel
theorem dX4_arc_184 : decode cX4_arc 184 = .ok (.aload_n 0, 1) := by decide +kernel
theorem dX4_arc_185 : decode cX4_arc 185 = .ok (.getfield 26, 3) := by decide +kernel
theorem dX4_arc_188 : decode cX4_arc 188 = .ok (.iload 4, 2) := by decide +kernel
theorem dX4_arc_190 : decode cX4_arc 190 = .ok (.isub, 1) := by decide +kernel
theorem dX4_arc_191 : decode cX4_arc 191 = .ok (.i2l, 1) := by decide +kernel
theorem dX4_arc_192 : decode cX4_arc 192 = .ok (.invokestatic 80, 3) := by decide +kernel
theorem dX4_arc_195 : decode cX4_arc 195 = .ok (.ladd, 1) := by decide +kernel
theorem dX4_arc_196 : decode cX4_arc 196 = .ok (.lload 6, 2) := by decide +kernel
theorem dX4_arc_198 : decode cX4_arc 198 = .ok (.lsub, 1) := by decide +kernel
theorem dX4_arc_199 : decode cX4_arc 199 = .ok (.lstore 12, 2) := by decide +kernel
theorem dX4_arc_201 : decode cX4_arc 201 = .ok (.lload 9, 2) := by decide +kernel
theorem dX4_arc_203 : decode cX4_arc 203 = .ok (.lload 12, 2) := by decide +kernel
theorem dX4_arc_205 : decode cX4_arc 205 = .ok (.lconst 0, 1) := by decide +kernel
theorem dX4_arc_206 : decode cX4_arc 206 = .ok (.lcmp, 1) := by decide +kernel
theorem dX4_arc_207 : decode cX4_arc 207 = .ok (.ifCond .ge 9, 3) := by decide +kernel
theorem dX4_arc_210 : decode cX4_arc 210 = .ok (.lload 12, 2) := by decide +kernel
theorem dX4_arc_212 : decode cX4_arc 212 = .ok (.lneg, 1) := by decide +kernel
theorem dX4_arc_213 : decode cX4_arc 213 = .ok (.goto 5, 3) := by decide +kernel
theorem dX4_arc_216 : decode cX4_arc 216 = .ok (.lload 12, 2) := by decide +kernel
theorem dX4_arc_218 : decode cX4_arc 218 = .ok (.invokestatic 95, 3) := by decide +kernel
theorem dX4_arc_221 : decode cX4_arc 221 = .ok (.lstore 9, 2) := by decide +kernel
theorem dX4_arc_223 : decode cX4_arc 223 = .ok (.iinc 11 1, 3) := by decide +kernel
theorem dX4_arc_226 : decode cX4_arc 226 = .ok (.goto (-111), 3) := by decide +kernel
theorem dX4_arc_229 : decode cX4_arc 229 = .ok (.aload_n 0, 1) := by decide +kernel
theorem dX4_arc_230 : decode cX4_arc 230 = .ok (.lload 9, 2) := by decide +kernel
theorem dX4_arc_232 : decode cX4_arc 232 = .ok (.l2i, 1) := by decide +kernel
theorem dX4_arc_233 : decode cX4_arc 233 = .ok (.putfield 39, 3) := by decide +kernel
theorem dX4_arc_236 : decode cX4_arc 236 = .ok (.iload 8, 2) := by decide +kernel
theorem dX4_arc_238 : decode cX4_arc 238 = .ok (.ireturn, 1) := by decide +kernel
set_option maxRecDepth 20000 in
theorem ggX4_tried_X4_eastOf : GoodIn wsX4_tried wsX4_eastOf := goodIn_r _ [8] (by decide +kernel) (by decide +kernel)
set_option maxRecDepth 20000 in
theorem gX4_tried_X4_eastOf : GoodIn wsX4_tried (va_wsS RX4 89 yX4_eastOf wsX4_eastOf) := goodIn_app (goodIn_of _ (by decide +kernel)) ggX4_tried_X4_eastOf
set_option maxRecDepth 20000 in
theorem ggX4_tried_X4_northOf : GoodIn wsX4_tried wsX4_northOf := goodIn_r _ [11] (by decide +kernel) (by decide +kernel)
set_option maxRecDepth 20000 in
theorem gX4_tried_X4_northOf : GoodIn wsX4_tried (va_wsS RX4 92 yX4_northOf wsX4_northOf) := goodIn_app (goodIn_of _ (by decide +kernel)) ggX4_tried_X4_northOf
theorem dX4_tried_0 : decode cX4_tried 0 = .ok (.aload_n 0, 1) := by decide +kernel
theorem dX4_tried_1 : decode cX4_tried 1 = .ok (.getfield 22, 3) := by decide +kernel
theorem dX4_tried_4 : decode cX4_tried 4 = .ok (.iload 5, 2) := by decide +kernel
theorem dX4_tried_6 : decode cX4_tried 6 = .ok (.isub, 1) := by decide +kernel
theorem dX4_tried_7 : decode cX4_tried 7 = .ok (.i2l, 1) := by decide +kernel
theorem dX4_tried_8 : decode cX4_tried 8 = .ok (.lstore 10, 2) := by decide +kernel
theorem dX4_tried_10 : decode cX4_tried 10 = .ok (.aload_n 0, 1) := by decide +kernel
theorem dX4_tried_11 : decode cX4_tried 11 = .ok (.getfield 26, 3) := by decide +kernel
theorem dX4_tried_14 : decode cX4_tried 14 = .ok (.iload 6, 2) := by decide +kernel
theorem dX4_tried_16 : decode cX4_tried 16 = .ok (.isub, 1) := by decide +kernel
theorem dX4_tried_17 : decode cX4_tried 17 = .ok (.i2l, 1) := by decide +kernel
theorem dX4_tried_18 : decode cX4_tried 18 = .ok (.lstore 12, 2) := by decide +kernel
theorem dX4_tried_20 : decode cX4_tried 20 = .ok (.iconst 0, 1) := by decide +kernel
theorem dX4_tried_21 : decode cX4_tried 21 = .ok (.istore 14, 2) := by decide +kernel
theorem dX4_tried_23 : decode cX4_tried 23 = .ok (.iload 14, 2) := by decide +kernel
theorem dX4_tried_25 : decode cX4_tried 25 = .ok (.ldc 9, 2) := by decide +kernel
theorem dX4_tried_27 : decode cX4_tried 27 = .ok (.if_icmp .ge 201, 3) := by decide +kernel
theorem dX4_tried_30 : decode cX4_tried 30 = .ok (.iconst (-1), 1) := by decide +kernel
theorem dX4_tried_31 : decode cX4_tried 31 = .ok (.istore 15, 2) := by decide +kernel
theorem dX4_tried_33 : decode cX4_tried 33 = .ok (.lconst 0, 1) := by decide +kernel
theorem dX4_tried_34 : decode cX4_tried 34 = .ok (.lstore 16, 2) := by decide +kernel
theorem dX4_tried_36 : decode cX4_tried 36 = .ok (.iconst 0, 1) := by decide +kernel
theorem dX4_tried_37 : decode cX4_tried 37 = .ok (.istore 18, 2) := by decide +kernel
theorem dX4_tried_39 : decode cX4_tried 39 = .ok (.iload 18, 2) := by decide +kernel
theorem dX4_tried_41 : decode cX4_tried 41 = .ok (.bipush 8, 2) := by decide +kernel
theorem dX4_tried_43 : decode cX4_tried 43 = .ok (.if_icmp .ge 121, 3) := by decide +kernel
theorem dX4_tried_46 : decode cX4_tried 46 = .ok (.lload 10, 2) := by decide +kernel
theorem dX4_tried_48 : decode cX4_tried 48 = .ok (.iload 18, 2) := by decide +kernel
theorem dX4_tried_50 : decode cX4_tried 50 = .ok (.invokestatic 89, 3) := by decide +kernel
theorem dX4_tried_53 : decode cX4_tried 53 = .ok (.i2l, 1) := by decide +kernel
theorem dX4_tried_54 : decode cX4_tried 54 = .ok (.ladd, 1) := by decide +kernel
theorem dX4_tried_55 : decode cX4_tried 55 = .ok (.lstore 19, 2) := by decide +kernel
theorem dX4_tried_57 : decode cX4_tried 57 = .ok (.lload 12, 2) := by decide +kernel
theorem dX4_tried_59 : decode cX4_tried 59 = .ok (.iload 18, 2) := by decide +kernel
theorem dX4_tried_61 : decode cX4_tried 61 = .ok (.invokestatic 92, 3) := by decide +kernel
theorem dX4_tried_64 : decode cX4_tried 64 = .ok (.i2l, 1) := by decide +kernel
theorem dX4_tried_65 : decode cX4_tried 65 = .ok (.ladd, 1) := by decide +kernel
theorem dX4_tried_66 : decode cX4_tried 66 = .ok (.lstore 21, 2) := by decide +kernel
theorem dX4_tried_68 : decode cX4_tried 68 = .ok (.lload 10, 2) := by decide +kernel
theorem dX4_tried_70 : decode cX4_tried 70 = .ok (.lload 21, 2) := by decide +kernel
theorem dX4_tried_72 : decode cX4_tried 72 = .ok (.lmul, 1) := by decide +kernel
theorem dX4_tried_73 : decode cX4_tried 73 = .ok (.lload 12, 2) := by decide +kernel
theorem dX4_tried_75 : decode cX4_tried 75 = .ok (.lload 19, 2) := by decide +kernel
theorem dX4_tried_77 : decode cX4_tried 77 = .ok (.lmul, 1) := by decide +kernel
theorem dX4_tried_78 : decode cX4_tried 78 = .ok (.lsub, 1) := by decide +kernel
theorem dX4_tried_79 : decode cX4_tried 79 = .ok (.lstore 23, 2) := by decide +kernel
theorem dX4_tried_81 : decode cX4_tried 81 = .ok (.iload 9, 2) := by decide +kernel
theorem dX4_tried_83 : decode cX4_tried 83 = .ok (.ifCond .eq 13, 3) := by decide +kernel
theorem dX4_tried_86 : decode cX4_tried 86 = .ok (.lload 23, 2) := by decide +kernel
theorem dX4_tried_88 : decode cX4_tried 88 = .ok (.lconst 0, 1) := by decide +kernel
theorem dX4_tried_89 : decode cX4_tried 89 = .ok (.lcmp, 1) := by decide +kernel
theorem dX4_tried_90 : decode cX4_tried 90 = .ok (.ifCond .gt 16, 3) := by decide +kernel
theorem dX4_tried_93 : decode cX4_tried 93 = .ok (.goto 65, 3) := by decide +kernel
theorem dX4_tried_96 : decode cX4_tried 96 = .ok (.lload 23, 2) := by decide +kernel
theorem dX4_tried_98 : decode cX4_tried 98 = .ok (.lconst 0, 1) := by decide +kernel
theorem dX4_tried_99 : decode cX4_tried 99 = .ok (.lcmp, 1) := by decide +kernel
theorem dX4_tried_100 : decode cX4_tried 100 = .ok (.ifCond .lt 6, 3) := by decide +kernel
theorem dX4_tried_103 : decode cX4_tried 103 = .ok (.goto 55, 3) := by decide +kernel
theorem dX4_tried_106 : decode cX4_tried 106 = .ok (.lload 19, 2) := by decide +kernel
theorem dX4_tried_108 : decode cX4_tried 108 = .ok (.lload 19, 2) := by decide +kernel
theorem dX4_tried_110 : decode cX4_tried 110 = .ok (.lmul, 1) := by decide +kernel
theorem dX4_tried_111 : decode cX4_tried 111 = .ok (.lload 21, 2) := by decide +kernel
theorem dX4_tried_113 : decode cX4_tried 113 = .ok (.lload 21, 2) := by decide +kernel
theorem dX4_tried_115 : decode cX4_tried 115 = .ok (.lmul, 1) := by decide +kernel
theorem dX4_tried_116 : decode cX4_tried 116 = .ok (.ladd, 1) := by decide +kernel
theorem dX4_tried_117 : decode cX4_tried 117 = .ok (.lload 7, 2) := by decide +kernel
theorem dX4_tried_119 : decode cX4_tried 119 = .ok (.lsub, 1) := by decide +kernel
theorem dX4_tried_120 : decode cX4_tried 120 = .ok (.lstore 25, 2) := by decide +kernel
theorem dX4_tried_122 : decode cX4_tried 122 = .ok (.lload 25, 2) := by decide +kernel
theorem dX4_tried_124 : decode cX4_tried 124 = .ok (.lconst 0, 1) := by decide +kernel
theorem dX4_tried_125 : decode cX4_tried 125 = .ok (.lcmp, 1) := by decide +kernel
theorem dX4_tried_126 : decode cX4_tried 126 = .ok (.ifCond .ge 8, 3) := by decide +kernel
theorem dX4_tried_129 : decode cX4_tried 129 = .ok (.lload 25, 2) := by decide +kernel
theorem dX4_tried_131 : decode cX4_tried 131 = .ok (.lneg, 1) := by decide +kernel
theorem dX4_tried_132 : decode cX4_tried 132 = .ok (.lstore 25, 2) := by decide +kernel
theorem dX4_tried_134 : decode cX4_tried 134 = .ok (.iload 15, 2) := by decide +kernel
theorem dX4_tried_136 : decode cX4_tried 136 = .ok (.ifCond .lt 14, 3) := by decide +kernel
theorem dX4_tried_139 : decode cX4_tried 139 = .ok (.lload 25, 2) := by decide +kernel
theorem dX4_tried_141 : decode cX4_tried 141 = .ok (.lload 16, 2) := by decide +kernel
theorem dX4_tried_143 : decode cX4_tried 143 = .ok (.lcmp, 1) := by decide +kernel
theorem dX4_tried_144 : decode cX4_tried 144 = .ok (.ifCond .lt 6, 3) := by decide +kernel
theorem dX4_tried_147 : decode cX4_tried 147 = .ok (.goto 11, 3) := by decide +kernel
theorem dX4_tried_150 : decode cX4_tried 150 = .ok (.iload 18, 2) := by decide +kernel
theorem dX4_tried_152 : decode cX4_tried 152 = .ok (.istore 15, 2) := by decide +kernel
theorem dX4_tried_154 : decode cX4_tried 154 = .ok (.lload 25, 2) := by decide +kernel
theorem dX4_tried_156 : decode cX4_tried 156 = .ok (.lstore 16, 2) := by decide +kernel
theorem dX4_tried_158 : decode cX4_tried 158 = .ok (.iinc 18 1, 3) := by decide +kernel
theorem dX4_tried_161 : decode cX4_tried 161 = .ok (.goto (-122), 3) := by decide +kernel
theorem dX4_tried_164 : decode cX4_tried 164 = .ok (.iload 15, 2) := by decide +kernel
theorem dX4_tried_166 : decode cX4_tried 166 = .ok (.ifCond .ge 5, 3) := by decide +kernel
theorem dX4_tried_169 : decode cX4_tried 169 = .ok (.iconst (-1), 1) := by decide +kernel
theorem dX4_tried_170 : decode cX4_tried 170 = .ok (.ireturn, 1) := by decide +kernel
theorem dX4_tried_171 : decode cX4_tried 171 = .ok (.aload_n 0, 1) := by decide +kernel
theorem dX4_tried_172 : decode cX4_tried 172 = .ok (.getfield 14, 3) := by decide +kernel
theorem dX4_tried_175 : decode cX4_tried 175 = .ok (.iload 14, 2) := by decide +kernel
theorem dX4_tried_177 : decode cX4_tried 177 = .ok (.iload 15, 2) := by decide +kernel
theorem dX4_tried_179 : decode cX4_tried 179 = .ok (.i2b, 1) := by decide +kernel
theorem dX4_tried_180 : decode cX4_tried 180 = .ok (.bastore, 1) := by decide +kernel
theorem dX4_tried_181 : decode cX4_tried 181 = .ok (.lload 10, 2) := by decide +kernel
theorem dX4_tried_183 : decode cX4_tried 183 = .ok (.iload 15, 2) := by decide +kernel
theorem dX4_tried_185 : decode cX4_tried 185 = .ok (.invokestatic 89, 3) := by decide +kernel
theorem dX4_tried_188 : decode cX4_tried 188 = .ok (.i2l, 1) := by decide +kernel
theorem dX4_tried_189 : decode cX4_tried 189 = .ok (.ladd, 1) := by decide +kernel
theorem dX4_tried_190 : decode cX4_tried 190 = .ok (.lstore 10, 2) := by decide +kernel
theorem dX4_tried_192 : decode cX4_tried 192 = .ok (.lload 12, 2) := by decide +kernel
theorem dX4_tried_194 : decode cX4_tried 194 = .ok (.iload 15, 2) := by decide +kernel
theorem dX4_tried_196 : decode cX4_tried 196 = .ok (.invokestatic 92, 3) := by decide +kernel
theorem dX4_tried_199 : decode cX4_tried 199 = .ok (.i2l, 1) := by decide +kernel
theorem dX4_tried_200 : decode cX4_tried 200 = .ok (.ladd, 1) := by decide +kernel
theorem dX4_tried_201 : decode cX4_tried 201 = .ok (.lstore 12, 2) := by decide +kernel
theorem dX4_tried_203 : decode cX4_tried 203 = .ok (.lload 10, 2) := by decide +kernel
theorem dX4_tried_205 : decode cX4_tried 205 = .ok (.lload_n 1, 1) := by decide +kernel
theorem dX4_tried_206 : decode cX4_tried 206 = .ok (.lcmp, 1) := by decide +kernel
theorem dX4_tried_207 : decode cX4_tried 207 = .ok (.ifCond .ne 15, 3) := by decide +kernel
theorem dX4_tried_210 : decode cX4_tried 210 = .ok (.lload 12, 2) := by decide +kernel
theorem dX4_tried_212 : decode cX4_tried 212 = .ok (.lload_n 3, 1) := by decide +kernel
theorem dX4_tried_213 : decode cX4_tried 213 = .ok (.lcmp, 1) := by decide +kernel
theorem dX4_tried_214 : decode cX4_tried 214 = .ok (.ifCond .ne 8, 3) := by decide +kernel
theorem dX4_tried_217 : decode cX4_tried 217 = .ok (.iload 14, 2) := by decide +kernel
theorem dX4_tried_219 : decode cX4_tried 219 = .ok (.iconst 1, 1) := by decide +kernel
theorem dX4_tried_220 : decode cX4_tried 220 = .ok (.iadd, 1) := by decide +kernel
theorem dX4_tried_221 : decode cX4_tried 221 = .ok (.ireturn, 1) := by decide +kernel
theorem dX4_tried_222 : decode cX4_tried 222 = .ok (.iinc 14 1, 3) := by decide +kernel
theorem dX4_tried_225 : decode cX4_tried 225 = .ok (.goto (-202), 3) := by decide +kernel
theorem dX4_tried_228 : decode cX4_tried 228 = .ok (.iconst (-1), 1) := by decide +kernel
theorem dX4_tried_229 : decode cX4_tried 229 = .ok (.ireturn, 1) := by decide +kernel
theorem dX4_down_0 : decode cX4_down 0 = .ok (.lload_n 0, 1) := by decide +kernel
theorem dX4_down_1 : decode cX4_down 1 = .ok (.lconst 0, 1) := by decide +kernel
theorem dX4_down_2 : decode cX4_down 2 = .ok (.lcmp, 1) := by decide +kernel
theorem dX4_down_3 : decode cX4_down 3 = .ok (.ifCond .ge 19, 3) := by decide +kernel
theorem dX4_down_6 : decode cX4_down 6 = .ok (.lload_n 0, 1) := by decide +kernel
theorem dX4_down_7 : decode cX4_down 7 = .ok (.lload_n 2, 1) := by decide +kernel
theorem dX4_down_8 : decode cX4_down 8 = .ok (.lrem, 1) := by decide +kernel
theorem dX4_down_9 : decode cX4_down 9 = .ok (.lconst 0, 1) := by decide +kernel
theorem dX4_down_10 : decode cX4_down 10 = .ok (.lcmp, 1) := by decide +kernel
theorem dX4_down_11 : decode cX4_down 11 = .ok (.ifCond .eq 11, 3) := by decide +kernel
theorem dX4_down_14 : decode cX4_down 14 = .ok (.lload_n 0, 1) := by decide +kernel
theorem dX4_down_15 : decode cX4_down 15 = .ok (.lload_n 2, 1) := by decide +kernel
theorem dX4_down_16 : decode cX4_down 16 = .ok (.ldiv, 1) := by decide +kernel
theorem dX4_down_17 : decode cX4_down 17 = .ok (.lconst 1, 1) := by decide +kernel
theorem dX4_down_18 : decode cX4_down 18 = .ok (.lsub, 1) := by decide +kernel
theorem dX4_down_19 : decode cX4_down 19 = .ok (.goto 6, 3) := by decide +kernel
theorem dX4_down_22 : decode cX4_down 22 = .ok (.lload_n 0, 1) := by decide +kernel
theorem dX4_down_23 : decode cX4_down 23 = .ok (.lload_n 2, 1) := by decide +kernel
theorem dX4_down_24 : decode cX4_down 24 = .ok (.ldiv, 1) := by decide +kernel
theorem dX4_down_25 : decode cX4_down 25 = .ok (.l2i, 1) := by decide +kernel
theorem dX4_down_26 : decode cX4_down 26 = .ok (.ireturn, 1) := by decide +kernel
set_option maxRecDepth 20000 in
theorem ggX4_partOf_X4_down : GoodIn wsX4_partOf wsX4_down := goodIn_r _ [6] (by decide +kernel) (by decide +kernel)
set_option maxRecDepth 20000 in
theorem gX4_partOf_X4_down : GoodIn wsX4_partOf (va_wsS RX4 100 yX4_down wsX4_down) := goodIn_app (goodIn_of _ (by decide +kernel)) ggX4_partOf_X4_down
theorem dX4_partOf_0 : decode cX4_partOf 0 = .ok (.aload_n 0, 1) := by decide +kernel
theorem dX4_partOf_1 : decode cX4_partOf 1 = .ok (.getfield 36, 3) := by decide +kernel
theorem dX4_partOf_4 : decode cX4_partOf 4 = .ok (.ifCond .ne 7, 3) := by decide +kernel
theorem dX4_partOf_7 : decode cX4_partOf 7 = .ok (.iconst 0, 1) := by decide +kernel
theorem dX4_partOf_8 : decode cX4_partOf 8 = .ok (.goto 30, 3) := by decide +kernel
theorem dX4_partOf_11 : decode cX4_partOf 11 = .ok (.ldc2_w 98, 3) := by decide +kernel
theorem dX4_partOf_14 : decode cX4_partOf 14 = .ok (.iload_n 1, 1) := by decide +kernel
theorem dX4_partOf_15 : decode cX4_partOf 15 = .ok (.i2l, 1) := by decide +kernel
theorem dX4_partOf_16 : decode cX4_partOf 16 = .ok (.lmul, 1) := by decide +kernel
theorem dX4_partOf_17 : decode cX4_partOf 17 = .ok (.iload_n 2, 1) := by decide +kernel
theorem dX4_partOf_18 : decode cX4_partOf 18 = .ok (.i2l, 1) := by decide +kernel
theorem dX4_partOf_19 : decode cX4_partOf 19 = .ok (.lmul, 1) := by decide +kernel
theorem dX4_partOf_20 : decode cX4_partOf 20 = .ok (.aload_n 0, 1) := by decide +kernel
theorem dX4_partOf_21 : decode cX4_partOf 21 = .ok (.getfield 36, 3) := by decide +kernel
theorem dX4_partOf_24 : decode cX4_partOf 24 = .ok (.i2l, 1) := by decide +kernel
theorem dX4_partOf_25 : decode cX4_partOf 25 = .ok (.ladd, 1) := by decide +kernel
theorem dX4_partOf_26 : decode cX4_partOf 26 = .ok (.ldc2_w 98, 3) := by decide +kernel
theorem dX4_partOf_29 : decode cX4_partOf 29 = .ok (.aload_n 0, 1) := by decide +kernel
theorem dX4_partOf_30 : decode cX4_partOf 30 = .ok (.getfield 36, 3) := by decide +kernel
theorem dX4_partOf_33 : decode cX4_partOf 33 = .ok (.i2l, 1) := by decide +kernel
theorem dX4_partOf_34 : decode cX4_partOf 34 = .ok (.lmul, 1) := by decide +kernel
theorem dX4_partOf_35 : decode cX4_partOf 35 = .ok (.invokestatic 100, 3) := by decide +kernel
theorem dX4_partOf_38 : decode cX4_partOf 38 = .ok (.ireturn, 1) := by decide +kernel
set_option maxRecDepth 20000 in
theorem ggX4_tick_X4_partOf : GoodIn wsX4_tick wsX4_partOf := goodIn_r _ [15, 2, 16, 17, 18, 14, 19, 26, 27, 28, 29, 30, 31, 32, 33, 34, 35, 36, 37, 38, 39, 40] (by decide +kernel) (by decide +kernel)
set_option maxRecDepth 20000 in
theorem gX4_tick_X4_partOf : GoodIn wsX4_tick (wsV RX4 104 RX4 yX4_partOf wsX4_partOf) := goodIn_app (goodIn_of _ (by decide +kernel)) ggX4_tick_X4_partOf
set_option maxRecDepth 20000 in
theorem ggX4_tick_X4_eastOf : GoodIn wsX4_tick wsX4_eastOf := goodIn_r _ [22] (by decide +kernel) (by decide +kernel)
set_option maxRecDepth 20000 in
theorem gX4_tick_X4_eastOf : GoodIn wsX4_tick (va_wsS RX4 89 yX4_eastOf wsX4_eastOf) := goodIn_app (goodIn_of _ (by decide +kernel)) ggX4_tick_X4_eastOf
set_option maxRecDepth 20000 in
theorem ggX4_tick_X4_northOf : GoodIn wsX4_tick wsX4_northOf := goodIn_r _ [25] (by decide +kernel) (by decide +kernel)
set_option maxRecDepth 20000 in
theorem gX4_tick_X4_northOf : GoodIn wsX4_tick (va_wsS RX4 92 yX4_northOf wsX4_northOf) := goodIn_app (goodIn_of _ (by decide +kernel)) ggX4_tick_X4_northOf
theorem dX4_tick_0 : decode cX4_tick 0 = .ok (.aload_n 0, 1) := by decide +kernel
theorem dX4_tick_1 : decode cX4_tick 1 = .ok (.getfield 32, 3) := by decide +kernel
theorem dX4_tick_4 : decode cX4_tick 4 = .ok (.ifCond .eq 24, 3) := by decide +kernel
theorem dX4_tick_7 : decode cX4_tick 7 = .ok (.iload_n 1, 1) := by decide +kernel
theorem dX4_tick_8 : decode cX4_tick 8 = .ok (.ifCond .lt 20, 3) := by decide +kernel
theorem dX4_tick_11 : decode cX4_tick 11 = .ok (.iload_n 1, 1) := by decide +kernel
theorem dX4_tick_12 : decode cX4_tick 12 = .ok (.aload_n 0, 1) := by decide +kernel
theorem dX4_tick_13 : decode cX4_tick 13 = .ok (.getfield 36, 3) := by decide +kernel
theorem dX4_tick_16 : decode cX4_tick 16 = .ok (.if_icmp .gt 12, 3) := by decide +kernel
theorem dX4_tick_19 : decode cX4_tick 19 = .ok (.iload_n 2, 1) := by decide +kernel
theorem dX4_tick_20 : decode cX4_tick 20 = .ok (.ifCond .lt 8, 3) := by decide +kernel
theorem dX4_tick_23 : decode cX4_tick 23 = .ok (.iload_n 2, 1) := by decide +kernel
theorem dX4_tick_24 : decode cX4_tick 24 = .ok (.iconst 2, 1) := by decide +kernel
theorem dX4_tick_25 : decode cX4_tick 25 = .ok (.if_icmp .le 5, 3) := by decide +kernel
theorem dX4_tick_28 : decode cX4_tick 28 = .ok (.iconst 0, 1) := by decide +kernel
theorem dX4_tick_29 : decode cX4_tick 29 = .ok (.ireturn, 1) := by decide +kernel
theorem dX4_tick_30 : decode cX4_tick 30 = .ok (.aload_n 0, 1) := by decide +kernel
theorem dX4_tick_31 : decode cX4_tick 31 = .ok (.getfield 42, 3) := by decide +kernel
theorem dX4_tick_34 : decode cX4_tick 34 = .ok (.ifCond .ne 61, 3) := by decide +kernel
theorem dX4_tick_37 : decode cX4_tick 37 = .ok (.iload_n 2, 1) := by decide +kernel
theorem dX4_tick_38 : decode cX4_tick 38 = .ok (.ifCond .ne 20, 3) := by decide +kernel
theorem dX4_tick_41 : decode cX4_tick 41 = .ok (.aload_n 0, 1) := by decide +kernel
theorem dX4_tick_42 : decode cX4_tick 42 = .ok (.getfield 45, 3) := by decide +kernel
theorem dX4_tick_45 : decode cX4_tick 45 = .ok (.aload_n 0, 1) := by decide +kernel
theorem dX4_tick_46 : decode cX4_tick 46 = .ok (.aload_n 0, 1) := by decide +kernel
theorem dX4_tick_47 : decode cX4_tick 47 = .ok (.getfield 54, 3) := by decide +kernel
theorem dX4_tick_50 : decode cX4_tick 50 = .ok (.iload_n 1, 1) := by decide +kernel
theorem dX4_tick_51 : decode cX4_tick 51 = .ok (.invokevirtual 104, 3) := by decide +kernel
theorem dX4_tick_54 : decode cX4_tick 54 = .ok (.iadd, 1) := by decide +kernel
theorem dX4_tick_55 : decode cX4_tick 55 = .ok (.goto 39, 3) := by decide +kernel
theorem dX4_tick_58 : decode cX4_tick 58 = .ok (.iload_n 2, 1) := by decide +kernel
theorem dX4_tick_59 : decode cX4_tick 59 = .ok (.iconst 1, 1) := by decide +kernel
theorem dX4_tick_60 : decode cX4_tick 60 = .ok (.if_icmp .ne 20, 3) := by decide +kernel
theorem dX4_tick_63 : decode cX4_tick 63 = .ok (.aload_n 0, 1) := by decide +kernel
theorem dX4_tick_64 : decode cX4_tick 64 = .ok (.getfield 48, 3) := by decide +kernel
theorem dX4_tick_67 : decode cX4_tick 67 = .ok (.aload_n 0, 1) := by decide +kernel
theorem dX4_tick_68 : decode cX4_tick 68 = .ok (.aload_n 0, 1) := by decide +kernel
theorem dX4_tick_69 : decode cX4_tick 69 = .ok (.getfield 57, 3) := by decide +kernel
theorem dX4_tick_72 : decode cX4_tick 72 = .ok (.iload_n 1, 1) := by decide +kernel
theorem dX4_tick_73 : decode cX4_tick 73 = .ok (.invokevirtual 104, 3) := by decide +kernel
theorem dX4_tick_76 : decode cX4_tick 76 = .ok (.iadd, 1) := by decide +kernel
theorem dX4_tick_77 : decode cX4_tick 77 = .ok (.goto 17, 3) := by decide +kernel
theorem dX4_tick_80 : decode cX4_tick 80 = .ok (.aload_n 0, 1) := by decide +kernel
theorem dX4_tick_81 : decode cX4_tick 81 = .ok (.getfield 51, 3) := by decide +kernel
theorem dX4_tick_84 : decode cX4_tick 84 = .ok (.aload_n 0, 1) := by decide +kernel
theorem dX4_tick_85 : decode cX4_tick 85 = .ok (.aload_n 0, 1) := by decide +kernel
theorem dX4_tick_86 : decode cX4_tick 86 = .ok (.getfield 60, 3) := by decide +kernel
theorem dX4_tick_89 : decode cX4_tick 89 = .ok (.iload_n 1, 1) := by decide +kernel
theorem dX4_tick_90 : decode cX4_tick 90 = .ok (.invokevirtual 104, 3) := by decide +kernel
theorem dX4_tick_93 : decode cX4_tick 93 = .ok (.iadd, 1) := by decide +kernel
theorem dX4_tick_94 : decode cX4_tick 94 = .ok (.ireturn, 1) := by decide +kernel
theorem dX4_tick_95 : decode cX4_tick 95 = .ok (.iload_n 2, 1) := by decide +kernel
theorem dX4_tick_96 : decode cX4_tick 96 = .ok (.iconst 2, 1) := by decide +kernel
theorem dX4_tick_97 : decode cX4_tick 97 = .ok (.if_icmp .ne 8, 3) := by decide +kernel
theorem dX4_tick_100 : decode cX4_tick 100 = .ok (.aload_n 0, 1) := by decide +kernel
theorem dX4_tick_101 : decode cX4_tick 101 = .ok (.getfield 51, 3) := by decide +kernel
theorem dX4_tick_104 : decode cX4_tick 104 = .ok (.ireturn, 1) := by decide +kernel
theorem dX4_tick_105 : decode cX4_tick 105 = .ok (.iload_n 2, 1) := by decide +kernel
theorem dX4_tick_106 : decode cX4_tick 106 = .ok (.ifCond .ne 10, 3) := by decide +kernel
theorem dX4_tick_109 : decode cX4_tick 109 = .ok (.aload_n 0, 1) := by decide +kernel
theorem dX4_tick_110 : decode cX4_tick 110 = .ok (.getfield 45, 3) := by decide +kernel
end
section
theorem dX4_tick_113 : decode cX4_tick 113 = .ok (.goto 7, 3) := by decide +kernel
theorem dX4_tick_116 : decode cX4_tick 116 = .ok (.aload_n 0, 1) := by decide +kernel
theorem dX4_tick_117 : decode cX4_tick 117 = .ok (.getfield 48, 3) := by decide +kernel
theorem dX4_tick_120 : decode cX4_tick 120 = .ok (.istore_n 3, 1) := by decide +kernel
theorem dX4_tick_121 : decode cX4_tick 121 = .ok (.iconst 0, 1) := by decide +kernel
theorem dX4_tick_122 : decode cX4_tick 122 = .ok (.istore 4, 2) := by decide +kernel
theorem dX4_tick_124 : decode cX4_tick 124 = .ok (.iload 4, 2) := by decide +kernel
theorem dX4_tick_126 : decode cX4_tick 126 = .ok (.iload_n 1, 1) := by decide +kernel
theorem dX4_tick_127 : decode cX4_tick 127 = .ok (.if_icmp .ge 39, 3) := by decide +kernel
theorem dX4_tick_130 : decode cX4_tick 130 = .ok (.iload_n 3, 1) := by decide +kernel
theorem dX4_tick_131 : decode cX4_tick 131 = .ok (.iload_n 2, 1) := by decide +kernel
theorem dX4_tick_132 : decode cX4_tick 132 = .ok (.ifCond .ne 16, 3) := by decide +kernel
theorem dX4_tick_135 : decode cX4_tick 135 = .ok (.aload_n 0, 1) := by decide +kernel
theorem dX4_tick_136 : decode cX4_tick 136 = .ok (.getfield 10, 3) := by decide +kernel
theorem dX4_tick_139 : decode cX4_tick 139 = .ok (.iload 4, 2) := by decide +kernel
theorem dX4_tick_141 : decode cX4_tick 141 = .ok (.baload, 1) := by decide +kernel
theorem dX4_tick_142 : decode cX4_tick 142 = .ok (.invokestatic 89, 3) := by decide +kernel
theorem dX4_tick_145 : decode cX4_tick 145 = .ok (.goto 13, 3) := by decide +kernel
theorem dX4_tick_148 : decode cX4_tick 148 = .ok (.aload_n 0, 1) := by decide +kernel
theorem dX4_tick_149 : decode cX4_tick 149 = .ok (.getfield 10, 3) := by decide +kernel
theorem dX4_tick_152 : decode cX4_tick 152 = .ok (.iload 4, 2) := by decide +kernel
theorem dX4_tick_154 : decode cX4_tick 154 = .ok (.baload, 1) := by decide +kernel
theorem dX4_tick_155 : decode cX4_tick 155 = .ok (.invokestatic 92, 3) := by decide +kernel
theorem dX4_tick_158 : decode cX4_tick 158 = .ok (.iadd, 1) := by decide +kernel
theorem dX4_tick_159 : decode cX4_tick 159 = .ok (.istore_n 3, 1) := by decide +kernel
theorem dX4_tick_160 : decode cX4_tick 160 = .ok (.iinc 4 1, 3) := by decide +kernel
theorem dX4_tick_163 : decode cX4_tick 163 = .ok (.goto (-39), 3) := by decide +kernel
theorem dX4_tick_166 : decode cX4_tick 166 = .ok (.iload_n 3, 1) := by decide +kernel
theorem dX4_tick_167 : decode cX4_tick 167 = .ok (.ireturn, 1) := by decide +kernel
theorem dX4_ticks_0 : decode cX4_ticks 0 = .ok (.aload_n 0, 1) := by decide +kernel
theorem dX4_ticks_1 : decode cX4_ticks 1 = .ok (.getfield 36, 3) := by decide +kernel
theorem dX4_ticks_4 : decode cX4_ticks 4 = .ok (.ireturn, 1) := by decide +kernel
theorem dX4_at_0 : decode cX4_at 0 = .ok (.iload_n 1, 1) := by decide +kernel
theorem dX4_at_1 : decode cX4_at 1 = .ok (.ifCond .ne 10, 3) := by decide +kernel
theorem dX4_at_4 : decode cX4_at 4 = .ok (.aload_n 0, 1) := by decide +kernel
theorem dX4_at_5 : decode cX4_at 5 = .ok (.getfield 22, 3) := by decide +kernel
theorem dX4_at_8 : decode cX4_at 8 = .ok (.goto 28, 3) := by decide +kernel
theorem dX4_at_11 : decode cX4_at 11 = .ok (.iload_n 1, 1) := by decide +kernel
theorem dX4_at_12 : decode cX4_at 12 = .ok (.iconst 1, 1) := by decide +kernel
theorem dX4_at_13 : decode cX4_at 13 = .ok (.if_icmp .ne 10, 3) := by decide +kernel
theorem dX4_at_16 : decode cX4_at 16 = .ok (.aload_n 0, 1) := by decide +kernel
theorem dX4_at_17 : decode cX4_at 17 = .ok (.getfield 26, 3) := by decide +kernel
theorem dX4_at_20 : decode cX4_at 20 = .ok (.goto 16, 3) := by decide +kernel
theorem dX4_at_23 : decode cX4_at 23 = .ok (.iload_n 1, 1) := by decide +kernel
theorem dX4_at_24 : decode cX4_at 24 = .ok (.iconst 2, 1) := by decide +kernel
theorem dX4_at_25 : decode cX4_at 25 = .ok (.if_icmp .ne 10, 3) := by decide +kernel
theorem dX4_at_28 : decode cX4_at 28 = .ok (.aload_n 0, 1) := by decide +kernel
theorem dX4_at_29 : decode cX4_at 29 = .ok (.getfield 29, 3) := by decide +kernel
theorem dX4_at_32 : decode cX4_at 32 = .ok (.goto 4, 3) := by decide +kernel
theorem dX4_at_35 : decode cX4_at 35 = .ok (.iconst 0, 1) := by decide +kernel
theorem dX4_at_36 : decode cX4_at 36 = .ok (.ireturn, 1) := by decide +kernel
theorem dX4_off_0 : decode cX4_off 0 = .ok (.aload_n 0, 1) := by decide +kernel
theorem dX4_off_1 : decode cX4_off 1 = .ok (.getfield 39, 3) := by decide +kernel
theorem dX4_off_4 : decode cX4_off 4 = .ok (.ireturn, 1) := by decide +kernel
set_option maxRecDepth 20000 in
theorem ggX4_strays_X4_partOf : GoodIn wsX4_strays wsX4_partOf := goodIn_r _ [10, 1, 11, 12, 13, 9, 14, 18, 19, 20, 21, 22, 23, 24, 25, 26, 27, 28, 29, 30, 31, 32] (by decide +kernel) (by decide +kernel)
set_option maxRecDepth 20000 in
theorem gX4_strays_X4_partOf : GoodIn wsX4_strays (wsV RX4 104 RX4 yX4_partOf wsX4_partOf) := goodIn_app (goodIn_of _ (by decide +kernel)) ggX4_strays_X4_partOf
set_option maxRecDepth 20000 in
theorem ggX4_strays_X4_amount : GoodIn wsX4_strays wsX4_amount := goodIn_r _ [17] (by decide +kernel) (by decide +kernel)
set_option maxRecDepth 20000 in
theorem gX4_strays_X4_amount : GoodIn wsX4_strays (va_wsS RX4 63 yX4_amount wsX4_amount) := goodIn_app (goodIn_of _ (by decide +kernel)) ggX4_strays_X4_amount
theorem dX4_strays_0 : decode cX4_strays 0 = .ok (.iconst 0, 1) := by decide +kernel
theorem dX4_strays_1 : decode cX4_strays 1 = .ok (.istore_n 1, 1) := by decide +kernel
theorem dX4_strays_2 : decode cX4_strays 2 = .ok (.iconst 1, 1) := by decide +kernel
theorem dX4_strays_3 : decode cX4_strays 3 = .ok (.istore_n 2, 1) := by decide +kernel
theorem dX4_strays_4 : decode cX4_strays 4 = .ok (.iload_n 2, 1) := by decide +kernel
theorem dX4_strays_5 : decode cX4_strays 5 = .ok (.aload_n 0, 1) := by decide +kernel
theorem dX4_strays_6 : decode cX4_strays 6 = .ok (.getfield 36, 3) := by decide +kernel
theorem dX4_strays_9 : decode cX4_strays 9 = .ok (.if_icmp .gt 123, 3) := by decide +kernel
theorem dX4_strays_12 : decode cX4_strays 12 = .ok (.aload_n 0, 1) := by decide +kernel
theorem dX4_strays_13 : decode cX4_strays 13 = .ok (.getfield 42, 3) := by decide +kernel
theorem dX4_strays_16 : decode cX4_strays 16 = .ok (.ifCond .ne 116, 3) := by decide +kernel
theorem dX4_strays_19 : decode cX4_strays 19 = .ok (.aload_n 0, 1) := by decide +kernel
theorem dX4_strays_20 : decode cX4_strays 20 = .ok (.aload_n 0, 1) := by decide +kernel
theorem dX4_strays_21 : decode cX4_strays 21 = .ok (.getfield 54, 3) := by decide +kernel
theorem dX4_strays_24 : decode cX4_strays 24 = .ok (.iload_n 2, 1) := by decide +kernel
theorem dX4_strays_25 : decode cX4_strays 25 = .ok (.invokevirtual 104, 3) := by decide +kernel
theorem dX4_strays_28 : decode cX4_strays 28 = .ok (.aload_n 0, 1) := by decide +kernel
theorem dX4_strays_29 : decode cX4_strays 29 = .ok (.aload_n 0, 1) := by decide +kernel
theorem dX4_strays_30 : decode cX4_strays 30 = .ok (.getfield 54, 3) := by decide +kernel
theorem dX4_strays_33 : decode cX4_strays 33 = .ok (.iload_n 2, 1) := by decide +kernel
theorem dX4_strays_34 : decode cX4_strays 34 = .ok (.iconst 1, 1) := by decide +kernel
theorem dX4_strays_35 : decode cX4_strays 35 = .ok (.isub, 1) := by decide +kernel
theorem dX4_strays_36 : decode cX4_strays 36 = .ok (.invokevirtual 104, 3) := by decide +kernel
theorem dX4_strays_39 : decode cX4_strays 39 = .ok (.isub, 1) := by decide +kernel
theorem dX4_strays_40 : decode cX4_strays 40 = .ok (.invokestatic 63, 3) := by decide +kernel
theorem dX4_strays_43 : decode cX4_strays 43 = .ok (.istore_n 3, 1) := by decide +kernel
theorem dX4_strays_44 : decode cX4_strays 44 = .ok (.aload_n 0, 1) := by decide +kernel
theorem dX4_strays_45 : decode cX4_strays 45 = .ok (.aload_n 0, 1) := by decide +kernel
theorem dX4_strays_46 : decode cX4_strays 46 = .ok (.getfield 57, 3) := by decide +kernel
theorem dX4_strays_49 : decode cX4_strays 49 = .ok (.iload_n 2, 1) := by decide +kernel
theorem dX4_strays_50 : decode cX4_strays 50 = .ok (.invokevirtual 104, 3) := by decide +kernel
theorem dX4_strays_53 : decode cX4_strays 53 = .ok (.aload_n 0, 1) := by decide +kernel
theorem dX4_strays_54 : decode cX4_strays 54 = .ok (.aload_n 0, 1) := by decide +kernel
theorem dX4_strays_55 : decode cX4_strays 55 = .ok (.getfield 57, 3) := by decide +kernel
theorem dX4_strays_58 : decode cX4_strays 58 = .ok (.iload_n 2, 1) := by decide +kernel
theorem dX4_strays_59 : decode cX4_strays 59 = .ok (.iconst 1, 1) := by decide +kernel
theorem dX4_strays_60 : decode cX4_strays 60 = .ok (.isub, 1) := by decide +kernel
theorem dX4_strays_61 : decode cX4_strays 61 = .ok (.invokevirtual 104, 3) := by decide +kernel
theorem dX4_strays_64 : decode cX4_strays 64 = .ok (.isub, 1) := by decide +kernel
theorem dX4_strays_65 : decode cX4_strays 65 = .ok (.invokestatic 63, 3) := by decide +kernel
theorem dX4_strays_68 : decode cX4_strays 68 = .ok (.istore 4, 2) := by decide +kernel
theorem dX4_strays_70 : decode cX4_strays 70 = .ok (.aload_n 0, 1) := by decide +kernel
theorem dX4_strays_71 : decode cX4_strays 71 = .ok (.aload_n 0, 1) := by decide +kernel
theorem dX4_strays_72 : decode cX4_strays 72 = .ok (.getfield 60, 3) := by decide +kernel
theorem dX4_strays_75 : decode cX4_strays 75 = .ok (.iload_n 2, 1) := by decide +kernel
theorem dX4_strays_76 : decode cX4_strays 76 = .ok (.invokevirtual 104, 3) := by decide +kernel
theorem dX4_strays_79 : decode cX4_strays 79 = .ok (.aload_n 0, 1) := by decide +kernel
theorem dX4_strays_80 : decode cX4_strays 80 = .ok (.aload_n 0, 1) := by decide +kernel
theorem dX4_strays_81 : decode cX4_strays 81 = .ok (.getfield 60, 3) := by decide +kernel
theorem dX4_strays_84 : decode cX4_strays 84 = .ok (.iload_n 2, 1) := by decide +kernel
theorem dX4_strays_85 : decode cX4_strays 85 = .ok (.iconst 1, 1) := by decide +kernel
theorem dX4_strays_86 : decode cX4_strays 86 = .ok (.isub, 1) := by decide +kernel
theorem dX4_strays_87 : decode cX4_strays 87 = .ok (.invokevirtual 104, 3) := by decide +kernel
theorem dX4_strays_90 : decode cX4_strays 90 = .ok (.isub, 1) := by decide +kernel
theorem dX4_strays_91 : decode cX4_strays 91 = .ok (.invokestatic 63, 3) := by decide +kernel
theorem dX4_strays_94 : decode cX4_strays 94 = .ok (.istore 5, 2) := by decide +kernel
theorem dX4_strays_96 : decode cX4_strays 96 = .ok (.iload_n 3, 1) := by decide +kernel
theorem dX4_strays_97 : decode cX4_strays 97 = .ok (.iconst 1, 1) := by decide +kernel
theorem dX4_strays_98 : decode cX4_strays 98 = .ok (.if_icmp .gt 25, 3) := by decide +kernel
theorem dX4_strays_101 : decode cX4_strays 101 = .ok (.iload 4, 2) := by decide +kernel
theorem dX4_strays_103 : decode cX4_strays 103 = .ok (.iconst 1, 1) := by decide +kernel
theorem dX4_strays_104 : decode cX4_strays 104 = .ok (.if_icmp .gt 19, 3) := by decide +kernel
theorem dX4_strays_107 : decode cX4_strays 107 = .ok (.iload 5, 2) := by decide +kernel
theorem dX4_strays_109 : decode cX4_strays 109 = .ok (.iconst 1, 1) := by decide +kernel
theorem dX4_strays_110 : decode cX4_strays 110 = .ok (.if_icmp .gt 13, 3) := by decide +kernel
theorem dX4_strays_113 : decode cX4_strays 113 = .ok (.iload_n 3, 1) := by decide +kernel
theorem dX4_strays_114 : decode cX4_strays 114 = .ok (.iload 4, 2) := by decide +kernel
theorem dX4_strays_116 : decode cX4_strays 116 = .ok (.iadd, 1) := by decide +kernel
theorem dX4_strays_117 : decode cX4_strays 117 = .ok (.iload 5, 2) := by decide +kernel
theorem dX4_strays_119 : decode cX4_strays 119 = .ok (.iadd, 1) := by decide +kernel
theorem dX4_strays_120 : decode cX4_strays 120 = .ok (.ifCond .ne 6, 3) := by decide +kernel
theorem dX4_strays_123 : decode cX4_strays 123 = .ok (.iinc 1 1, 3) := by decide +kernel
theorem dX4_strays_126 : decode cX4_strays 126 = .ok (.iinc 2 1, 3) := by decide +kernel
theorem dX4_strays_129 : decode cX4_strays 129 = .ok (.goto (-125), 3) := by decide +kernel
theorem dX4_strays_132 : decode cX4_strays 132 = .ok (.iload_n 1, 1) := by decide +kernel
theorem dX4_strays_133 : decode cX4_strays 133 = .ok (.ireturn, 1) := by decide +kernel
theorem dJ9_floorDiv_f86c9_0 : decode cJ9_floorDiv_f86c9 0 = .ok (.lload_n 0, 1) := by decide +kernel
theorem dJ9_floorDiv_f86c9_1 : decode cJ9_floorDiv_f86c9 1 = .ok (.lload_n 2, 1) := by decide +kernel
theorem dJ9_floorDiv_f86c9_2 : decode cJ9_floorDiv_f86c9 2 = .ok (.ldiv, 1) := by decide +kernel
theorem dJ9_floorDiv_f86c9_3 : decode cJ9_floorDiv_f86c9 3 = .ok (.lstore 4, 2) := by decide +kernel
theorem dJ9_floorDiv_f86c9_5 : decode cJ9_floorDiv_f86c9 5 = .ok (.lload_n 0, 1) := by decide +kernel
theorem dJ9_floorDiv_f86c9_6 : decode cJ9_floorDiv_f86c9 6 = .ok (.lload_n 2, 1) := by decide +kernel
theorem dJ9_floorDiv_f86c9_7 : decode cJ9_floorDiv_f86c9 7 = .ok (.lxor, 1) := by decide +kernel
theorem dJ9_floorDiv_f86c9_8 : decode cJ9_floorDiv_f86c9 8 = .ok (.lconst 0, 1) := by decide +kernel
theorem dJ9_floorDiv_f86c9_9 : decode cJ9_floorDiv_f86c9 9 = .ok (.lcmp, 1) := by decide +kernel
theorem dJ9_floorDiv_f86c9_10 : decode cJ9_floorDiv_f86c9 10 = .ok (.ifCond .ge 17, 3) := by decide +kernel
theorem dJ9_floorDiv_f86c9_13 : decode cJ9_floorDiv_f86c9 13 = .ok (.lload 4, 2) := by decide +kernel
theorem dJ9_floorDiv_f86c9_15 : decode cJ9_floorDiv_f86c9 15 = .ok (.lload_n 2, 1) := by decide +kernel
theorem dJ9_floorDiv_f86c9_16 : decode cJ9_floorDiv_f86c9 16 = .ok (.lmul, 1) := by decide +kernel
theorem dJ9_floorDiv_f86c9_17 : decode cJ9_floorDiv_f86c9 17 = .ok (.lload_n 0, 1) := by decide +kernel
theorem dJ9_floorDiv_f86c9_18 : decode cJ9_floorDiv_f86c9 18 = .ok (.lcmp, 1) := by decide +kernel
theorem dJ9_floorDiv_f86c9_19 : decode cJ9_floorDiv_f86c9 19 = .ok (.ifCond .eq 8, 3) := by decide +kernel
theorem dJ9_floorDiv_f86c9_22 : decode cJ9_floorDiv_f86c9 22 = .ok (.lload 4, 2) := by decide +kernel
theorem dJ9_floorDiv_f86c9_24 : decode cJ9_floorDiv_f86c9 24 = .ok (.lconst 1, 1) := by decide +kernel
theorem dJ9_floorDiv_f86c9_25 : decode cJ9_floorDiv_f86c9 25 = .ok (.lsub, 1) := by decide +kernel
theorem dJ9_floorDiv_f86c9_26 : decode cJ9_floorDiv_f86c9 26 = .ok (.lreturn, 1) := by decide +kernel
theorem dJ9_floorDiv_f86c9_27 : decode cJ9_floorDiv_f86c9 27 = .ok (.lload 4, 2) := by decide +kernel
theorem dJ9_floorDiv_f86c9_29 : decode cJ9_floorDiv_f86c9 29 = .ok (.lreturn, 1) := by decide +kernel
theorem dJ9_abs_0f7a4_0 : decode cJ9_abs_0f7a4 0 = .ok (.iload_n 0, 1) := by decide +kernel
theorem dJ9_abs_0f7a4_1 : decode cJ9_abs_0f7a4 1 = .ok (.ifCond .ge 8, 3) := by decide +kernel
theorem dJ9_abs_0f7a4_4 : decode cJ9_abs_0f7a4 4 = .ok (.iload_n 0, 1) := by decide +kernel
theorem dJ9_abs_0f7a4_5 : decode cJ9_abs_0f7a4 5 = .ok (.ineg, 1) := by decide +kernel
theorem dJ9_abs_0f7a4_6 : decode cJ9_abs_0f7a4 6 = .ok (.goto 4, 3) := by decide +kernel
theorem dJ9_abs_0f7a4_9 : decode cJ9_abs_0f7a4 9 = .ok (.iload_n 0, 1) := by decide +kernel
theorem dJ9_abs_0f7a4_10 : decode cJ9_abs_0f7a4 10 = .ok (.ireturn, 1) := by decide +kernel
theorem dJ9_abs_067f4_0 : decode cJ9_abs_067f4 0 = .ok (.lload_n 0, 1) := by decide +kernel
theorem dJ9_abs_067f4_1 : decode cJ9_abs_067f4 1 = .ok (.lconst 0, 1) := by decide +kernel
theorem dJ9_abs_067f4_2 : decode cJ9_abs_067f4 2 = .ok (.lcmp, 1) := by decide +kernel
theorem dJ9_abs_067f4_3 : decode cJ9_abs_067f4 3 = .ok (.ifCond .ge 8, 3) := by decide +kernel
theorem dJ9_abs_067f4_6 : decode cJ9_abs_067f4 6 = .ok (.lload_n 0, 1) := by decide +kernel
theorem dJ9_abs_067f4_7 : decode cJ9_abs_067f4 7 = .ok (.lneg, 1) := by decide +kernel
theorem dJ9_abs_067f4_8 : decode cJ9_abs_067f4 8 = .ok (.goto 4, 3) := by decide +kernel
theorem dJ9_abs_067f4_11 : decode cJ9_abs_067f4 11 = .ok (.lload_n 0, 1) := by decide +kernel
theorem dJ9_abs_067f4_12 : decode cJ9_abs_067f4 12 = .ok (.lreturn, 1) := by decide +kernel
theorem dJ9_max_7cf53_0 : decode cJ9_max_7cf53 0 = .ok (.iload_n 0, 1) := by decide +kernel
theorem dJ9_max_7cf53_1 : decode cJ9_max_7cf53 1 = .ok (.iload_n 1, 1) := by decide +kernel
theorem dJ9_max_7cf53_2 : decode cJ9_max_7cf53 2 = .ok (.if_icmp .lt 7, 3) := by decide +kernel
theorem dJ9_max_7cf53_5 : decode cJ9_max_7cf53 5 = .ok (.iload_n 0, 1) := by decide +kernel
theorem dJ9_max_7cf53_6 : decode cJ9_max_7cf53 6 = .ok (.goto 4, 3) := by decide +kernel
theorem dJ9_max_7cf53_9 : decode cJ9_max_7cf53 9 = .ok (.iload_n 1, 1) := by decide +kernel
theorem dJ9_max_7cf53_10 : decode cJ9_max_7cf53 10 = .ok (.ireturn, 1) := by decide +kernel
theorem dJ9_max_f86c9_0 : decode cJ9_max_f86c9 0 = .ok (.lload_n 0, 1) := by decide +kernel
theorem dJ9_max_f86c9_1 : decode cJ9_max_f86c9 1 = .ok (.lload_n 2, 1) := by decide +kernel
theorem dJ9_max_f86c9_2 : decode cJ9_max_f86c9 2 = .ok (.lcmp, 1) := by decide +kernel
theorem dJ9_max_f86c9_3 : decode cJ9_max_f86c9 3 = .ok (.ifCond .lt 7, 3) := by decide +kernel
theorem dJ9_max_f86c9_6 : decode cJ9_max_f86c9 6 = .ok (.lload_n 0, 1) := by decide +kernel
theorem dJ9_max_f86c9_7 : decode cJ9_max_f86c9 7 = .ok (.goto 4, 3) := by decide +kernel
theorem dJ9_max_f86c9_10 : decode cJ9_max_f86c9 10 = .ok (.lload_n 2, 1) := by decide +kernel
theorem dJ9_max_f86c9_11 : decode cJ9_max_f86c9 11 = .ok (.lreturn, 1) := by decide +kernel
set_option maxRecDepth 20000 in
theorem ggL_law_X3_init : GoodIn wsL_law wsX3_init := goodIn_r _ [8, 9, 10, 11, 12, 13, 14, 15, 16, 17, 18, 19, 20, 21, 22, 23, 24, 25, 26, 27, 28, 29, 30, 31, 32, 33, 34, 35, 36, 37, 38, 39, 40, 41, 42, 43, 44, 45, 46, 47, 284, 285, 286, 287, 288, 304, 305, 306, 307, 308, 309, 310, 311, 312, 313, 314, 315, 316, 317, 318, 319] (by decide +kernel) (by decide +kernel)
set_option maxRecDepth 20000 in
theorem gL_law_X3_init : GoodIn wsL_law (wsX3_init) := ggL_law_X3_init
set_option maxRecDepth 20000 in
theorem ggL_law_X4_init : GoodIn wsL_law wsX4_init := goodIn_r _ [50, 51, 10, 11, 52, 53, 54, 55, 289, 290, 291, 292, 293, 294, 295, 296, 297, 298, 299, 300, 301, 302, 303] (by decide +kernel) (by decide +kernel)
set_option maxRecDepth 20000 in
theorem gL_law_X4_init : GoodIn wsL_law (wsX4_init) := ggL_law_X4_init
set_option maxRecDepth 20000 in
theorem ggL_law_X3_place : GoodIn wsL_law wsX3_place := goodIn_r _ [59, 23, 60, 61, 2, 62, 63, 64, 65, 66, 67, 68, 69, 13, 284, 285, 286, 287, 288] (by decide +kernel) (by decide +kernel)
set_option maxRecDepth 20000 in
theorem gL_law_X3_place : GoodIn wsL_law (wsV RL 13 RX3 yX3_place wsX3_place) := goodIn_app (goodIn_of _ (by decide +kernel)) ggL_law_X3_place
set_option maxRecDepth 20000 in
theorem ggL_law_X4_place : GoodIn wsL_law wsX4_place := goodIn_r _ [73, 74, 75, 76, 77, 78, 79, 80, 81, 5, 82, 289, 290, 291, 292, 293, 294, 295, 296, 297, 298, 299, 300, 301, 302, 303] (by decide +kernel) (by decide +kernel)
set_option maxRecDepth 20000 in
theorem gL_law_X4_place : GoodIn wsL_law (wsV RL 17 RX4 yX4_place wsX4_place) := goodIn_app (goodIn_of _ (by decide +kernel)) ggL_law_X4_place
set_option maxRecDepth 20000 in
theorem ggL_law_X3_line : GoodIn wsL_law wsX3_line := goodIn_r _ [86, 17, 13, 23, 60, 61, 2, 62, 63, 64, 65, 87, 88, 89, 16, 90, 26, 27, 28, 29, 91, 92, 93, 94, 95, 96, 97, 98, 99, 66, 67, 68, 69, 100, 101, 102, 103, 284, 285, 286, 287, 288, 304, 305, 306, 307] (by decide +kernel) (by decide +kernel)
set_option maxRecDepth 20000 in
theorem gL_law_X3_line : GoodIn wsL_law (wsV RL 18 RX3 yX3_line wsX3_line) := goodIn_app (goodIn_of _ (by decide +kernel)) ggL_law_X3_line
set_option maxRecDepth 20000 in
theorem ggL_law_X4_line : GoodIn wsL_law wsX4_line := goodIn_r _ [107, 74, 108, 75, 109, 76, 110, 111, 98, 95, 99, 78, 80, 81, 5, 82, 112, 113, 114, 115, 116, 117, 118, 77, 119, 120, 121, 122, 79, 289, 290, 291, 292, 293, 294, 295, 296, 297, 298, 299, 300, 301, 302, 303] (by decide +kernel) (by decide +kernel)
set_option maxRecDepth 20000 in
theorem gL_law_X4_line : GoodIn wsL_law (wsV RL 22 RX4 yX4_line wsX4_line) := goodIn_app (goodIn_of _ (by decide +kernel)) ggL_law_X4_line
set_option maxRecDepth 20000 in
theorem ggL_law_X3_arc : GoodIn wsL_law wsX3_arc := goodIn_r _ [126, 13, 127, 22, 21, 23, 60, 61, 2, 62, 63, 64, 65, 128, 129, 130, 20, 131, 46, 47, 38, 39, 40, 41, 42, 43, 44, 45, 132, 133, 134, 135, 136, 137, 138, 139, 36, 37, 140, 141, 142, 143, 144, 145, 146, 147, 148, 149, 150, 151, 95, 152, 153, 154, 155, 156, 157, 98, 99, 158, 159, 160, 91, 92, 93, 94, 96, 97, 66, 67, 68, 69, 161, 162, 163, 164, 284, 285, 286, 287, 288, 308, 309, 310, 311, 312, 313, 314, 315, 316, 317, 318, 319] (by decide +kernel) (by decide +kernel)
set_option maxRecDepth 20000 in
theorem gL_law_X3_arc : GoodIn wsL_law (wsV RL 23 RX3 yX3_arc wsX3_arc) := goodIn_app (goodIn_of _ (by decide +kernel)) ggL_law_X3_arc
set_option maxRecDepth 20000 in
theorem ggL_law_X4_arc : GoodIn wsL_law wsX4_arc := goodIn_r _ [168, 74, 75, 169, 54, 55, 170, 171, 95, 172, 79, 80, 81, 5, 82, 173, 174, 175, 176, 52, 177, 178, 179, 180, 181, 182, 183, 184, 185, 186, 187, 188, 189, 115, 116, 117, 118, 77, 119, 120, 121, 76, 122, 78, 289, 290, 291, 292, 293, 294, 295, 296, 297, 298, 299, 300, 301, 302, 303] (by decide +kernel) (by decide +kernel)
set_option maxRecDepth 20000 in
theorem gL_law_X4_arc : GoodIn wsL_law (wsV RL 27 RX4 yX4_arc wsX4_arc) := goodIn_app (goodIn_of _ (by decide +kernel)) ggL_law_X4_arc
set_option maxRecDepth 20000 in
theorem ggL_law_X3_tick : GoodIn wsL_law wsX3_tick := goodIn_r _ [193, 23, 194, 195, 2, 196, 197, 198, 199, 162, 20, 164, 43, 200, 101, 16, 103, 28, 201, 202, 203, 204, 205, 38, 46, 47, 206, 207, 208, 209, 36, 37, 146, 147, 148, 149, 39, 40, 41, 42, 150, 151, 95, 152, 210, 211, 212, 26, 213, 27, 214, 215, 216, 217, 284, 285, 286, 287, 288, 308, 309, 310, 311, 312, 313, 314, 315, 316, 317, 318, 319, 304, 305, 306, 307] (by decide +kernel) (by decide +kernel)
set_option maxRecDepth 20000 in
theorem gL_law_X3_tick : GoodIn wsL_law (wsV RL 28 RX3 yX3_tick wsX3_tick) := goodIn_app (goodIn_of _ (by decide +kernel)) ggL_law_X3_tick
set_option maxRecDepth 20000 in
theorem ggL_law_X4_tick : GoodIn wsL_law wsX4_tick := goodIn_r _ [221, 77, 78, 119, 120, 108, 121, 109, 122, 110, 54, 222, 223, 224, 5, 225, 226, 227, 228, 229, 184, 185, 186, 187, 188, 189, 289, 290, 291, 292, 293, 294, 295, 296, 297, 298, 299, 300, 301, 302, 303] (by decide +kernel) (by decide +kernel)
set_option maxRecDepth 20000 in
theorem gL_law_X4_tick : GoodIn wsL_law (wsV RL 32 RX4 yX4_tick wsX4_tick) := goodIn_app (goodIn_of _ (by decide +kernel)) ggL_law_X4_tick
set_option maxRecDepth 20000 in
theorem ggL_law_X3_ticks : GoodIn wsL_law wsX3_ticks := goodIn_r _ [233, 23, 197, 198, 199, 162, 20, 164, 43, 200, 101, 16, 103, 28, 284, 285, 286, 287, 288, 308, 309, 310, 311, 312, 313, 314, 315, 316, 317, 318, 319, 304, 305, 306, 307] (by decide +kernel) (by decide +kernel)
set_option maxRecDepth 20000 in
theorem gL_law_X3_ticks : GoodIn wsL_law (wsV RL 33 RX3 yX3_ticks wsX3_ticks) := goodIn_app (goodIn_of _ (by decide +kernel)) ggL_law_X3_ticks
set_option maxRecDepth 20000 in
theorem ggL_law_X4_ticks : GoodIn wsL_law wsX4_ticks := goodIn_r _ [237, 78, 289, 290, 291, 292, 293, 294, 295, 296, 297, 298, 299, 300, 301, 302, 303] (by decide +kernel) (by decide +kernel)
set_option maxRecDepth 20000 in
theorem gL_law_X4_ticks : GoodIn wsL_law (wsV RL 37 RX4 yX4_ticks wsX4_ticks) := goodIn_app (goodIn_of _ (by decide +kernel)) ggL_law_X4_ticks
set_option maxRecDepth 20000 in
theorem ggL_law_X3_at : GoodIn wsL_law wsX3_at := goodIn_r _ [241, 13, 194, 195, 2, 196, 284, 285, 286, 287, 288] (by decide +kernel) (by decide +kernel)
set_option maxRecDepth 20000 in
theorem gL_law_X3_at : GoodIn wsL_law (wsV RL 38 RX3 yX3_at wsX3_at) := goodIn_app (goodIn_of _ (by decide +kernel)) ggL_law_X3_at
set_option maxRecDepth 20000 in
theorem ggL_law_X4_at : GoodIn wsL_law wsX4_at := goodIn_r _ [245, 74, 75, 76, 289, 290, 291, 292, 293, 294, 295, 296, 297, 298, 299, 300, 301, 302, 303] (by decide +kernel) (by decide +kernel)
set_option maxRecDepth 20000 in
theorem gL_law_X4_at : GoodIn wsL_law (wsV RL 42 RX4 yX4_at wsX4_at) := goodIn_app (goodIn_of _ (by decide +kernel)) ggL_law_X4_at
set_option maxRecDepth 20000 in
theorem ggL_law_X3_off : GoodIn wsL_law wsX3_off := goodIn_r _ [249, 23, 250, 251, 252, 253, 20, 254, 44, 255, 256, 16, 257, 284, 285, 286, 287, 288, 308, 309, 310, 311, 312, 313, 314, 315, 316, 317, 318, 319] (by decide +kernel) (by decide +kernel)
set_option maxRecDepth 20000 in
theorem gL_law_X3_off : GoodIn wsL_law (wsV RL 43 RX3 yX3_off wsX3_off) := goodIn_app (goodIn_of _ (by decide +kernel)) ggL_law_X3_off
set_option maxRecDepth 20000 in
theorem ggL_law_X4_off : GoodIn wsL_law wsX4_off := goodIn_r _ [261, 79, 289, 290, 291, 292, 293, 294, 295, 296, 297, 298, 299, 300, 301, 302, 303] (by decide +kernel) (by decide +kernel)
set_option maxRecDepth 20000 in
theorem gL_law_X4_off : GoodIn wsL_law (wsV RL 46 RX4 yX4_off wsX4_off) := goodIn_app (goodIn_of _ (by decide +kernel)) ggL_law_X4_off
set_option maxRecDepth 20000 in
theorem ggL_law_X3_strays : GoodIn wsL_law wsX3_strays := goodIn_r _ [265, 23, 266, 267, 268, 269, 20, 270, 45, 271, 272, 16, 273, 29, 274, 275, 276, 277, 26, 28, 278, 211, 279, 212, 213, 27, 214, 215, 216, 217, 158, 2, 159, 160, 91, 92, 93, 94, 95, 96, 97, 98, 99, 284, 285, 286, 287, 288, 308, 309, 310, 311, 312, 313, 314, 315, 316, 317, 318, 319, 304, 305, 306, 307] (by decide +kernel) (by decide +kernel)
set_option maxRecDepth 20000 in
theorem gL_law_X3_strays : GoodIn wsL_law (wsV RL 47 RX3 yX3_strays wsX3_strays) := goodIn_app (goodIn_of _ (by decide +kernel)) ggL_law_X3_strays
set_option maxRecDepth 20000 in
theorem ggL_law_X4_strays : GoodIn wsL_law wsX4_strays := goodIn_r _ [283, 78, 119, 108, 109, 110, 222, 223, 224, 5, 225, 226, 227, 228, 229, 112, 113, 114, 289, 290, 291, 292, 293, 294, 295, 296, 297, 298, 299, 300, 301, 302, 303] (by decide +kernel) (by decide +kernel)
set_option maxRecDepth 20000 in
theorem gL_law_X4_strays : GoodIn wsL_law (wsV RL 50 RX4 yX4_strays wsX4_strays) := goodIn_app (goodIn_of _ (by decide +kernel)) ggL_law_X4_strays
theorem dL_law_0 : decode cL_law 0 = .ok (.new 7, 3) := by decide +kernel
theorem dL_law_3 : decode cL_law 3 = .ok (.dup, 1) := by decide +kernel
theorem dL_law_4 : decode cL_law 4 = .ok (.invokespecial 9, 3) := by decide +kernel
theorem dL_law_7 : decode cL_law 7 = .ok (.astore_n 1, 1) := by decide +kernel
theorem dL_law_8 : decode cL_law 8 = .ok (.new 10, 3) := by decide +kernel
theorem dL_law_11 : decode cL_law 11 = .ok (.dup, 1) := by decide +kernel
theorem dL_law_12 : decode cL_law 12 = .ok (.invokespecial 12, 3) := by decide +kernel
theorem dL_law_15 : decode cL_law 15 = .ok (.astore_n 2, 1) := by decide +kernel
theorem dL_law_16 : decode cL_law 16 = .ok (.iconst 0, 1) := by decide +kernel
theorem dL_law_17 : decode cL_law 17 = .ok (.istore_n 3, 1) := by decide +kernel
theorem dL_law_18 : decode cL_law 18 = .ok (.iload_n 3, 1) := by decide +kernel
theorem dL_law_19 : decode cL_law 19 = .ok (.aload_n 0, 1) := by decide +kernel
theorem dL_law_20 : decode cL_law 20 = .ok (.arraylength, 1) := by decide +kernel
theorem dL_law_21 : decode cL_law 21 = .ok (.bipush 6, 2) := by decide +kernel
theorem dL_law_23 : decode cL_law 23 = .ok (.isub, 1) := by decide +kernel
theorem dL_law_24 : decode cL_law 24 = .ok (.if_icmp .gt 322, 3) := by decide +kernel
theorem dL_law_27 : decode cL_law 27 = .ok (.aload_n 0, 1) := by decide +kernel
theorem dL_law_28 : decode cL_law 28 = .ok (.iload_n 3, 1) := by decide +kernel
theorem dL_law_29 : decode cL_law 29 = .ok (.iaload, 1) := by decide +kernel
theorem dL_law_30 : decode cL_law 30 = .ok (.bipush 7, 2) := by decide +kernel
theorem dL_law_32 : decode cL_law 32 = .ok (.iand, 1) := by decide +kernel
theorem dL_law_33 : decode cL_law 33 = .ok (.tableswitch 307 0 7 #[47, 90, 133, 212, 245, 258, 281, 294], 47) := by decide +kernel
theorem dL_law_80 : decode cL_law 80 = .ok (.aload_n 1, 1) := by decide +kernel
theorem dL_law_81 : decode cL_law 81 = .ok (.aload_n 0, 1) := by decide +kernel
theorem dL_law_82 : decode cL_law 82 = .ok (.iload_n 3, 1) := by decide +kernel
theorem dL_law_83 : decode cL_law 83 = .ok (.iconst 1, 1) := by decide +kernel
theorem dL_law_84 : decode cL_law 84 = .ok (.iadd, 1) := by decide +kernel
theorem dL_law_85 : decode cL_law 85 = .ok (.iaload, 1) := by decide +kernel
theorem dL_law_86 : decode cL_law 86 = .ok (.aload_n 0, 1) := by decide +kernel
theorem dL_law_87 : decode cL_law 87 = .ok (.iload_n 3, 1) := by decide +kernel
theorem dL_law_88 : decode cL_law 88 = .ok (.iconst 2, 1) := by decide +kernel
theorem dL_law_89 : decode cL_law 89 = .ok (.iadd, 1) := by decide +kernel
theorem dL_law_90 : decode cL_law 90 = .ok (.iaload, 1) := by decide +kernel
theorem dL_law_91 : decode cL_law 91 = .ok (.aload_n 0, 1) := by decide +kernel
theorem dL_law_92 : decode cL_law 92 = .ok (.iload_n 3, 1) := by decide +kernel
theorem dL_law_93 : decode cL_law 93 = .ok (.iconst 3, 1) := by decide +kernel
theorem dL_law_94 : decode cL_law 94 = .ok (.iadd, 1) := by decide +kernel
theorem dL_law_95 : decode cL_law 95 = .ok (.iaload, 1) := by decide +kernel
theorem dL_law_96 : decode cL_law 96 = .ok (.invokevirtual 13, 3) := by decide +kernel
theorem dL_law_99 : decode cL_law 99 = .ok (.aload_n 2, 1) := by decide +kernel
theorem dL_law_100 : decode cL_law 100 = .ok (.aload_n 0, 1) := by decide +kernel
theorem dL_law_101 : decode cL_law 101 = .ok (.iload_n 3, 1) := by decide +kernel
theorem dL_law_102 : decode cL_law 102 = .ok (.iconst 1, 1) := by decide +kernel
theorem dL_law_103 : decode cL_law 103 = .ok (.iadd, 1) := by decide +kernel
theorem dL_law_104 : decode cL_law 104 = .ok (.iaload, 1) := by decide +kernel
theorem dL_law_105 : decode cL_law 105 = .ok (.aload_n 0, 1) := by decide +kernel
theorem dL_law_106 : decode cL_law 106 = .ok (.iload_n 3, 1) := by decide +kernel
theorem dL_law_107 : decode cL_law 107 = .ok (.iconst 2, 1) := by decide +kernel
theorem dL_law_108 : decode cL_law 108 = .ok (.iadd, 1) := by decide +kernel
theorem dL_law_109 : decode cL_law 109 = .ok (.iaload, 1) := by decide +kernel
theorem dL_law_110 : decode cL_law 110 = .ok (.aload_n 0, 1) := by decide +kernel
theorem dL_law_111 : decode cL_law 111 = .ok (.iload_n 3, 1) := by decide +kernel
theorem dL_law_112 : decode cL_law 112 = .ok (.iconst 3, 1) := by decide +kernel
theorem dL_law_113 : decode cL_law 113 = .ok (.iadd, 1) := by decide +kernel
theorem dL_law_114 : decode cL_law 114 = .ok (.iaload, 1) := by decide +kernel
theorem dL_law_115 : decode cL_law 115 = .ok (.invokevirtual 17, 3) := by decide +kernel
theorem dL_law_118 : decode cL_law 118 = .ok (.if_icmp .eq 222, 3) := by decide +kernel
theorem dL_law_121 : decode cL_law 121 = .ok (.iconst 0, 1) := by decide +kernel
theorem dL_law_122 : decode cL_law 122 = .ok (.ireturn, 1) := by decide +kernel
theorem dL_law_123 : decode cL_law 123 = .ok (.aload_n 1, 1) := by decide +kernel
theorem dL_law_124 : decode cL_law 124 = .ok (.aload_n 0, 1) := by decide +kernel
theorem dL_law_125 : decode cL_law 125 = .ok (.iload_n 3, 1) := by decide +kernel
theorem dL_law_126 : decode cL_law 126 = .ok (.iconst 1, 1) := by decide +kernel
theorem dL_law_127 : decode cL_law 127 = .ok (.iadd, 1) := by decide +kernel
theorem dL_law_128 : decode cL_law 128 = .ok (.iaload, 1) := by decide +kernel
theorem dL_law_129 : decode cL_law 129 = .ok (.aload_n 0, 1) := by decide +kernel
theorem dL_law_130 : decode cL_law 130 = .ok (.iload_n 3, 1) := by decide +kernel
theorem dL_law_131 : decode cL_law 131 = .ok (.iconst 2, 1) := by decide +kernel
theorem dL_law_132 : decode cL_law 132 = .ok (.iadd, 1) := by decide +kernel
theorem dL_law_133 : decode cL_law 133 = .ok (.iaload, 1) := by decide +kernel
theorem dL_law_134 : decode cL_law 134 = .ok (.aload_n 0, 1) := by decide +kernel
theorem dL_law_135 : decode cL_law 135 = .ok (.iload_n 3, 1) := by decide +kernel
theorem dL_law_136 : decode cL_law 136 = .ok (.iconst 3, 1) := by decide +kernel
theorem dL_law_137 : decode cL_law 137 = .ok (.iadd, 1) := by decide +kernel
theorem dL_law_138 : decode cL_law 138 = .ok (.iaload, 1) := by decide +kernel
theorem dL_law_139 : decode cL_law 139 = .ok (.invokevirtual 18, 3) := by decide +kernel
theorem dL_law_142 : decode cL_law 142 = .ok (.aload_n 2, 1) := by decide +kernel
theorem dL_law_143 : decode cL_law 143 = .ok (.aload_n 0, 1) := by decide +kernel
theorem dL_law_144 : decode cL_law 144 = .ok (.iload_n 3, 1) := by decide +kernel
theorem dL_law_145 : decode cL_law 145 = .ok (.iconst 1, 1) := by decide +kernel
theorem dL_law_146 : decode cL_law 146 = .ok (.iadd, 1) := by decide +kernel
theorem dL_law_147 : decode cL_law 147 = .ok (.iaload, 1) := by decide +kernel
theorem dL_law_148 : decode cL_law 148 = .ok (.aload_n 0, 1) := by decide +kernel
theorem dL_law_149 : decode cL_law 149 = .ok (.iload_n 3, 1) := by decide +kernel
theorem dL_law_150 : decode cL_law 150 = .ok (.iconst 2, 1) := by decide +kernel
theorem dL_law_151 : decode cL_law 151 = .ok (.iadd, 1) := by decide +kernel
theorem dL_law_152 : decode cL_law 152 = .ok (.iaload, 1) := by decide +kernel
theorem dL_law_153 : decode cL_law 153 = .ok (.aload_n 0, 1) := by decide +kernel
theorem dL_law_154 : decode cL_law 154 = .ok (.iload_n 3, 1) := by decide +kernel
theorem dL_law_155 : decode cL_law 155 = .ok (.iconst 3, 1) := by decide +kernel
theorem dL_law_156 : decode cL_law 156 = .ok (.iadd, 1) := by decide +kernel
theorem dL_law_157 : decode cL_law 157 = .ok (.iaload, 1) := by decide +kernel
theorem dL_law_158 : decode cL_law 158 = .ok (.invokevirtual 22, 3) := by decide +kernel
theorem dL_law_161 : decode cL_law 161 = .ok (.if_icmp .eq 179, 3) := by decide +kernel
theorem dL_law_164 : decode cL_law 164 = .ok (.iconst 0, 1) := by decide +kernel
theorem dL_law_165 : decode cL_law 165 = .ok (.ireturn, 1) := by decide +kernel
theorem dL_law_166 : decode cL_law 166 = .ok (.aload_n 1, 1) := by decide +kernel
theorem dL_law_167 : decode cL_law 167 = .ok (.aload_n 0, 1) := by decide +kernel
theorem dL_law_168 : decode cL_law 168 = .ok (.iload_n 3, 1) := by decide +kernel
theorem dL_law_169 : decode cL_law 169 = .ok (.iconst 1, 1) := by decide +kernel
theorem dL_law_170 : decode cL_law 170 = .ok (.iadd, 1) := by decide +kernel
theorem dL_law_171 : decode cL_law 171 = .ok (.iaload, 1) := by decide +kernel
theorem dL_law_172 : decode cL_law 172 = .ok (.aload_n 0, 1) := by decide +kernel
theorem dL_law_173 : decode cL_law 173 = .ok (.iload_n 3, 1) := by decide +kernel
theorem dL_law_174 : decode cL_law 174 = .ok (.iconst 2, 1) := by decide +kernel
theorem dL_law_175 : decode cL_law 175 = .ok (.iadd, 1) := by decide +kernel
theorem dL_law_176 : decode cL_law 176 = .ok (.iaload, 1) := by decide +kernel
theorem dL_law_177 : decode cL_law 177 = .ok (.aload_n 0, 1) := by decide +kernel
theorem dL_law_178 : decode cL_law 178 = .ok (.iload_n 3, 1) := by decide +kernel
theorem dL_law_179 : decode cL_law 179 = .ok (.iconst 3, 1) := by decide +kernel
theorem dL_law_180 : decode cL_law 180 = .ok (.iadd, 1) := by decide +kernel
theorem dL_law_181 : decode cL_law 181 = .ok (.iaload, 1) := by decide +kernel
theorem dL_law_182 : decode cL_law 182 = .ok (.aload_n 0, 1) := by decide +kernel
theorem dL_law_183 : decode cL_law 183 = .ok (.iload_n 3, 1) := by decide +kernel
theorem dL_law_184 : decode cL_law 184 = .ok (.iconst 4, 1) := by decide +kernel
theorem dL_law_185 : decode cL_law 185 = .ok (.iadd, 1) := by decide +kernel
theorem dL_law_186 : decode cL_law 186 = .ok (.iaload, 1) := by decide +kernel
theorem dL_law_187 : decode cL_law 187 = .ok (.aload_n 0, 1) := by decide +kernel
theorem dL_law_188 : decode cL_law 188 = .ok (.iload_n 3, 1) := by decide +kernel
theorem dL_law_189 : decode cL_law 189 = .ok (.iconst 5, 1) := by decide +kernel
theorem dL_law_190 : decode cL_law 190 = .ok (.iadd, 1) := by decide +kernel
theorem dL_law_191 : decode cL_law 191 = .ok (.iaload, 1) := by decide +kernel
theorem dL_law_192 : decode cL_law 192 = .ok (.ifCond .eq 7, 3) := by decide +kernel
theorem dL_law_195 : decode cL_law 195 = .ok (.iconst 1, 1) := by decide +kernel
theorem dL_law_196 : decode cL_law 196 = .ok (.goto 4, 3) := by decide +kernel
theorem dL_law_199 : decode cL_law 199 = .ok (.iconst 0, 1) := by decide +kernel
theorem dL_law_200 : decode cL_law 200 = .ok (.invokevirtual 23, 3) := by decide +kernel
theorem dL_law_203 : decode cL_law 203 = .ok (.aload_n 2, 1) := by decide +kernel
theorem dL_law_204 : decode cL_law 204 = .ok (.aload_n 0, 1) := by decide +kernel
theorem dL_law_205 : decode cL_law 205 = .ok (.iload_n 3, 1) := by decide +kernel
theorem dL_law_206 : decode cL_law 206 = .ok (.iconst 1, 1) := by decide +kernel
theorem dL_law_207 : decode cL_law 207 = .ok (.iadd, 1) := by decide +kernel
theorem dL_law_208 : decode cL_law 208 = .ok (.iaload, 1) := by decide +kernel
theorem dL_law_209 : decode cL_law 209 = .ok (.aload_n 0, 1) := by decide +kernel
theorem dL_law_210 : decode cL_law 210 = .ok (.iload_n 3, 1) := by decide +kernel
theorem dL_law_211 : decode cL_law 211 = .ok (.iconst 2, 1) := by decide +kernel
theorem dL_law_212 : decode cL_law 212 = .ok (.iadd, 1) := by decide +kernel
theorem dL_law_213 : decode cL_law 213 = .ok (.iaload, 1) := by decide +kernel
theorem dL_law_214 : decode cL_law 214 = .ok (.aload_n 0, 1) := by decide +kernel
theorem dL_law_215 : decode cL_law 215 = .ok (.iload_n 3, 1) := by decide +kernel
theorem dL_law_216 : decode cL_law 216 = .ok (.iconst 3, 1) := by decide +kernel
theorem dL_law_217 : decode cL_law 217 = .ok (.iadd, 1) := by decide +kernel
theorem dL_law_218 : decode cL_law 218 = .ok (.iaload, 1) := by decide +kernel
theorem dL_law_219 : decode cL_law 219 = .ok (.aload_n 0, 1) := by decide +kernel
theorem dL_law_220 : decode cL_law 220 = .ok (.iload_n 3, 1) := by decide +kernel
theorem dL_law_221 : decode cL_law 221 = .ok (.iconst 4, 1) := by decide +kernel
theorem dL_law_222 : decode cL_law 222 = .ok (.iadd, 1) := by decide +kernel
theorem dL_law_223 : decode cL_law 223 = .ok (.iaload, 1) := by decide +kernel
theorem dL_law_224 : decode cL_law 224 = .ok (.aload_n 0, 1) := by decide +kernel
theorem dL_law_225 : decode cL_law 225 = .ok (.iload_n 3, 1) := by decide +kernel
theorem dL_law_226 : decode cL_law 226 = .ok (.iconst 5, 1) := by decide +kernel
theorem dL_law_227 : decode cL_law 227 = .ok (.iadd, 1) := by decide +kernel
theorem dL_law_228 : decode cL_law 228 = .ok (.iaload, 1) := by decide +kernel
theorem dL_law_229 : decode cL_law 229 = .ok (.ifCond .eq 7, 3) := by decide +kernel
theorem dL_law_232 : decode cL_law 232 = .ok (.iconst 1, 1) := by decide +kernel
theorem dL_law_233 : decode cL_law 233 = .ok (.goto 4, 3) := by decide +kernel
theorem dL_law_236 : decode cL_law 236 = .ok (.iconst 0, 1) := by decide +kernel
theorem dL_law_237 : decode cL_law 237 = .ok (.invokevirtual 27, 3) := by decide +kernel
theorem dL_law_240 : decode cL_law 240 = .ok (.if_icmp .eq 100, 3) := by decide +kernel
theorem dL_law_243 : decode cL_law 243 = .ok (.iconst 0, 1) := by decide +kernel
theorem dL_law_244 : decode cL_law 244 = .ok (.ireturn, 1) := by decide +kernel
theorem dL_law_245 : decode cL_law 245 = .ok (.aload_n 1, 1) := by decide +kernel
theorem dL_law_246 : decode cL_law 246 = .ok (.aload_n 0, 1) := by decide +kernel
theorem dL_law_247 : decode cL_law 247 = .ok (.iload_n 3, 1) := by decide +kernel
theorem dL_law_248 : decode cL_law 248 = .ok (.iconst 1, 1) := by decide +kernel
theorem dL_law_249 : decode cL_law 249 = .ok (.iadd, 1) := by decide +kernel
theorem dL_law_250 : decode cL_law 250 = .ok (.iaload, 1) := by decide +kernel
theorem dL_law_251 : decode cL_law 251 = .ok (.aload_n 0, 1) := by decide +kernel
theorem dL_law_252 : decode cL_law 252 = .ok (.iload_n 3, 1) := by decide +kernel
theorem dL_law_253 : decode cL_law 253 = .ok (.iconst 2, 1) := by decide +kernel
theorem dL_law_254 : decode cL_law 254 = .ok (.iadd, 1) := by decide +kernel
theorem dL_law_255 : decode cL_law 255 = .ok (.iaload, 1) := by decide +kernel
theorem dL_law_256 : decode cL_law 256 = .ok (.invokevirtual 28, 3) := by decide +kernel
theorem dL_law_259 : decode cL_law 259 = .ok (.aload_n 2, 1) := by decide +kernel
theorem dL_law_260 : decode cL_law 260 = .ok (.aload_n 0, 1) := by decide +kernel
theorem dL_law_261 : decode cL_law 261 = .ok (.iload_n 3, 1) := by decide +kernel
theorem dL_law_262 : decode cL_law 262 = .ok (.iconst 1, 1) := by decide +kernel
theorem dL_law_263 : decode cL_law 263 = .ok (.iadd, 1) := by decide +kernel
theorem dL_law_264 : decode cL_law 264 = .ok (.iaload, 1) := by decide +kernel
theorem dL_law_265 : decode cL_law 265 = .ok (.aload_n 0, 1) := by decide +kernel
theorem dL_law_266 : decode cL_law 266 = .ok (.iload_n 3, 1) := by decide +kernel
theorem dL_law_267 : decode cL_law 267 = .ok (.iconst 2, 1) := by decide +kernel
theorem dL_law_268 : decode cL_law 268 = .ok (.iadd, 1) := by decide +kernel
theorem dL_law_269 : decode cL_law 269 = .ok (.iaload, 1) := by decide +kernel
theorem dL_law_270 : decode cL_law 270 = .ok (.invokevirtual 32, 3) := by decide +kernel
theorem dL_law_273 : decode cL_law 273 = .ok (.if_icmp .eq 67, 3) := by decide +kernel
theorem dL_law_276 : decode cL_law 276 = .ok (.iconst 0, 1) := by decide +kernel
theorem dL_law_277 : decode cL_law 277 = .ok (.ireturn, 1) := by decide +kernel
theorem dL_law_278 : decode cL_law 278 = .ok (.aload_n 1, 1) := by decide +kernel
theorem dL_law_279 : decode cL_law 279 = .ok (.invokevirtual 33, 3) := by decide +kernel
theorem dL_law_282 : decode cL_law 282 = .ok (.aload_n 2, 1) := by decide +kernel
theorem dL_law_283 : decode cL_law 283 = .ok (.invokevirtual 37, 3) := by decide +kernel
theorem dL_law_286 : decode cL_law 286 = .ok (.if_icmp .eq 54, 3) := by decide +kernel
theorem dL_law_289 : decode cL_law 289 = .ok (.iconst 0, 1) := by decide +kernel
theorem dL_law_290 : decode cL_law 290 = .ok (.ireturn, 1) := by decide +kernel
theorem dL_law_291 : decode cL_law 291 = .ok (.aload_n 1, 1) := by decide +kernel
theorem dL_law_292 : decode cL_law 292 = .ok (.aload_n 0, 1) := by decide +kernel
theorem dL_law_293 : decode cL_law 293 = .ok (.iload_n 3, 1) := by decide +kernel
theorem dL_law_294 : decode cL_law 294 = .ok (.iconst 1, 1) := by decide +kernel
theorem dL_law_295 : decode cL_law 295 = .ok (.iadd, 1) := by decide +kernel
theorem dL_law_296 : decode cL_law 296 = .ok (.iaload, 1) := by decide +kernel
theorem dL_law_297 : decode cL_law 297 = .ok (.invokevirtual 38, 3) := by decide +kernel
theorem dL_law_300 : decode cL_law 300 = .ok (.aload_n 2, 1) := by decide +kernel
theorem dL_law_301 : decode cL_law 301 = .ok (.aload_n 0, 1) := by decide +kernel
theorem dL_law_302 : decode cL_law 302 = .ok (.iload_n 3, 1) := by decide +kernel
theorem dL_law_303 : decode cL_law 303 = .ok (.iconst 1, 1) := by decide +kernel
theorem dL_law_304 : decode cL_law 304 = .ok (.iadd, 1) := by decide +kernel
theorem dL_law_305 : decode cL_law 305 = .ok (.iaload, 1) := by decide +kernel
theorem dL_law_306 : decode cL_law 306 = .ok (.invokevirtual 42, 3) := by decide +kernel
theorem dL_law_309 : decode cL_law 309 = .ok (.if_icmp .eq 31, 3) := by decide +kernel
theorem dL_law_312 : decode cL_law 312 = .ok (.iconst 0, 1) := by decide +kernel
theorem dL_law_313 : decode cL_law 313 = .ok (.ireturn, 1) := by decide +kernel
theorem dL_law_314 : decode cL_law 314 = .ok (.aload_n 1, 1) := by decide +kernel
theorem dL_law_315 : decode cL_law 315 = .ok (.invokevirtual 43, 3) := by decide +kernel
theorem dL_law_318 : decode cL_law 318 = .ok (.aload_n 2, 1) := by decide +kernel
theorem dL_law_319 : decode cL_law 319 = .ok (.invokevirtual 46, 3) := by decide +kernel
theorem dL_law_322 : decode cL_law 322 = .ok (.if_icmp .eq 18, 3) := by decide +kernel
theorem dL_law_325 : decode cL_law 325 = .ok (.iconst 0, 1) := by decide +kernel
theorem dL_law_326 : decode cL_law 326 = .ok (.ireturn, 1) := by decide +kernel
theorem dL_law_327 : decode cL_law 327 = .ok (.aload_n 1, 1) := by decide +kernel
theorem dL_law_328 : decode cL_law 328 = .ok (.invokevirtual 47, 3) := by decide +kernel
theorem dL_law_331 : decode cL_law 331 = .ok (.aload_n 2, 1) := by decide +kernel
theorem dL_law_332 : decode cL_law 332 = .ok (.invokevirtual 50, 3) := by decide +kernel
theorem dL_law_335 : decode cL_law 335 = .ok (.if_icmp .eq 5, 3) := by decide +kernel
theorem dL_law_338 : decode cL_law 338 = .ok (.iconst 0, 1) := by decide +kernel
theorem dL_law_339 : decode cL_law 339 = .ok (.ireturn, 1) := by decide +kernel
theorem dL_law_340 : decode cL_law 340 = .ok (.iinc 3 6, 3) := by decide +kernel
theorem dL_law_343 : decode cL_law 343 = .ok (.goto (-325), 3) := by decide +kernel
theorem dL_law_346 : decode cL_law 346 = .ok (.iconst 1, 1) := by decide +kernel
theorem dL_law_347 : decode cL_law 347 = .ok (.ireturn, 1) := by decide +kernel
abbrev vwCl : List vw_C := [(RX0, TX0, 12), (RX1, TX1, 4), (RX3, TX3, 5), (RX4, TX4, 15)]
end
section
/-! The frame of every contract here: a world of cells, the int arrays' class cA, the static tables of steps; one row a call, one row an end, one row a loop. -/
def st_X (j : Nat) : Int32 := match j with | 0 => 1 | 1 => 1 | 2 => 0 | 3 => -1 | 4 => -1 | 5 => -1 | 6 => 0 | _ => 1
def st_Y (j : Nat) : Int32 := match j with | 0 => 0 | 1 => 1 | 2 => 1 | 3 => 1 | 4 => 0 | 5 => -1 | 6 => -1 | _ => -1
def st_Z (A : Nat → Prop) (U : State) (H : Heap) : Prop := ∃ tx ty : Nat, va_Z "TickWalks" "STEP_X" "[I" (.ref tx) A U H ∧ va_T .int tx 8 (fun j => .int (st_X j)) A U H ∧ va_Z "TickWalks" "STEP_Y" "[I" (.ref ty) A U H ∧ va_T .int ty 8 (fun j => .int (st_Y j)) A U H
theorem st_Z.moved {A : Nat → Prop} {u U : State} {H : Heap} (hvm : u.vm.Alike U.vm) (h : st_Z A u H) : st_Z A U H := by
  obtain ⟨tx, ty, h1, h2, h3, h4⟩ := h
  exact ⟨tx, ty, h1.moved hvm, h2.moved hvm, h3.moved hvm, h4.moved hvm⟩
theorem st_Z.kept {A : Nat → Prop} {U : State} {H H1 : Heap} (h : st_Z A U H) (hq : ∀ a : Nat, a < H.size → ¬ A a → H1[a]? = H[a]?) : st_Z A U H1 := by
  obtain ⟨tx, ty, h1, h2, h3, h4⟩ := h
  exact ⟨tx, ty, h1.kept hq, h2.kept hq, h3.kept hq, h4.kept hq⟩
theorem st_Z.narrow {A B : Nat → Prop} {U : State} {H : Heap} (h : st_Z A U H) (hAB : ∀ q, B q → A q) : st_Z B U H := by
  obtain ⟨tx, ty, h1, h2, h3, h4⟩ := h
  exact ⟨tx, ty, h1.narrow hAB, h2.narrow hAB, h3.narrow hAB, h4.narrow hAB⟩
/-- links to nest mates' private members, and Walk's abstract methods: words of the tables that a contract carries as a state's -/
def nw_Z (U : State) : Prop := va_Nw (.methodLinkNest RX3 15 yX1_init "TickWalks") U ∧ va_Nw (.methodLinkNest RX1 3 yX2_init "TickWalks") U ∧ va_Nw (.methodLinkNest RX3 22 yX0_init "TickWalks") U ∧ va_Nw (.methodLinkNest RX0 3 yX2_init "TickWalks") U ∧ va_Nw (.methodLinkNest RX1 25 yX3_greatestAmount "TickWalks") U ∧ va_Nw (.fieldLinkNest RX0 87 "TickWalks" "STEP_X" "[I" "TickWalks") U ∧ va_Nw (.fieldLinkNest RX0 90 "TickWalks" "STEP_Y" "[I" "TickWalks") U ∧ va_Nw (.methodLinkNest RX0 83 yX3_isStray "TickWalks") U ∧ va_Nw (.methodLinkNest RX1 45 yX3_isStray "TickWalks") U ∧ va_Nw (.declares ⟨"TickWalks$Walk", "length", "()I"⟩) U ∧ va_Nw (.declares ⟨"TickWalks$Walk", "placeBehind", "(II)I"⟩) U ∧ va_Nw (.declares ⟨"TickWalks$Walk", "greatestOff", "()I"⟩) U ∧ va_Nw (.declares ⟨"TickWalks$Walk", "strayTicks", "()I"⟩) U
theorem nw_Z.warm {s U : State} (hW : s.WarmedH U.vm) (h : nw_Z s) : nw_Z U := by
  obtain ⟨h1, h2, h3, h4, h5, h6, h7, h8, h9, g1, g2, g3, g4⟩ := h
  exact ⟨h1.warmM hW, h2.warmM hW, h3.warmM hW, h4.warmM hW, h5.warmM hW, h6.warmF hW, h7.warmF hW, h8.warmM hW, h9.warmM hW, g1.warmD hW, g2.warmD hW, g3.warmD hW, g4.warmD hW⟩
theorem nw_Z.same {s U : State} (hW : s.vm = U.vm) (h : nw_Z s) : nw_Z U := by
  obtain ⟨h1, h2, h3, h4, h5, h6, h7, h8, h9, g1, g2, g3, g4⟩ := h
  exact ⟨h1.same rfl hW, h2.same rfl hW, h3.same rfl hW, h4.same rfl hW, h5.same rfl hW, h6.same rfl hW, h7.same rfl hW, h8.same rfl hW, h9.same rfl hW, g1.same rfl hW, g2.same rfl hW, g3.same rfl hW, g4.same rfl hW⟩
abbrev ct_P (dC : Nat → ClassId) (dI : Nat → Nat → Nat) (cA cB : ClassId) (sz : Nat) (ws : va_W) : State → Prop := fun U => U.heap.size = sz ∧ va_P (dC, dI) vwCl ws U.heap ∧ va_K (dC, dI) vwCl [(cA, .int), (cB, .byte)] U ∧ va_D (fun _ => True) ws ∧ st_Z (va_A ws sz) U U.heap ∧ nw_Z U
abbrev ct_B (dC : Nat → ClassId) (dI : Nat → Nat → Nat) (A : Nat → Prop) (ws : va_W) : State → Prop := fun t => va_P (dC, dI) vwCl ws t.heap ∧ va_D A ws
theorem ct_blind {av : List Value} {dC : Nat → ClassId} {dI : Nat → Nat → Nat} {cA cB : ClassId} {sz : Nat} {ws : va_W} : FrameBlind (va_Pc av (ct_P dC dI cA cB sz ws)) := by
  intro a U g mk q
  obtain ⟨q0, q1, qP, qK, qD, qZ, qN⟩ := q
  exact ⟨q0, q1, qP, va_K.moved (u := U) (U := U.calling g mk a) (Vm.Alike.refl U.vm) qK, qD, st_Z.moved (u := U) (U := U.calling g mk a) (Vm.Alike.refl U.vm) qZ, nw_Z.same (s := U) (U := U.calling g mk a) rfl qN⟩
theorem ct_fm {α β : Type} {f : α → Option β} : ∀ {is : List α} {w : List β}, is.map f = w.map some → is.filterMap f = w
  | [], [], _ => rfl
  | [], _ :: _, h => by simp at h
  | _ :: _, [], h => by simp at h
  | a :: is, b :: w, h => by
    simp only [List.map_cons, List.cons.injEq] at h
    rw [List.filterMap_cons, h.1]
    simp only [ct_fm h.2]
section CTV
variable {p : Program} {l : Launch} {e : Env} {R : Room} {s : State} {m : MethodId} {args : Array Value} {below : List Frame} {meth : Method} {c : Code} {H : Heap} {locs : List Loc} {cells slots : Nat} {Q : State → Prop}
variable {pc : Nat} {ls : Array Slot} {rest st0 : List Value} {a : Array Value} {A0 : Nat → Prop} {mc ms : Nat} {dC : Nat → ClassId} {dI : Nat → Nat → Nat} {cA cB : ClassId} {ws wc wr : va_W}
theorem ct_pre {av : List Value} (hP : va_P (dC, dI) vwCl ws H) (hD : va_D A0 ws) (hK : va_K (dC, dI) vwCl [(cA, .int), (cB, .byte)] s) (hZ : st_Z A0 s s.heap) (hN : nw_Z s) (hS : va_S A0 s.heap H locs) (hA : ∀ q, s.heap.size ≤ q → A0 q) (isC : List Nat) (hC : isC.map (fun i => ws[i]?) = wc.map some) (hn : va_nd isC = true) : ∀ U : State, U.heap = H → s.WarmedH U.vm → va_Pc av (ct_P dC dI cA cB H.size wc) av.toArray U := by
  intro U hU hW
  have hF := va_free (wc := wc) hD hS hA isC hC
  refine ⟨rfl, by rw [hU], by rw [hU]; exact hP.sub isC (ct_fm hC), va_K.moved hW.alike hK, (hD.sub isC hn hC).weaken (fun _ _ _ _ => trivial), ?_, hN.warm hW⟩
  rw [hU]
  exact ((hZ.kept (fun q h1 h2 => hS.2.1 q h1 h2)).narrow hF).moved hW.alike
theorem ct_calli {S : Type} {post : Int32 → S → Prop} {w1 : S → va_W} (hr : va_Run p l e R s m args below meth c H locs cells slots mc ms (F0 m pc ls st0) rest (va_Qi post (fun u => ct_B dC dI (va_A wc H.size) (w1 u)) (va_A wc H.size) a) (va_A wc H.size))
    (hP : va_P (dC, dI) vwCl ws H) (hD : va_D A0 ws) (hS : va_S A0 s.heap H locs) (hA : ∀ q, s.heap.size ≤ q → A0 q) (isC isR : List Nat) (hC : isC.map (fun i => ws[i]?) = wc.map some) (hR : isR.map (fun i => ws[i]?) = wr.map some) (hn : va_nd isR = true) (hdis : ∀ i ∈ isR, i ∉ isC)
    (kk : ∀ (r : Int32) (u : S) (H1 : Heap) (locs1 : List Loc), post r u → va_P (dC, dI) vwCl (wr ++ w1 u) H1 → va_D A0 (wr ++ w1 u) → va_S A0 s.heap H1 locs1 → W p l e R s m args below meth c H1 locs1 (cells + mc) (slots + ms) Q (F0 m (pc + 3) ls (.int r :: rest))) : W p l e R s m args below meth c H locs cells slots Q (F0 m pc ls st0) := by
  have hF := va_free (wc := wc) hD hS hA isC hC
  refine va_calli hr hS (fun q _ h => hF q h) hF (fun r u t H1 locs1 ht hvm hw hB hz hk hS1 => ?_)
  obtain ⟨hP1, hD1⟩ := hB
  rw [ht] at hP1
  obtain ⟨hP2, hD2⟩ := va_join (wr := wr) (w1 := w1 u) hP hD isC isR hC hR hn hdis hk hF hP1 hD1
  exact kk r u H1 locs1 hw hP2 hD2 hS1
theorem ct_calll {S : Type} {post : Int64 → S → Prop} {w1 : S → va_W} (hr : va_Run p l e R s m args below meth c H locs cells slots mc ms (F0 m pc ls st0) rest (va_Ql post (fun u => ct_B dC dI (va_A wc H.size) (w1 u)) (va_A wc H.size) a) (va_A wc H.size))
    (hP : va_P (dC, dI) vwCl ws H) (hD : va_D A0 ws) (hS : va_S A0 s.heap H locs) (hA : ∀ q, s.heap.size ≤ q → A0 q) (isC isR : List Nat) (hC : isC.map (fun i => ws[i]?) = wc.map some) (hR : isR.map (fun i => ws[i]?) = wr.map some) (hn : va_nd isR = true) (hdis : ∀ i ∈ isR, i ∉ isC)
    (kk : ∀ (r : Int64) (u : S) (H1 : Heap) (locs1 : List Loc), post r u → va_P (dC, dI) vwCl (wr ++ w1 u) H1 → va_D A0 (wr ++ w1 u) → va_S A0 s.heap H1 locs1 → W p l e R s m args below meth c H1 locs1 (cells + mc) (slots + ms) Q (F0 m (pc + 3) ls (.long r :: rest))) : W p l e R s m args below meth c H locs cells slots Q (F0 m pc ls st0) := by
  have hF := va_free (wc := wc) hD hS hA isC hC
  refine va_calll hr hS (fun q _ h => hF q h) hF (fun r u t H1 locs1 ht hvm hw hB hz hk hS1 => ?_)
  obtain ⟨hP1, hD1⟩ := hB
  rw [ht] at hP1
  obtain ⟨hP2, hD2⟩ := va_join (wr := wr) (w1 := w1 u) hP hD isC isR hC hR hn hdis hk hF hP1 hD1
  exact kk r u H1 locs1 hw hP2 hD2 hS1
theorem ct_callv {S : Type} {post : S → Prop} {w1 : S → va_W} (hr : va_Run p l e R s m args below meth c H locs cells slots mc ms (F0 m pc ls st0) rest (va_Qv post (fun u => ct_B dC dI (va_A wc H.size) (w1 u)) (va_A wc H.size) a) (va_A wc H.size))
    (hP : va_P (dC, dI) vwCl ws H) (hD : va_D A0 ws) (hS : va_S A0 s.heap H locs) (hA : ∀ q, s.heap.size ≤ q → A0 q) (isC isR : List Nat) (hC : isC.map (fun i => ws[i]?) = wc.map some) (hR : isR.map (fun i => ws[i]?) = wr.map some) (hn : va_nd isR = true) (hdis : ∀ i ∈ isR, i ∉ isC)
    (kk : ∀ (u : S) (H1 : Heap) (locs1 : List Loc), post u → va_P (dC, dI) vwCl (wr ++ w1 u) H1 → va_D A0 (wr ++ w1 u) → va_S A0 s.heap H1 locs1 → W p l e R s m args below meth c H1 locs1 (cells + mc) (slots + ms) Q (F0 m (pc + 3) ls rest)) : W p l e R s m args below meth c H locs cells slots Q (F0 m pc ls st0) := by
  have hF := va_free (wc := wc) hD hS hA isC hC
  refine va_callv hr hS (fun q _ h => hF q h) hF (fun u t H1 locs1 ht hvm hw hB hz hk hS1 => ?_)
  obtain ⟨hP1, hD1⟩ := hB
  rw [ht] at hP1
  obtain ⟨hP2, hD2⟩ := va_join (wr := wr) (w1 := w1 u) hP hD isC isR hC hR hn hdis hk hF hP1 hD1
  exact kk u H1 locs1 hw hP2 hD2 hS1
/-- a loop at pc: by a measure that falls -/
theorem ct_loop {σ : Type} (J : Nat → σ → Heap → List Loc → Array Slot → Prop)
    (h : ∀ (n : Nat) (x : σ) (H : Heap) (locs : List Loc) (ls : Array Slot), J n x H locs ls → (∀ (k : Nat) (x' : σ) (H' : Heap) (locs' : List Loc) (ls' : Array Slot), k < n → J k x' H' locs' ls' → W p l e R s m args below meth c H' locs' cells slots Q (F0 m pc ls' [])) → W p l e R s m args below meth c H locs cells slots Q (F0 m pc ls [])) :
    ∀ (n : Nat) (x : σ) (H : Heap) (locs : List Loc) (ls : Array Slot), J n x H locs ls → W p l e R s m args below meth c H locs cells slots Q (F0 m pc ls []) := by
  intro n
  induction n using Nat.strongRecOn with
  | ind n ih => exact fun x H locs ls hJ => h n x H locs ls hJ (fun k x' H' locs' ls' hk hJ' => ih k hk x' H' locs' ls' hJ')
end CTV
theorem ct_cA {D : va_G} {cl : List vw_C} {tys : List (ClassId × FieldType)} {s : State} {c1 c2 : ClassId} (hK : va_K D cl tys s) (i j : Nat) (h1 : tys[i]? = some (c1, .int)) (h2 : tys[j]? = some (c2, .int)) : c1 = c2 := by
  have q1 : s.vm.findClass _ = some c1 := (hK.2 i _ h1).2
  have q2 : s.vm.findClass _ = some c2 := (hK.2 j _ h2).2
  exact Option.some.inj (q1.symm.trans q2)
/-- a boolean answer -/
def bo_z (r : Int32) (X : Prop) : Prop := (r = 1 ∧ X) ∨ (r = 0 ∧ ¬ X)
theorem bo_z.t {r : Int32} {X : Prop} (h : bo_z r X) (hr : ¬ r = 0) : X := by
  rcases h with h | h
  · exact h.2
  · exact absurd h.1 hr
theorem bo_z.f {r : Int32} {X : Prop} (h : bo_z r X) (hr : r = 0) : ¬ X := by
  rcases h with h | h
  · rw [hr] at h; exact absurd h.1 (by decide)
  · exact h.2
theorem bo_z.eq {r q : Int32} {X Y : Prop} (h : bo_z r X) (h2 : bo_z q Y) (hxy : X ↔ Y) : r = q := by
  rcases h with h | h <;> rcases h2 with g | g
  · rw [h.1, g.1]
  · exact absurd (hxy.mp h.2) g.2
  · exact absurd (hxy.mpr g.2) h.2
  · rw [h.1, g.1]
theorem bo_z.y {X : Prop} (h : X) : bo_z 1 X := Or.inl ⟨rfl, h⟩
theorem bo_z.n {X : Prop} (h : ¬ X) : bo_z 0 X := Or.inr ⟨rfl, h⟩
/-- a boolean as the machine holds it -/
def bo_i (b : Bool) : Int32 := if b then 1 else 0
theorem bo_n (b : Bool) : narrow .boolean (.int (bo_i b)) = .int (bo_i b) := by cases b <;> rfl
theorem bo_f (b : Bool) : fits .boolean (.int (bo_i b)) = true := by cases b <;> rfl
end
section
section CTT
variable {p : Program} {l : Launch} {e : Env} {R : Room} {s : State} {m : MethodId} {args : Array Value} {below : List Frame} {meth : Method} {c : Code} {H : Heap} {locs : List Loc} {cells slots : Nat} {Q : State → Prop} {pc : Nat} {ls : Array Slot} {rest : List Value}
theorem ct_topi {x y : Int32} (h : x = y) (k : W p l e R s m args below meth c H locs cells slots Q (F0 m pc ls (.int y :: rest))) : W p l e R s m args below meth c H locs cells slots Q (F0 m pc ls (.int x :: rest)) := by rw [h]; exact k
theorem ct_topl {x y : Int64} (h : x = y) (k : W p l e R s m args below meth c H locs cells slots Q (F0 m pc ls (.long y :: rest))) : W p l e R s m args below meth c H locs cells slots Q (F0 m pc ls (.long x :: rest)) := by rw [h]; exact k
end CTT
/-! pure words of an arc's tick, as the machine reckons it -/
def sq_c (fx cx fy cy : Int32) : Int64 := (fx - cx).toInt64 * (fx - cx).toInt64 + (fy - cy).toInt64 * (fy - cy).toInt64
def ab_l (x : Int64) : Int64 := if 0 < x then x else -x
def st_t (dx dy : Int64) (i : Nat) : Int64 := dx * (dy + (st_Y i).toInt64) - dy * (dx + (st_X i).toInt64)
def st_b (dx dy sq : Int64) (i : Nat) : Int64 := ab_l ((dx + (st_X i).toInt64) * (dx + (st_X i).toInt64) + (dy + (st_Y i).toInt64) * (dy + (st_Y i).toInt64) - sq)
def st_c (lf : Int32) (dx dy : Int64) (i : Nat) : Bool := if lf = 0 then decide (st_t dx dy i < 0) else decide (0 < st_t dx dy i)
/-- the nearest of the first i neighbours: its number (or -1), and how far beside it lies -/
def st_F (lf : Int32) (dx dy sq : Int64) : Nat → Int32 × Int64
  | 0 => (-1, 0)
  | i + 1 => if st_c lf dx dy i = true then (if (st_F lf dx dy sq i).1 < 0 ∨ st_b dx dy sq i < (st_F lf dx dy sq i).2 then (nI i, st_b dx dy sq i) else st_F lf dx dy sq i) else st_F lf dx dy sq i
theorem st_F_skip {lf : Int32} {dx dy sq : Int64} {i : Nat} (h : st_c lf dx dy i = false) : st_F lf dx dy sq (i + 1) = st_F lf dx dy sq i := by
  rw [st_F, if_neg (by rw [h]; decide)]
theorem st_F_take {lf : Int32} {dx dy sq : Int64} {i : Nat} (h : st_c lf dx dy i = true) (h2 : (st_F lf dx dy sq i).1 < 0 ∨ st_b dx dy sq i < (st_F lf dx dy sq i).2) : st_F lf dx dy sq (i + 1) = (nI i, st_b dx dy sq i) := by
  rw [st_F, if_pos h, if_pos h2]
theorem st_F_keep {lf : Int32} {dx dy sq : Int64} {i : Nat} (h : st_c lf dx dy i = true) (h2 : ¬ ((st_F lf dx dy sq i).1 < 0 ∨ st_b dx dy sq i < (st_F lf dx dy sq i).2)) : st_F lf dx dy sq (i + 1) = st_F lf dx dy sq i := by
  rw [st_F, if_pos h, if_neg h2]
theorem st_F_ix (lf : Int32) (dx dy sq : Int64) : ∀ i : Nat, i < 2 ^ 31 → (st_F lf dx dy sq i).1 = -1 ∨ ∃ j, j < i ∧ (st_F lf dx dy sq i).1 = nI j := by
  intro i
  induction i with
  | zero => exact fun _ => Or.inl rfl
  | succ i ih =>
    intro hi
    have key : st_F lf dx dy sq (i + 1) = st_F lf dx dy sq i ∨ st_F lf dx dy sq (i + 1) = (nI i, st_b dx dy sq i) := by
      rw [st_F]
      by_cases h : st_c lf dx dy i = true
      · rw [if_pos h]
        by_cases h2 : (st_F lf dx dy sq i).1 < 0 ∨ st_b dx dy sq i < (st_F lf dx dy sq i).2
        · rw [if_pos h2]; exact Or.inr rfl
        · rw [if_neg h2]; exact Or.inl rfl
      · rw [if_neg h]; exact Or.inl rfl
    rcases key with h | h
    · rw [h]
      rcases ih (by omega) with g | ⟨j, hj, g⟩
      · exact Or.inl g
      · exact Or.inr ⟨j, by omega, g⟩
    · rw [h]
      exact Or.inr ⟨i, by omega, rfl⟩
/-- Arc.step: what it answers and where it goes -/
def sp_P (lf : Int32) (sq : Int64) (fx cx fy cy r gx gy : Int32) : Prop :=
  (r = 0 ∧ (st_F lf (fx - cx).toInt64 (fy - cy).toInt64 sq 8).1 < 0 ∧ gx = fx ∧ gy = fy) ∨ ∃ j, j < 8 ∧ (st_F lf (fx - cx).toInt64 (fy - cy).toInt64 sq 8).1 = nI j ∧ r = 1 ∧ gx = fx + st_X j ∧ gy = fy + st_Y j
def mk_u (f : Nat → Int32) (j : Nat) (v : Int32) : Nat → Int32 := if j % 100 = 0 then upd f (j / 100) v else f
theorem i8_le {i : Nat} (h : i ≤ 8) (h2 : (8 : Int32) ≤ nI i) : i = 8 := by
  have h3 : nI 8 ≤ nI i := h2
  rw [nI_leI (by omega) (by omega)] at h3
  omega
theorem i8_lt {i : Nat} (h : i ≤ 8) (h2 : ¬ (8 : Int32) ≤ nI i) : i < 8 := by
  rcases Nat.lt_or_ge i 8 with q | q
  · exact q
  · have : i = 8 := by omega
    subst this
    exact absurd (by decide) h2
end
section
/-! pure words of the leaves -/
def pl_in (v : Int32) : Prop := -30000 ≤ v ∧ v ≤ 30000
def ce_in (v : Int32) : Prop := -40000 ≤ v ∧ v ≤ 40000
def ab_i (x : Int32) : Int32 := if 0 ≤ x then x else 0 - x
def mx_i (x y : Int32) : Int32 := if x < y then y else x
def ga_m (x y z : Int32) : Int32 := mx_i (ab_i x) (mx_i (ab_i y) (ab_i z))
def am_i (v : Int32) : Int32 := if 0 ≤ v then v else -v
theorem am_ge {v : Int32} (h : 0 ≤ v) : v = am_i v := by simp [am_i, h]
theorem am_lt {v : Int32} (h : ¬ 0 ≤ v) : -v = am_i v := by unfold am_i; rw [if_neg h]
/-- the reference's division, cut down to the whole number not above (for a divisor above 0) -/
def fd_d (a b : Int64) : Int64 := if a < 0 ∧ ¬ a - a / b * b = 0 then a / b - 1 else a / b
/-- Math.floorDiv -/
def fd_f (a b : Int64) : Int64 := if a ^^^ b < 0 ∧ ¬ a / b * b = a then a / b - 1 else a / b
set_option maxHeartbeats 4000000 in
set_option maxRecDepth 100000 in
/-- TickWalks.isWithin -/
theorem ct_isWithin (l : Launch) (dC : Nat → ClassId) (dI : Nat → Nat → Nat) (cA cB : ClassId) (sz : Nat) (n : Int32) (f : Int32) : Met l yX3_isWithin wsX3_isWithin ({ frames := 0, cells := 0, slots := 0, locals := 0 }) (va_Pc [.int n, .int f] (ct_P dC dI cA cB sz [])) (va_Qi (fun (r : Int32) (u : Unit) => bo_z r (-f ≤ n ∧ n ≤ f)) (fun (u : Unit) => ct_B dC dI (va_A [] sz) []) (va_A [] sz)) 0 0 (va_A [] sz) := by
  refine Met.ofW (cc := cX3_isWithin) (maxL := 2) (ret := (some .boolean)) (by decide +kernel) rfl ?_
  intro p e s m args below meth c s₁ B hml hv
  obtain ⟨rfl, hsz, hP, hK, hD0, hZ, hN⟩ := hv
  have hx := B.exec
  have hb := B.bytes
  have hr := B.returns
  have hts := atoms_spec (ws := wsX3_isWithin) B.pre
  have hown : s.vm.findClass RX3 = some m.cls := findClass_of_methodNamed B.named
  have hlocks := B.notSynchronized
  subst hsz
  have hD := hD0.self (sz := s.heap.size)
  generalize hAe : va_A [] s.heap.size = A at hD hZ ⊢
  have hA : ∀ q : Nat, s.heap.size ≤ q → A q := fun q h => by rw [← hAe]; exact Or.inr h
  have hl := lv_entry ([.int n, .int f]) (n := 2) (Nat.le_of_ble_eq_true rfl)
  rw [lg_entry_eq]
  generalize (lg_sl ([.int n, .int f]) ++ List.replicate (2 - (lg_sl ([.int n, .int f])).length) Slot.unset).toArray = ls at hl ⊢
  have hl : lv_has ls 2 [(0, .int n), (1, .int f)] := hl
  generalize hHe : s.heap = H at hP ⊢
  have hS : va_S A s.heap H [] := by rw [hHe]; exact va_S.rf
  generalize ([] : List Loc) = locs at hS ⊢
  refine lv_iload_n hx hb dX3_isWithin_0 rfl (lv_at hl 0 rfl) ?_
  refine lv_iload_n hx hb dX3_isWithin_1 rfl (lv_at hl 1 rfl) ?_
  refine lv_ineg hx hb dX3_isWithin_2 ?_
  refine lv_icmp_lt (tgt := 15) hx hb dX3_isWithin_3 (by decide) (fun c_3 => ?_) (fun c_3 => ?_)
  · refine lv_iconst (v := 0) hx hb dX3_isWithin_15 (by decide) ?_
    have hP9 := hP.sub (ws' := []) [] rfl
    have hD9 := hD.sub (ws' := []) [] (by decide) rfl
    exact W.zret (v := 0) hx hb hr rfl (fun t9 ht9 hW9 => ⟨⟨0, (), rfl, bo_z.n (fun h => absurd h.1 (Int32.not_le.mpr c_3)), by rw [ht9]; exact hP9, hD9⟩, hS.F ht9⟩) hS.2.2 dX3_isWithin_16
  · refine lv_iload_n hx hb dX3_isWithin_6 rfl (lv_at hl 0 rfl) ?_
    refine lv_iload_n hx hb dX3_isWithin_7 rfl (lv_at hl 1 rfl) ?_
    refine lv_icmp_gt (tgt := 15) hx hb dX3_isWithin_8 (by decide) (fun c_8 => ?_) (fun c_8 => ?_)
    · refine lv_iconst (v := 0) hx hb dX3_isWithin_15 (by decide) ?_
      have hP9 := hP.sub (ws' := []) [] rfl
      have hD9 := hD.sub (ws' := []) [] (by decide) rfl
      exact W.zret (v := 0) hx hb hr rfl (fun t9 ht9 hW9 => ⟨⟨0, (), rfl, bo_z.n (fun h => absurd h.2 (Int32.not_le.mpr c_8)), by rw [ht9]; exact hP9, hD9⟩, hS.F ht9⟩) hS.2.2 dX3_isWithin_16
    · refine lv_iconst (v := 1) hx hb dX3_isWithin_11 (by decide) ?_
      refine lv_goto (tgt := 16) hx hb dX3_isWithin_12 (by decide) ?_
      have hP9 := hP.sub (ws' := []) [] rfl
      have hD9 := hD.sub (ws' := []) [] (by decide) rfl
      exact W.zret (v := 1) hx hb hr rfl (fun t9 ht9 hW9 => ⟨⟨1, (), rfl, bo_z.y ⟨Int32.not_lt.mp c_3, Int32.not_lt.mp c_8⟩, by rw [ht9]; exact hP9, hD9⟩, hS.F ht9⟩) hS.2.2 dX3_isWithin_16
set_option maxHeartbeats 4000000 in
set_option maxRecDepth 100000 in
/-- TickWalks.isPlace -/
theorem ct_isPlace (l : Launch) (dC : Nat → ClassId) (dI : Nat → Nat → Nat) (cA cB : ClassId) (sz : Nat) (x : Int32) (y : Int32) (z : Int32) : Met l yX3_isPlace wsX3_isPlace ({ frames := 1, cells := 0, slots := 0, locals := 21 }) (va_Pc [.int x, .int y, .int z] (ct_P dC dI cA cB sz [])) (va_Qi (fun (r : Int32) (u : Unit) => bo_z r (pl_in x ∧ pl_in y ∧ pl_in z)) (fun (u : Unit) => ct_B dC dI (va_A [] sz) []) (va_A [] sz)) 0 0 (va_A [] sz) := by
  refine Met.ofW (cc := cX3_isPlace) (maxL := 3) (ret := (some .boolean)) (by decide +kernel) rfl ?_
  intro p e s m args below meth c s₁ B hml hv
  obtain ⟨rfl, hsz, hP, hK, hD0, hZ, hN⟩ := hv
  have hx := B.exec
  have hb := B.bytes
  have hr := B.returns
  have hts := atoms_spec (ws := wsX3_isPlace) B.pre
  have hown : s.vm.findClass RX3 = some m.cls := findClass_of_methodNamed B.named
  have hlocks := B.notSynchronized
  subst hsz
  have hD := hD0.self (sz := s.heap.size)
  generalize hAe : va_A [] s.heap.size = A at hD hZ ⊢
  have hA : ∀ q : Nat, s.heap.size ≤ q → A q := fun q h => by rw [← hAe]; exact Or.inr h
  have hl := lv_entry ([.int x, .int y, .int z]) (n := 3) (Nat.le_of_ble_eq_true rfl)
  rw [lg_entry_eq]
  generalize (lg_sl ([.int x, .int y, .int z]) ++ List.replicate (3 - (lg_sl ([.int x, .int y, .int z])).length) Slot.unset).toArray = ls at hl ⊢
  have hl : lv_has ls 3 [(0, .int x), (1, .int y), (2, .int z)] := hl
  generalize hHe : s.heap = H at hP ⊢
  have hS : va_S A s.heap H [] := by rw [hHe]; exact va_S.rf
  generalize ([] : List Loc) = locs at hS ⊢
  refine lv_iload_n hx hb dX3_isPlace_0 rfl (lv_at hl 0 rfl) ?_
  refine lv_sipush (v := 30000) hx hb dX3_isPlace_1 (by decide) ?_
  refine ct_calli (va_runS (As := [.int x, .int 30000]) (rest := []) ⟨hx, hb, hml, hown, hts⟩ (ct_isWithin l dC dI cA cB H.size x 30000 ) (va_cwS 2 hts gX3_isPlace_X3_isWithin rfl rfl rfl (by decide +kernel) ⟨Nat.le_of_ble_eq_true rfl, Nat.le_of_ble_eq_true rfl⟩) ⟨ct_blind, ct_pre hP hD hK hZ hN hS hA [] rfl (by decide)⟩ rfl rfl hl.1 rfl (lv_room (Nat.le_of_ble_eq_true rfl)) dX3_isPlace_4 ⟨Nat.le_of_ble_eq_true rfl, Nat.le_of_ble_eq_true rfl⟩) hP hD hS hA [] [] rfl (wr := []) rfl (by decide) (by decide) (fun r_1 u H locs hw_1 hP hD hS => ?_)
  have hw_1 : bo_z r_1 (-30000 ≤ x ∧ x ≤ 30000) := hw_1
  have hP : va_P (dC, dI) vwCl [] H := hP
  have hD : va_D A [] := hD
  refine lv_if_eq (tgt := 34) hx hb dX3_isPlace_7 (by decide) (fun c_7 => ?_) (fun c_7 => ?_)
  · refine lv_iconst (v := 0) hx hb dX3_isPlace_34 (by decide) ?_
    have hP9 := hP.sub (ws' := []) [] rfl
    have hD9 := hD.sub (ws' := []) [] (by decide) rfl
    exact W.zret (v := 0) hx hb hr rfl (fun t9 ht9 hW9 => ⟨⟨0, (), rfl, bo_z.n (fun h => hw_1.f c_7 h.1), by rw [ht9]; exact hP9, hD9⟩, hS.F ht9⟩) hS.2.2 dX3_isPlace_35
  · refine lv_iload_n hx hb dX3_isPlace_10 rfl (lv_at hl 1 rfl) ?_
    refine lv_sipush (v := 30000) hx hb dX3_isPlace_11 (by decide) ?_
    refine ct_calli (va_runS (As := [.int y, .int 30000]) (rest := []) ⟨hx, hb, hml, hown, hts⟩ (ct_isWithin l dC dI cA cB H.size y 30000 ) (va_cwS 2 hts gX3_isPlace_X3_isWithin rfl rfl rfl (by decide +kernel) ⟨Nat.le_of_ble_eq_true rfl, Nat.le_of_ble_eq_true rfl⟩) ⟨ct_blind, ct_pre hP hD hK hZ hN hS hA [] rfl (by decide)⟩ rfl rfl hl.1 rfl (lv_room (Nat.le_of_ble_eq_true rfl)) dX3_isPlace_14 ⟨Nat.le_of_ble_eq_true rfl, Nat.le_of_ble_eq_true rfl⟩) hP hD hS hA [] [] rfl (wr := []) rfl (by decide) (by decide) (fun r_2 u H locs hw_2 hP hD hS => ?_)
    have hw_2 : bo_z r_2 (-30000 ≤ y ∧ y ≤ 30000) := hw_2
    have hP : va_P (dC, dI) vwCl [] H := hP
    have hD : va_D A [] := hD
    refine lv_if_eq (tgt := 34) hx hb dX3_isPlace_17 (by decide) (fun c_17 => ?_) (fun c_17 => ?_)
    · refine lv_iconst (v := 0) hx hb dX3_isPlace_34 (by decide) ?_
      have hP9 := hP.sub (ws' := []) [] rfl
      have hD9 := hD.sub (ws' := []) [] (by decide) rfl
      exact W.zret (v := 0) hx hb hr rfl (fun t9 ht9 hW9 => ⟨⟨0, (), rfl, bo_z.n (fun h => hw_2.f c_17 h.2.1), by rw [ht9]; exact hP9, hD9⟩, hS.F ht9⟩) hS.2.2 dX3_isPlace_35
    · refine lv_iload_n hx hb dX3_isPlace_20 rfl (lv_at hl 2 rfl) ?_
      refine lv_sipush (v := 30000) hx hb dX3_isPlace_21 (by decide) ?_
      refine ct_calli (va_runS (As := [.int z, .int 30000]) (rest := []) ⟨hx, hb, hml, hown, hts⟩ (ct_isWithin l dC dI cA cB H.size z 30000 ) (va_cwS 2 hts gX3_isPlace_X3_isWithin rfl rfl rfl (by decide +kernel) ⟨Nat.le_of_ble_eq_true rfl, Nat.le_of_ble_eq_true rfl⟩) ⟨ct_blind, ct_pre hP hD hK hZ hN hS hA [] rfl (by decide)⟩ rfl rfl hl.1 rfl (lv_room (Nat.le_of_ble_eq_true rfl)) dX3_isPlace_24 ⟨Nat.le_of_ble_eq_true rfl, Nat.le_of_ble_eq_true rfl⟩) hP hD hS hA [] [] rfl (wr := []) rfl (by decide) (by decide) (fun r_3 u H locs hw_3 hP hD hS => ?_)
      have hw_3 : bo_z r_3 (-30000 ≤ z ∧ z ≤ 30000) := hw_3
      have hP : va_P (dC, dI) vwCl [] H := hP
      have hD : va_D A [] := hD
      refine lv_if_eq (tgt := 34) hx hb dX3_isPlace_27 (by decide) (fun c_27 => ?_) (fun c_27 => ?_)
      · refine lv_iconst (v := 0) hx hb dX3_isPlace_34 (by decide) ?_
        have hP9 := hP.sub (ws' := []) [] rfl
        have hD9 := hD.sub (ws' := []) [] (by decide) rfl
        exact W.zret (v := 0) hx hb hr rfl (fun t9 ht9 hW9 => ⟨⟨0, (), rfl, bo_z.n (fun h => hw_3.f c_27 h.2.2), by rw [ht9]; exact hP9, hD9⟩, hS.F ht9⟩) hS.2.2 dX3_isPlace_35
      · refine lv_iconst (v := 1) hx hb dX3_isPlace_30 (by decide) ?_
        refine lv_goto (tgt := 35) hx hb dX3_isPlace_31 (by decide) ?_
        have hP9 := hP.sub (ws' := []) [] rfl
        have hD9 := hD.sub (ws' := []) [] (by decide) rfl
        exact W.zret (v := 1) hx hb hr rfl (fun t9 ht9 hW9 => ⟨⟨1, (), rfl, bo_z.y ⟨hw_1.t c_7, hw_2.t c_17, hw_3.t c_27⟩, by rw [ht9]; exact hP9, hD9⟩, hS.F ht9⟩) hS.2.2 dX3_isPlace_35
set_option maxHeartbeats 4000000 in
set_option maxRecDepth 100000 in
/-- TickWalks.isAxis -/
theorem ct_isAxis (l : Launch) (dC : Nat → ClassId) (dI : Nat → Nat → Nat) (cA cB : ClassId) (sz : Nat) (a : Int32) : Met l yX3_isAxis wsX3_isAxis ({ frames := 0, cells := 0, slots := 0, locals := 0 }) (va_Pc [.int a] (ct_P dC dI cA cB sz [])) (va_Qi (fun (r : Int32) (u : Unit) => bo_z r (0 ≤ a ∧ a < 3)) (fun (u : Unit) => ct_B dC dI (va_A [] sz) []) (va_A [] sz)) 0 0 (va_A [] sz) := by
  refine Met.ofW (cc := cX3_isAxis) (maxL := 1) (ret := (some .boolean)) (by decide +kernel) rfl ?_
  intro p e s m args below meth c s₁ B hml hv
  obtain ⟨rfl, hsz, hP, hK, hD0, hZ, hN⟩ := hv
  have hx := B.exec
  have hb := B.bytes
  have hr := B.returns
  have hts := atoms_spec (ws := wsX3_isAxis) B.pre
  have hown : s.vm.findClass RX3 = some m.cls := findClass_of_methodNamed B.named
  have hlocks := B.notSynchronized
  subst hsz
  have hD := hD0.self (sz := s.heap.size)
  generalize hAe : va_A [] s.heap.size = A at hD hZ ⊢
  have hA : ∀ q : Nat, s.heap.size ≤ q → A q := fun q h => by rw [← hAe]; exact Or.inr h
  have hl := lv_entry ([.int a]) (n := 1) (Nat.le_of_ble_eq_true rfl)
  rw [lg_entry_eq]
  generalize (lg_sl ([.int a]) ++ List.replicate (1 - (lg_sl ([.int a])).length) Slot.unset).toArray = ls at hl ⊢
  have hl : lv_has ls 1 [(0, .int a)] := hl
  generalize hHe : s.heap = H at hP ⊢
  have hS : va_S A s.heap H [] := by rw [hHe]; exact va_S.rf
  generalize ([] : List Loc) = locs at hS ⊢
  refine lv_iload_n hx hb dX3_isAxis_0 rfl (lv_at hl 0 rfl) ?_
  refine lv_if_lt (tgt := 13) hx hb dX3_isAxis_1 (by decide) (fun c_1 => ?_) (fun c_1 => ?_)
  · refine lv_iconst (v := 0) hx hb dX3_isAxis_13 (by decide) ?_
    have hP9 := hP.sub (ws' := []) [] rfl
    have hD9 := hD.sub (ws' := []) [] (by decide) rfl
    exact W.zret (v := 0) hx hb hr rfl (fun t9 ht9 hW9 => ⟨⟨0, (), rfl, bo_z.n (fun h => absurd h.1 (Int32.not_le.mpr c_1)), by rw [ht9]; exact hP9, hD9⟩, hS.F ht9⟩) hS.2.2 dX3_isAxis_14
  · refine lv_iload_n hx hb dX3_isAxis_4 rfl (lv_at hl 0 rfl) ?_
    refine lv_iconst (v := 3) hx hb dX3_isAxis_5 (by decide) ?_
    refine lv_icmp_ge (tgt := 13) hx hb dX3_isAxis_6 (by decide) (fun c_6 => ?_) (fun c_6 => ?_)
    · refine lv_iconst (v := 0) hx hb dX3_isAxis_13 (by decide) ?_
      have hP9 := hP.sub (ws' := []) [] rfl
      have hD9 := hD.sub (ws' := []) [] (by decide) rfl
      exact W.zret (v := 0) hx hb hr rfl (fun t9 ht9 hW9 => ⟨⟨0, (), rfl, bo_z.n (fun h => absurd h.2 (Int32.not_lt.mpr c_6)), by rw [ht9]; exact hP9, hD9⟩, hS.F ht9⟩) hS.2.2 dX3_isAxis_14
    · refine lv_iconst (v := 1) hx hb dX3_isAxis_9 (by decide) ?_
      refine lv_goto (tgt := 14) hx hb dX3_isAxis_10 (by decide) ?_
      have hP9 := hP.sub (ws' := []) [] rfl
      have hD9 := hD.sub (ws' := []) [] (by decide) rfl
      exact W.zret (v := 1) hx hb hr rfl (fun t9 ht9 hW9 => ⟨⟨1, (), rfl, bo_z.y ⟨Int32.not_lt.mp c_1, Int32.not_le.mp c_6⟩, by rw [ht9]; exact hP9, hD9⟩, hS.F ht9⟩) hS.2.2 dX3_isAxis_14
set_option maxHeartbeats 4000000 in
set_option maxRecDepth 100000 in
/-- TickWalks.greatestAmount -/
theorem ct_greatest (l : Launch) (dC : Nat → ClassId) (dI : Nat → Nat → Nat) (cA cB : ClassId) (sz : Nat) (x : Int32) (y : Int32) (z : Int32) : Met l yX3_greatestAmount wsX3_greatestAmount ({ frames := 1, cells := 0, slots := 0, locals := 16 }) (va_Pc [.int x, .int y, .int z] (ct_P dC dI cA cB sz [])) (va_Qi (fun (r : Int32) (u : Unit) => r = ga_m x y z) (fun (u : Unit) => ct_B dC dI (va_A [] sz) []) (va_A [] sz)) 0 0 (va_A [] sz) := by
  refine Met.ofW (cc := cX3_greatestAmount) (maxL := 3) (ret := (some .int)) (by decide +kernel) rfl ?_
  intro p e s m args below meth c s₁ B hml hv
  obtain ⟨rfl, hsz, hP, hK, hD0, hZ, hN⟩ := hv
  have hx := B.exec
  have hb := B.bytes
  have hr := B.returns
  have hts := atoms_spec (ws := wsX3_greatestAmount) B.pre
  have hown : s.vm.findClass RX3 = some m.cls := findClass_of_methodNamed B.named
  have hlocks := B.notSynchronized
  subst hsz
  have hD := hD0.self (sz := s.heap.size)
  generalize hAe : va_A [] s.heap.size = A at hD hZ ⊢
  have hA : ∀ q : Nat, s.heap.size ≤ q → A q := fun q h => by rw [← hAe]; exact Or.inr h
  have hl := lv_entry ([.int x, .int y, .int z]) (n := 3) (Nat.le_of_ble_eq_true rfl)
  rw [lg_entry_eq]
  generalize (lg_sl ([.int x, .int y, .int z]) ++ List.replicate (3 - (lg_sl ([.int x, .int y, .int z])).length) Slot.unset).toArray = ls at hl ⊢
  have hl : lv_has ls 3 [(0, .int x), (1, .int y), (2, .int z)] := hl
  generalize hHe : s.heap = H at hP ⊢
  have hS : va_S A s.heap H [] := by rw [hHe]; exact va_S.rf
  generalize ([] : List Loc) = locs at hS ⊢
  refine lv_iload_n hx hb dX3_greatestAmount_0 rfl (lv_at hl 0 rfl) ?_
  refine va_mabs hx hb (hml.trans hl.1.symm) hown (hts (.methodLink RX3 79 Lib.Math.abs.name) (List.mem_of_getElem? (l := wsX3_greatestAmount) (i := 1) rfl)) (hts (.static Lib.Math.abs.name) (List.mem_of_getElem? (l := wsX3_greatestAmount) (i := 2) rfl)) (hts (.initialized "java/lang/Math") (List.mem_of_getElem? (l := wsX3_greatestAmount) (i := 3) rfl)) (hts (.code Lib.Math.abs.name Lib.Math.abs.code 1 (some .int)) (List.mem_of_getElem? (l := wsX3_greatestAmount) (i := 4) rfl)) (Nat.le_of_ble_eq_true rfl) (Nat.le_of_ble_eq_true rfl) (Nat.le_of_ble_eq_true rfl) (Nat.le_of_ble_eq_true rfl) dX3_greatestAmount_1 ?_
  refine lv_iload_n hx hb dX3_greatestAmount_4 rfl (lv_at hl 1 rfl) ?_
  refine va_mabs hx hb (hml.trans hl.1.symm) hown (hts (.methodLink RX3 79 Lib.Math.abs.name) (List.mem_of_getElem? (l := wsX3_greatestAmount) (i := 1) rfl)) (hts (.static Lib.Math.abs.name) (List.mem_of_getElem? (l := wsX3_greatestAmount) (i := 2) rfl)) (hts (.initialized "java/lang/Math") (List.mem_of_getElem? (l := wsX3_greatestAmount) (i := 3) rfl)) (hts (.code Lib.Math.abs.name Lib.Math.abs.code 1 (some .int)) (List.mem_of_getElem? (l := wsX3_greatestAmount) (i := 4) rfl)) (Nat.le_of_ble_eq_true rfl) (Nat.le_of_ble_eq_true rfl) (Nat.le_of_ble_eq_true rfl) (Nat.le_of_ble_eq_true rfl) dX3_greatestAmount_5 ?_
  refine lv_iload_n hx hb dX3_greatestAmount_8 rfl (lv_at hl 2 rfl) ?_
  refine va_mabs hx hb (hml.trans hl.1.symm) hown (hts (.methodLink RX3 79 Lib.Math.abs.name) (List.mem_of_getElem? (l := wsX3_greatestAmount) (i := 1) rfl)) (hts (.static Lib.Math.abs.name) (List.mem_of_getElem? (l := wsX3_greatestAmount) (i := 2) rfl)) (hts (.initialized "java/lang/Math") (List.mem_of_getElem? (l := wsX3_greatestAmount) (i := 3) rfl)) (hts (.code Lib.Math.abs.name Lib.Math.abs.code 1 (some .int)) (List.mem_of_getElem? (l := wsX3_greatestAmount) (i := 4) rfl)) (Nat.le_of_ble_eq_true rfl) (Nat.le_of_ble_eq_true rfl) (Nat.le_of_ble_eq_true rfl) (Nat.le_of_ble_eq_true rfl) dX3_greatestAmount_9 ?_
  refine va_mmax hx hb (hml.trans hl.1.symm) hown (hts (.methodLink RX3 85 Lib.Math.max.name) (List.mem_of_getElem? (l := wsX3_greatestAmount) (i := 5) rfl)) (hts (.static Lib.Math.max.name) (List.mem_of_getElem? (l := wsX3_greatestAmount) (i := 6) rfl)) (hts (.initialized "java/lang/Math") (List.mem_of_getElem? (l := wsX3_greatestAmount) (i := 3) rfl)) (hts (.code Lib.Math.max.name Lib.Math.max.code 2 (some .int)) (List.mem_of_getElem? (l := wsX3_greatestAmount) (i := 7) rfl)) (Nat.le_of_ble_eq_true rfl) (Nat.le_of_ble_eq_true rfl) (Nat.le_of_ble_eq_true rfl) (Nat.le_of_ble_eq_true rfl) dX3_greatestAmount_12 ?_
  refine va_mmax hx hb (hml.trans hl.1.symm) hown (hts (.methodLink RX3 85 Lib.Math.max.name) (List.mem_of_getElem? (l := wsX3_greatestAmount) (i := 5) rfl)) (hts (.static Lib.Math.max.name) (List.mem_of_getElem? (l := wsX3_greatestAmount) (i := 6) rfl)) (hts (.initialized "java/lang/Math") (List.mem_of_getElem? (l := wsX3_greatestAmount) (i := 3) rfl)) (hts (.code Lib.Math.max.name Lib.Math.max.code 2 (some .int)) (List.mem_of_getElem? (l := wsX3_greatestAmount) (i := 7) rfl)) (Nat.le_of_ble_eq_true rfl) (Nat.le_of_ble_eq_true rfl) (Nat.le_of_ble_eq_true rfl) (Nat.le_of_ble_eq_true rfl) dX3_greatestAmount_15 ?_
  have hP9 := hP.sub (ws' := []) [] rfl
  have hD9 := hD.sub (ws' := []) [] (by decide) rfl
  exact W.iret (v := if (if 0 ≤ x then x else 0 - x) < (if (if 0 ≤ y then y else 0 - y) < (if 0 ≤ z then z else 0 - z) then (if 0 ≤ z then z else 0 - z) else (if 0 ≤ y then y else 0 - y)) then (if (if 0 ≤ y then y else 0 - y) < (if 0 ≤ z then z else 0 - z) then (if 0 ≤ z then z else 0 - z) else (if 0 ≤ y then y else 0 - y)) else (if 0 ≤ x then x else 0 - x)) hx hb hr (fun t9 ht9 hW9 => ⟨⟨if (if 0 ≤ x then x else 0 - x) < (if (if 0 ≤ y then y else 0 - y) < (if 0 ≤ z then z else 0 - z) then (if 0 ≤ z then z else 0 - z) else (if 0 ≤ y then y else 0 - y)) then (if (if 0 ≤ y then y else 0 - y) < (if 0 ≤ z then z else 0 - z) then (if 0 ≤ z then z else 0 - z) else (if 0 ≤ y then y else 0 - y)) else (if 0 ≤ x then x else 0 - x), (), rfl, rfl, by rw [ht9]; exact hP9, hD9⟩, hS.F ht9⟩) hS.2.2 dX3_greatestAmount_18
set_option maxHeartbeats 4000000 in
set_option maxRecDepth 100000 in
/-- TickWalks.isStray -/
theorem ct_isStray (l : Launch) (dC : Nat → ClassId) (dI : Nat → Nat → Nat) (cA cB : ClassId) (sz : Nat) (x : Int32) (y : Int32) (z : Int32) : Met l yX3_isStray wsX3_isStray ({ frames := 2, cells := 0, slots := 0, locals := 38 }) (va_Pc [.int x, .int y, .int z] (ct_P dC dI cA cB sz [])) (va_Qi (fun (r : Int32) (u : Unit) => bo_z r (¬ ga_m x y z = 1)) (fun (u : Unit) => ct_B dC dI (va_A [] sz) []) (va_A [] sz)) 0 0 (va_A [] sz) := by
  refine Met.ofW (cc := cX3_isStray) (maxL := 3) (ret := (some .boolean)) (by decide +kernel) rfl ?_
  intro p e s m args below meth c s₁ B hml hv
  obtain ⟨rfl, hsz, hP, hK, hD0, hZ, hN⟩ := hv
  have hx := B.exec
  have hb := B.bytes
  have hr := B.returns
  have hts := atoms_spec (ws := wsX3_isStray) B.pre
  have hown : s.vm.findClass RX3 = some m.cls := findClass_of_methodNamed B.named
  have hlocks := B.notSynchronized
  subst hsz
  have hD := hD0.self (sz := s.heap.size)
  generalize hAe : va_A [] s.heap.size = A at hD hZ ⊢
  have hA : ∀ q : Nat, s.heap.size ≤ q → A q := fun q h => by rw [← hAe]; exact Or.inr h
  have hl := lv_entry ([.int x, .int y, .int z]) (n := 3) (Nat.le_of_ble_eq_true rfl)
  rw [lg_entry_eq]
  generalize (lg_sl ([.int x, .int y, .int z]) ++ List.replicate (3 - (lg_sl ([.int x, .int y, .int z])).length) Slot.unset).toArray = ls at hl ⊢
  have hl : lv_has ls 3 [(0, .int x), (1, .int y), (2, .int z)] := hl
  generalize hHe : s.heap = H at hP ⊢
  have hS : va_S A s.heap H [] := by rw [hHe]; exact va_S.rf
  generalize ([] : List Loc) = locs at hS ⊢
  refine lv_iload_n hx hb dX3_isStray_0 rfl (lv_at hl 0 rfl) ?_
  refine lv_iload_n hx hb dX3_isStray_1 rfl (lv_at hl 1 rfl) ?_
  refine lv_iload_n hx hb dX3_isStray_2 rfl (lv_at hl 2 rfl) ?_
  refine ct_calli (va_runS (As := [.int x, .int y, .int z]) (rest := []) ⟨hx, hb, hml, hown, hts⟩ (ct_greatest l dC dI cA cB H.size x y z ) (va_cwS 3 hts gX3_isStray_X3_greatestAmount rfl rfl rfl (by decide +kernel) ⟨Nat.le_of_ble_eq_true rfl, Nat.le_of_ble_eq_true rfl⟩) ⟨ct_blind, ct_pre hP hD hK hZ hN hS hA [] rfl (by decide)⟩ rfl rfl hl.1 rfl (lv_room (Nat.le_of_ble_eq_true rfl)) dX3_isStray_3 ⟨Nat.le_of_ble_eq_true rfl, Nat.le_of_ble_eq_true rfl⟩) hP hD hS hA [] [] rfl (wr := []) rfl (by decide) (by decide) (fun r_1 u H locs hw_1 hP hD hS => ?_)
  have hw_1 : r_1 = ga_m x y z := hw_1
  have hP : va_P (dC, dI) vwCl [] H := hP
  have hD : va_D A [] := hD
  refine lv_iconst (v := 1) hx hb dX3_isStray_6 (by decide) ?_
  refine lv_icmp_eq (tgt := 14) hx hb dX3_isStray_7 (by decide) (fun c_7 => ?_) (fun c_7 => ?_)
  · refine lv_iconst (v := 0) hx hb dX3_isStray_14 (by decide) ?_
    have hP9 := hP.sub (ws' := []) [] rfl
    have hD9 := hD.sub (ws' := []) [] (by decide) rfl
    exact W.zret (v := 0) hx hb hr rfl (fun t9 ht9 hW9 => ⟨⟨0, (), rfl, bo_z.n (fun h => h (hw_1.symm.trans c_7)), by rw [ht9]; exact hP9, hD9⟩, hS.F ht9⟩) hS.2.2 dX3_isStray_15
  · refine lv_iconst (v := 1) hx hb dX3_isStray_10 (by decide) ?_
    refine lv_goto (tgt := 15) hx hb dX3_isStray_11 (by decide) ?_
    have hP9 := hP.sub (ws' := []) [] rfl
    have hD9 := hD.sub (ws' := []) [] (by decide) rfl
    exact W.zret (v := 1) hx hb hr rfl (fun t9 ht9 hW9 => ⟨⟨1, (), rfl, bo_z.y (fun h => c_7 (hw_1.trans h)), by rw [ht9]; exact hP9, hD9⟩, hS.F ht9⟩) hS.2.2 dX3_isStray_15
set_option maxHeartbeats 4000000 in
set_option maxRecDepth 100000 in
/-- TickWalksModel.isPlace -/
theorem rf_isPlace (l : Launch) (dC : Nat → ClassId) (dI : Nat → Nat → Nat) (cA cB : ClassId) (sz : Nat) (v : Int32) : Met l yX4_isPlace wsX4_isPlace ({ frames := 0, cells := 0, slots := 0, locals := 0 }) (va_Pc [.int v] (ct_P dC dI cA cB sz [])) (va_Qi (fun (r : Int32) (u : Unit) => bo_z r (pl_in v)) (fun (u : Unit) => ct_B dC dI (va_A [] sz) []) (va_A [] sz)) 0 0 (va_A [] sz) := by
  refine Met.ofW (cc := cX4_isPlace) (maxL := 1) (ret := (some .boolean)) (by decide +kernel) rfl ?_
  intro p e s m args below meth c s₁ B hml hv
  obtain ⟨rfl, hsz, hP, hK, hD0, hZ, hN⟩ := hv
  have hx := B.exec
  have hb := B.bytes
  have hr := B.returns
  have hts := atoms_spec (ws := wsX4_isPlace) B.pre
  have hown : s.vm.findClass RX4 = some m.cls := findClass_of_methodNamed B.named
  have hlocks := B.notSynchronized
  subst hsz
  have hD := hD0.self (sz := s.heap.size)
  generalize hAe : va_A [] s.heap.size = A at hD hZ ⊢
  have hA : ∀ q : Nat, s.heap.size ≤ q → A q := fun q h => by rw [← hAe]; exact Or.inr h
  have hl := lv_entry ([.int v]) (n := 1) (Nat.le_of_ble_eq_true rfl)
  rw [lg_entry_eq]
  generalize (lg_sl ([.int v]) ++ List.replicate (1 - (lg_sl ([.int v])).length) Slot.unset).toArray = ls at hl ⊢
  have hl : lv_has ls 1 [(0, .int v)] := hl
  generalize hHe : s.heap = H at hP ⊢
  have hS : va_S A s.heap H [] := by rw [hHe]; exact va_S.rf
  generalize ([] : List Loc) = locs at hS ⊢
  refine lv_iload_n hx hb dX4_isPlace_0 rfl (lv_at hl 0 rfl) ?_
  refine lv_sipush (v := -30000) hx hb dX4_isPlace_1 (by decide) ?_
  refine lv_icmp_lt (tgt := 18) hx hb dX4_isPlace_4 (by decide) (fun c_4 => ?_) (fun c_4 => ?_)
  · refine lv_iconst (v := 0) hx hb dX4_isPlace_18 (by decide) ?_
    have hP9 := hP.sub (ws' := []) [] rfl
    have hD9 := hD.sub (ws' := []) [] (by decide) rfl
    exact W.zret (v := 0) hx hb hr rfl (fun t9 ht9 hW9 => ⟨⟨0, (), rfl, bo_z.n (fun h => absurd h.1 (Int32.not_le.mpr c_4)), by rw [ht9]; exact hP9, hD9⟩, hS.F ht9⟩) hS.2.2 dX4_isPlace_19
  · refine lv_iload_n hx hb dX4_isPlace_7 rfl (lv_at hl 0 rfl) ?_
    refine lv_sipush (v := 30000) hx hb dX4_isPlace_8 (by decide) ?_
    refine lv_icmp_gt (tgt := 18) hx hb dX4_isPlace_11 (by decide) (fun c_11 => ?_) (fun c_11 => ?_)
    · refine lv_iconst (v := 0) hx hb dX4_isPlace_18 (by decide) ?_
      have hP9 := hP.sub (ws' := []) [] rfl
      have hD9 := hD.sub (ws' := []) [] (by decide) rfl
      exact W.zret (v := 0) hx hb hr rfl (fun t9 ht9 hW9 => ⟨⟨0, (), rfl, bo_z.n (fun h => absurd h.2 (Int32.not_le.mpr c_11)), by rw [ht9]; exact hP9, hD9⟩, hS.F ht9⟩) hS.2.2 dX4_isPlace_19
    · refine lv_iconst (v := 1) hx hb dX4_isPlace_14 (by decide) ?_
      refine lv_goto (tgt := 19) hx hb dX4_isPlace_15 (by decide) ?_
      have hP9 := hP.sub (ws' := []) [] rfl
      have hD9 := hD.sub (ws' := []) [] (by decide) rfl
      exact W.zret (v := 1) hx hb hr rfl (fun t9 ht9 hW9 => ⟨⟨1, (), rfl, bo_z.y ⟨Int32.not_lt.mp c_4, Int32.not_lt.mp c_11⟩, by rw [ht9]; exact hP9, hD9⟩, hS.F ht9⟩) hS.2.2 dX4_isPlace_19
set_option maxHeartbeats 4000000 in
set_option maxRecDepth 100000 in
/-- TickWalksModel.isCentre -/
theorem rf_isCentre (l : Launch) (dC : Nat → ClassId) (dI : Nat → Nat → Nat) (cA cB : ClassId) (sz : Nat) (v : Int32) : Met l yX4_isCentre wsX4_isCentre ({ frames := 0, cells := 0, slots := 0, locals := 0 }) (va_Pc [.int v] (ct_P dC dI cA cB sz [])) (va_Qi (fun (r : Int32) (u : Unit) => bo_z r (ce_in v)) (fun (u : Unit) => ct_B dC dI (va_A [] sz) []) (va_A [] sz)) 0 0 (va_A [] sz) := by
  refine Met.ofW (cc := cX4_isCentre) (maxL := 1) (ret := (some .boolean)) (by decide +kernel) rfl ?_
  intro p e s m args below meth c s₁ B hml hv
  obtain ⟨rfl, hsz, hP, hK, hD0, hZ, hN⟩ := hv
  have hx := B.exec
  have hb := B.bytes
  have hr := B.returns
  have hts := atoms_spec (ws := wsX4_isCentre) B.pre
  have hown : s.vm.findClass RX4 = some m.cls := findClass_of_methodNamed B.named
  have hlocks := B.notSynchronized
  subst hsz
  have hD := hD0.self (sz := s.heap.size)
  generalize hAe : va_A [] s.heap.size = A at hD hZ ⊢
  have hA : ∀ q : Nat, s.heap.size ≤ q → A q := fun q h => by rw [← hAe]; exact Or.inr h
  have hl := lv_entry ([.int v]) (n := 1) (Nat.le_of_ble_eq_true rfl)
  rw [lg_entry_eq]
  generalize (lg_sl ([.int v]) ++ List.replicate (1 - (lg_sl ([.int v])).length) Slot.unset).toArray = ls at hl ⊢
  have hl : lv_has ls 1 [(0, .int v)] := hl
  generalize hHe : s.heap = H at hP ⊢
  have hS : va_S A s.heap H [] := by rw [hHe]; exact va_S.rf
  generalize ([] : List Loc) = locs at hS ⊢
  refine lv_iload_n hx hb dX4_isCentre_0 rfl (lv_at hl 0 rfl) ?_
  refine lv_ldc (v := -40000) hx hb hown (hts (.constant RX4 17 (-40000)) (List.mem_of_getElem? (l := wsX4_isCentre) (i := 1) rfl)) dX4_isCentre_1 ?_
  refine lv_icmp_lt (tgt := 16) hx hb dX4_isCentre_3 (by decide) (fun c_3 => ?_) (fun c_3 => ?_)
  · refine lv_iconst (v := 0) hx hb dX4_isCentre_16 (by decide) ?_
    have hP9 := hP.sub (ws' := []) [] rfl
    have hD9 := hD.sub (ws' := []) [] (by decide) rfl
    exact W.zret (v := 0) hx hb hr rfl (fun t9 ht9 hW9 => ⟨⟨0, (), rfl, bo_z.n (fun h => absurd h.1 (Int32.not_le.mpr c_3)), by rw [ht9]; exact hP9, hD9⟩, hS.F ht9⟩) hS.2.2 dX4_isCentre_17
  · refine lv_iload_n hx hb dX4_isCentre_6 rfl (lv_at hl 0 rfl) ?_
    refine lv_ldc (v := 40000) hx hb hown (hts (.constant RX4 9 (40000)) (List.mem_of_getElem? (l := wsX4_isCentre) (i := 2) rfl)) dX4_isCentre_7 ?_
    refine lv_icmp_gt (tgt := 16) hx hb dX4_isCentre_9 (by decide) (fun c_9 => ?_) (fun c_9 => ?_)
    · refine lv_iconst (v := 0) hx hb dX4_isCentre_16 (by decide) ?_
      have hP9 := hP.sub (ws' := []) [] rfl
      have hD9 := hD.sub (ws' := []) [] (by decide) rfl
      exact W.zret (v := 0) hx hb hr rfl (fun t9 ht9 hW9 => ⟨⟨0, (), rfl, bo_z.n (fun h => absurd h.2 (Int32.not_le.mpr c_9)), by rw [ht9]; exact hP9, hD9⟩, hS.F ht9⟩) hS.2.2 dX4_isCentre_17
    · refine lv_iconst (v := 1) hx hb dX4_isCentre_12 (by decide) ?_
      refine lv_goto (tgt := 17) hx hb dX4_isCentre_13 (by decide) ?_
      have hP9 := hP.sub (ws' := []) [] rfl
      have hD9 := hD.sub (ws' := []) [] (by decide) rfl
      exact W.zret (v := 1) hx hb hr rfl (fun t9 ht9 hW9 => ⟨⟨1, (), rfl, bo_z.y ⟨Int32.not_lt.mp c_3, Int32.not_lt.mp c_9⟩, by rw [ht9]; exact hP9, hD9⟩, hS.F ht9⟩) hS.2.2 dX4_isCentre_17
set_option maxHeartbeats 4000000 in
set_option maxRecDepth 100000 in
/-- TickWalksModel.amount -/
theorem rf_amount (l : Launch) (dC : Nat → ClassId) (dI : Nat → Nat → Nat) (cA cB : ClassId) (sz : Nat) (v : Int32) : Met l yX4_amount wsX4_amount ({ frames := 0, cells := 0, slots := 0, locals := 0 }) (va_Pc [.int v] (ct_P dC dI cA cB sz [])) (va_Qi (fun (r : Int32) (u : Unit) => r = am_i v) (fun (u : Unit) => ct_B dC dI (va_A [] sz) []) (va_A [] sz)) 0 0 (va_A [] sz) := by
  refine Met.ofW (cc := cX4_amount) (maxL := 1) (ret := (some .int)) (by decide +kernel) rfl ?_
  intro p e s m args below meth c s₁ B hml hv
  obtain ⟨rfl, hsz, hP, hK, hD0, hZ, hN⟩ := hv
  have hx := B.exec
  have hb := B.bytes
  have hr := B.returns
  have hts := atoms_spec (ws := wsX4_amount) B.pre
  have hown : s.vm.findClass RX4 = some m.cls := findClass_of_methodNamed B.named
  have hlocks := B.notSynchronized
  subst hsz
  have hD := hD0.self (sz := s.heap.size)
  generalize hAe : va_A [] s.heap.size = A at hD hZ ⊢
  have hA : ∀ q : Nat, s.heap.size ≤ q → A q := fun q h => by rw [← hAe]; exact Or.inr h
  have hl := lv_entry ([.int v]) (n := 1) (Nat.le_of_ble_eq_true rfl)
  rw [lg_entry_eq]
  generalize (lg_sl ([.int v]) ++ List.replicate (1 - (lg_sl ([.int v])).length) Slot.unset).toArray = ls at hl ⊢
  have hl : lv_has ls 1 [(0, .int v)] := hl
  generalize hHe : s.heap = H at hP ⊢
  have hS : va_S A s.heap H [] := by rw [hHe]; exact va_S.rf
  generalize ([] : List Loc) = locs at hS ⊢
  refine lv_iload_n hx hb dX4_amount_0 rfl (lv_at hl 0 rfl) ?_
  refine lv_if_ge (tgt := 9) hx hb dX4_amount_1 (by decide) (fun c_1 => ?_) (fun c_1 => ?_)
  · refine lv_iload_n hx hb dX4_amount_9 rfl (lv_at hl 0 rfl) ?_
    have hP9 := hP.sub (ws' := []) [] rfl
    have hD9 := hD.sub (ws' := []) [] (by decide) rfl
    exact W.iret (v := v) hx hb hr (fun t9 ht9 hW9 => ⟨⟨v, (), rfl, am_ge c_1, by rw [ht9]; exact hP9, hD9⟩, hS.F ht9⟩) hS.2.2 dX4_amount_10
  · refine lv_iload_n hx hb dX4_amount_4 rfl (lv_at hl 0 rfl) ?_
    refine lv_ineg hx hb dX4_amount_5 ?_
    refine lv_goto (tgt := 10) hx hb dX4_amount_6 (by decide) ?_
    have hP9 := hP.sub (ws' := []) [] rfl
    have hD9 := hD.sub (ws' := []) [] (by decide) rfl
    exact W.iret (v := -v) hx hb hr (fun t9 ht9 hW9 => ⟨⟨-v, (), rfl, am_lt c_1, by rw [ht9]; exact hP9, hD9⟩, hS.F ht9⟩) hS.2.2 dX4_amount_10
set_option maxHeartbeats 4000000 in
set_option maxRecDepth 100000 in
/-- TickWalksModel.square -/
theorem rf_square (l : Launch) (dC : Nat → ClassId) (dI : Nat → Nat → Nat) (cA cB : ClassId) (sz : Nat) (v : Int64) : Met l yX4_square wsX4_square ({ frames := 0, cells := 0, slots := 0, locals := 0 }) (va_Pc [.long v] (ct_P dC dI cA cB sz [])) (va_Ql (fun (r : Int64) (u : Unit) => r = v * v) (fun (u : Unit) => ct_B dC dI (va_A [] sz) []) (va_A [] sz)) 0 0 (va_A [] sz) := by
  refine Met.ofW (cc := cX4_square) (maxL := 2) (ret := (some .long)) (by decide +kernel) rfl ?_
  intro p e s m args below meth c s₁ B hml hv
  obtain ⟨rfl, hsz, hP, hK, hD0, hZ, hN⟩ := hv
  have hx := B.exec
  have hb := B.bytes
  have hr := B.returns
  have hts := atoms_spec (ws := wsX4_square) B.pre
  have hown : s.vm.findClass RX4 = some m.cls := findClass_of_methodNamed B.named
  have hlocks := B.notSynchronized
  subst hsz
  have hD := hD0.self (sz := s.heap.size)
  generalize hAe : va_A [] s.heap.size = A at hD hZ ⊢
  have hA : ∀ q : Nat, s.heap.size ≤ q → A q := fun q h => by rw [← hAe]; exact Or.inr h
  have hl := lv_entry ([.long v]) (n := 2) (Nat.le_of_ble_eq_true rfl)
  rw [lg_entry_eq]
  generalize (lg_sl ([.long v]) ++ List.replicate (2 - (lg_sl ([.long v])).length) Slot.unset).toArray = ls at hl ⊢
  have hl : lv_has ls 2 [(0, .long v)] := hl
  generalize hHe : s.heap = H at hP ⊢
  have hS : va_S A s.heap H [] := by rw [hHe]; exact va_S.rf
  generalize ([] : List Loc) = locs at hS ⊢
  refine lv_lload_n hx hb dX4_square_0 rfl (lv_at hl 0 rfl) ?_
  refine lv_lload_n hx hb dX4_square_1 rfl (lv_at hl 0 rfl) ?_
  refine lv_lmul hx hb dX4_square_2 ?_
  have hP9 := hP.sub (ws' := []) [] rfl
  have hD9 := hD.sub (ws' := []) [] (by decide) rfl
  exact W.lret (v := v * v) hx hb hr (fun t9 ht9 hW9 => ⟨⟨v * v, (), rfl, rfl, by rw [ht9]; exact hP9, hD9⟩, hS.F ht9⟩) hS.2.2 dX4_square_3
set_option maxHeartbeats 4000000 in
set_option maxRecDepth 100000 in
/-- TickWalksModel.eastOf -/
theorem rf_east (l : Launch) (dC : Nat → ClassId) (dI : Nat → Nat → Nat) (cA cB : ClassId) (sz : Nat) (j : Nat) (hj : j < 8) : Met l yX4_eastOf wsX4_eastOf ({ frames := 0, cells := 0, slots := 0, locals := 0 }) (va_Pc [.int (nI j)] (ct_P dC dI cA cB sz [])) (va_Qi (fun (r : Int32) (u : Unit) => r = st_X j) (fun (u : Unit) => ct_B dC dI (va_A [] sz) []) (va_A [] sz)) 0 0 (va_A [] sz) := by
  refine Met.ofW (cc := cX4_eastOf) (maxL := 1) (ret := (some .int)) (by decide +kernel) rfl ?_
  intro p e s m args below meth c s₁ B hml hv
  obtain ⟨rfl, hsz, hP, hK, hD0, hZ, hN⟩ := hv
  have hx := B.exec
  have hb := B.bytes
  have hr := B.returns
  have hts := atoms_spec (ws := wsX4_eastOf) B.pre
  have hown : s.vm.findClass RX4 = some m.cls := findClass_of_methodNamed B.named
  have hlocks := B.notSynchronized
  subst hsz
  have hD := hD0.self (sz := s.heap.size)
  generalize hAe : va_A [] s.heap.size = A at hD hZ ⊢
  have hA : ∀ q : Nat, s.heap.size ≤ q → A q := fun q h => by rw [← hAe]; exact Or.inr h
  have hl := lv_entry ([.int (nI j)]) (n := 1) (Nat.le_of_ble_eq_true rfl)
  rw [lg_entry_eq]
  generalize (lg_sl ([.int (nI j)]) ++ List.replicate (1 - (lg_sl ([.int (nI j)])).length) Slot.unset).toArray = ls at hl ⊢
  have hl : lv_has ls 1 [(0, .int (nI j))] := hl
  generalize hHe : s.heap = H at hP ⊢
  have hS : va_S A s.heap H [] := by rw [hHe]; exact va_S.rf
  generalize ([] : List Loc) = locs at hS ⊢
  refine lv_iload_n hx hb dX4_eastOf_0 rfl (lv_at hl 0 rfl) ?_
  refine lv_if_eq (tgt := 15) hx hb dX4_eastOf_1 (by decide) (fun c_1 => ?_) (fun c_1 => ?_)
  · refine lv_iconst (v := 1) hx hb dX4_eastOf_15 (by decide) ?_
    refine lv_goto (tgt := 35) hx hb dX4_eastOf_16 (by decide) ?_
    have hP9 := hP.sub (ws' := []) [] rfl
    have hD9 := hD.sub (ws' := []) [] (by decide) rfl
    exact W.iret (v := 1) hx hb hr (fun t9 ht9 hW9 => ⟨⟨1, (), rfl, (by rcases (show j = 0 ∨ j = 1 ∨ j = 2 ∨ j = 3 ∨ j = 4 ∨ j = 5 ∨ j = 6 ∨ j = 7 by omega) with rfl | rfl | rfl | rfl | rfl | rfl | rfl | rfl <;> first | rfl | (revert c_1; decide)), by rw [ht9]; exact hP9, hD9⟩, hS.F ht9⟩) hS.2.2 dX4_eastOf_35
  · refine lv_iload_n hx hb dX4_eastOf_4 rfl (lv_at hl 0 rfl) ?_
    refine lv_iconst (v := 1) hx hb dX4_eastOf_5 (by decide) ?_
    refine lv_icmp_eq (tgt := 15) hx hb dX4_eastOf_6 (by decide) (fun c_6 => ?_) (fun c_6 => ?_)
    · refine lv_iconst (v := 1) hx hb dX4_eastOf_15 (by decide) ?_
      refine lv_goto (tgt := 35) hx hb dX4_eastOf_16 (by decide) ?_
      have hP9 := hP.sub (ws' := []) [] rfl
      have hD9 := hD.sub (ws' := []) [] (by decide) rfl
      exact W.iret (v := 1) hx hb hr (fun t9 ht9 hW9 => ⟨⟨1, (), rfl, (by rcases (show j = 0 ∨ j = 1 ∨ j = 2 ∨ j = 3 ∨ j = 4 ∨ j = 5 ∨ j = 6 ∨ j = 7 by omega) with rfl | rfl | rfl | rfl | rfl | rfl | rfl | rfl <;> first | rfl | (revert c_1 c_6; decide)), by rw [ht9]; exact hP9, hD9⟩, hS.F ht9⟩) hS.2.2 dX4_eastOf_35
    · refine lv_iload_n hx hb dX4_eastOf_9 rfl (lv_at hl 0 rfl) ?_
      refine lv_bipush (v := 7) hx hb dX4_eastOf_10 (by decide) ?_
      refine lv_icmp_ne (tgt := 19) hx hb dX4_eastOf_12 (by decide) (fun c_12 => ?_) (fun c_12 => ?_)
      · refine lv_iload_n hx hb dX4_eastOf_19 rfl (lv_at hl 0 rfl) ?_
        refine lv_iconst (v := 2) hx hb dX4_eastOf_20 (by decide) ?_
        refine lv_icmp_eq (tgt := 30) hx hb dX4_eastOf_21 (by decide) (fun c_21 => ?_) (fun c_21 => ?_)
        · refine lv_iconst (v := 0) hx hb dX4_eastOf_30 (by decide) ?_
          refine lv_goto (tgt := 35) hx hb dX4_eastOf_31 (by decide) ?_
          have hP9 := hP.sub (ws' := []) [] rfl
          have hD9 := hD.sub (ws' := []) [] (by decide) rfl
          exact W.iret (v := 0) hx hb hr (fun t9 ht9 hW9 => ⟨⟨0, (), rfl, (by rcases (show j = 0 ∨ j = 1 ∨ j = 2 ∨ j = 3 ∨ j = 4 ∨ j = 5 ∨ j = 6 ∨ j = 7 by omega) with rfl | rfl | rfl | rfl | rfl | rfl | rfl | rfl <;> first | rfl | (revert c_1 c_6 c_12 c_21; decide)), by rw [ht9]; exact hP9, hD9⟩, hS.F ht9⟩) hS.2.2 dX4_eastOf_35
        · refine lv_iload_n hx hb dX4_eastOf_24 rfl (lv_at hl 0 rfl) ?_
          refine lv_bipush (v := 6) hx hb dX4_eastOf_25 (by decide) ?_
          refine lv_icmp_ne (tgt := 34) hx hb dX4_eastOf_27 (by decide) (fun c_27 => ?_) (fun c_27 => ?_)
          · refine lv_iconst (v := -1) hx hb dX4_eastOf_34 (by decide) ?_
            have hP9 := hP.sub (ws' := []) [] rfl
            have hD9 := hD.sub (ws' := []) [] (by decide) rfl
            exact W.iret (v := -1) hx hb hr (fun t9 ht9 hW9 => ⟨⟨-1, (), rfl, (by rcases (show j = 0 ∨ j = 1 ∨ j = 2 ∨ j = 3 ∨ j = 4 ∨ j = 5 ∨ j = 6 ∨ j = 7 by omega) with rfl | rfl | rfl | rfl | rfl | rfl | rfl | rfl <;> first | rfl | (revert c_1 c_6 c_12 c_21 c_27; decide)), by rw [ht9]; exact hP9, hD9⟩, hS.F ht9⟩) hS.2.2 dX4_eastOf_35
          · refine lv_iconst (v := 0) hx hb dX4_eastOf_30 (by decide) ?_
            refine lv_goto (tgt := 35) hx hb dX4_eastOf_31 (by decide) ?_
            have hP9 := hP.sub (ws' := []) [] rfl
            have hD9 := hD.sub (ws' := []) [] (by decide) rfl
            exact W.iret (v := 0) hx hb hr (fun t9 ht9 hW9 => ⟨⟨0, (), rfl, (by rcases (show j = 0 ∨ j = 1 ∨ j = 2 ∨ j = 3 ∨ j = 4 ∨ j = 5 ∨ j = 6 ∨ j = 7 by omega) with rfl | rfl | rfl | rfl | rfl | rfl | rfl | rfl <;> first | rfl | (revert c_1 c_6 c_12 c_21 c_27; decide)), by rw [ht9]; exact hP9, hD9⟩, hS.F ht9⟩) hS.2.2 dX4_eastOf_35
      · refine lv_iconst (v := 1) hx hb dX4_eastOf_15 (by decide) ?_
        refine lv_goto (tgt := 35) hx hb dX4_eastOf_16 (by decide) ?_
        have hP9 := hP.sub (ws' := []) [] rfl
        have hD9 := hD.sub (ws' := []) [] (by decide) rfl
        exact W.iret (v := 1) hx hb hr (fun t9 ht9 hW9 => ⟨⟨1, (), rfl, (by rcases (show j = 0 ∨ j = 1 ∨ j = 2 ∨ j = 3 ∨ j = 4 ∨ j = 5 ∨ j = 6 ∨ j = 7 by omega) with rfl | rfl | rfl | rfl | rfl | rfl | rfl | rfl <;> first | rfl | (revert c_1 c_6 c_12; decide)), by rw [ht9]; exact hP9, hD9⟩, hS.F ht9⟩) hS.2.2 dX4_eastOf_35
set_option maxHeartbeats 4000000 in
set_option maxRecDepth 100000 in
/-- TickWalksModel.northOf -/
theorem rf_north (l : Launch) (dC : Nat → ClassId) (dI : Nat → Nat → Nat) (cA cB : ClassId) (sz : Nat) (j : Nat) (hj : j < 8) : Met l yX4_northOf wsX4_northOf ({ frames := 0, cells := 0, slots := 0, locals := 0 }) (va_Pc [.int (nI j)] (ct_P dC dI cA cB sz [])) (va_Qi (fun (r : Int32) (u : Unit) => r = st_Y j) (fun (u : Unit) => ct_B dC dI (va_A [] sz) []) (va_A [] sz)) 0 0 (va_A [] sz) := by
  refine Met.ofW (cc := cX4_northOf) (maxL := 1) (ret := (some .int)) (by decide +kernel) rfl ?_
  intro p e s m args below meth c s₁ B hml hv
  obtain ⟨rfl, hsz, hP, hK, hD0, hZ, hN⟩ := hv
  have hx := B.exec
  have hb := B.bytes
  have hr := B.returns
  have hts := atoms_spec (ws := wsX4_northOf) B.pre
  have hown : s.vm.findClass RX4 = some m.cls := findClass_of_methodNamed B.named
  have hlocks := B.notSynchronized
  subst hsz
  have hD := hD0.self (sz := s.heap.size)
  generalize hAe : va_A [] s.heap.size = A at hD hZ ⊢
  have hA : ∀ q : Nat, s.heap.size ≤ q → A q := fun q h => by rw [← hAe]; exact Or.inr h
  have hl := lv_entry ([.int (nI j)]) (n := 1) (Nat.le_of_ble_eq_true rfl)
  rw [lg_entry_eq]
  generalize (lg_sl ([.int (nI j)]) ++ List.replicate (1 - (lg_sl ([.int (nI j)])).length) Slot.unset).toArray = ls at hl ⊢
  have hl : lv_has ls 1 [(0, .int (nI j))] := hl
  generalize hHe : s.heap = H at hP ⊢
  have hS : va_S A s.heap H [] := by rw [hHe]; exact va_S.rf
  generalize ([] : List Loc) = locs at hS ⊢
  refine lv_iload_n hx hb dX4_northOf_0 rfl (lv_at hl 0 rfl) ?_
  refine lv_iconst (v := 1) hx hb dX4_northOf_1 (by decide) ?_
  refine lv_icmp_eq (tgt := 15) hx hb dX4_northOf_2 (by decide) (fun c_2 => ?_) (fun c_2 => ?_)
  · refine lv_iconst (v := 1) hx hb dX4_northOf_15 (by decide) ?_
    refine lv_goto (tgt := 33) hx hb dX4_northOf_16 (by decide) ?_
    have hP9 := hP.sub (ws' := []) [] rfl
    have hD9 := hD.sub (ws' := []) [] (by decide) rfl
    exact W.iret (v := 1) hx hb hr (fun t9 ht9 hW9 => ⟨⟨1, (), rfl, (by rcases (show j = 0 ∨ j = 1 ∨ j = 2 ∨ j = 3 ∨ j = 4 ∨ j = 5 ∨ j = 6 ∨ j = 7 by omega) with rfl | rfl | rfl | rfl | rfl | rfl | rfl | rfl <;> first | rfl | (revert c_2; decide)), by rw [ht9]; exact hP9, hD9⟩, hS.F ht9⟩) hS.2.2 dX4_northOf_33
  · refine lv_iload_n hx hb dX4_northOf_5 rfl (lv_at hl 0 rfl) ?_
    refine lv_iconst (v := 2) hx hb dX4_northOf_6 (by decide) ?_
    refine lv_icmp_eq (tgt := 15) hx hb dX4_northOf_7 (by decide) (fun c_7 => ?_) (fun c_7 => ?_)
    · refine lv_iconst (v := 1) hx hb dX4_northOf_15 (by decide) ?_
      refine lv_goto (tgt := 33) hx hb dX4_northOf_16 (by decide) ?_
      have hP9 := hP.sub (ws' := []) [] rfl
      have hD9 := hD.sub (ws' := []) [] (by decide) rfl
      exact W.iret (v := 1) hx hb hr (fun t9 ht9 hW9 => ⟨⟨1, (), rfl, (by rcases (show j = 0 ∨ j = 1 ∨ j = 2 ∨ j = 3 ∨ j = 4 ∨ j = 5 ∨ j = 6 ∨ j = 7 by omega) with rfl | rfl | rfl | rfl | rfl | rfl | rfl | rfl <;> first | rfl | (revert c_2 c_7; decide)), by rw [ht9]; exact hP9, hD9⟩, hS.F ht9⟩) hS.2.2 dX4_northOf_33
    · refine lv_iload_n hx hb dX4_northOf_10 rfl (lv_at hl 0 rfl) ?_
      refine lv_iconst (v := 3) hx hb dX4_northOf_11 (by decide) ?_
      refine lv_icmp_ne (tgt := 19) hx hb dX4_northOf_12 (by decide) (fun c_12 => ?_) (fun c_12 => ?_)
      · refine lv_iload_n hx hb dX4_northOf_19 rfl (lv_at hl 0 rfl) ?_
        refine lv_if_eq (tgt := 28) hx hb dX4_northOf_20 (by decide) (fun c_20 => ?_) (fun c_20 => ?_)
        · refine lv_iconst (v := 0) hx hb dX4_northOf_28 (by decide) ?_
          refine lv_goto (tgt := 33) hx hb dX4_northOf_29 (by decide) ?_
          have hP9 := hP.sub (ws' := []) [] rfl
          have hD9 := hD.sub (ws' := []) [] (by decide) rfl
          exact W.iret (v := 0) hx hb hr (fun t9 ht9 hW9 => ⟨⟨0, (), rfl, (by rcases (show j = 0 ∨ j = 1 ∨ j = 2 ∨ j = 3 ∨ j = 4 ∨ j = 5 ∨ j = 6 ∨ j = 7 by omega) with rfl | rfl | rfl | rfl | rfl | rfl | rfl | rfl <;> first | rfl | (revert c_2 c_7 c_12 c_20; decide)), by rw [ht9]; exact hP9, hD9⟩, hS.F ht9⟩) hS.2.2 dX4_northOf_33
        · refine lv_iload_n hx hb dX4_northOf_23 rfl (lv_at hl 0 rfl) ?_
          refine lv_iconst (v := 4) hx hb dX4_northOf_24 (by decide) ?_
          refine lv_icmp_ne (tgt := 32) hx hb dX4_northOf_25 (by decide) (fun c_25 => ?_) (fun c_25 => ?_)
          · refine lv_iconst (v := -1) hx hb dX4_northOf_32 (by decide) ?_
            have hP9 := hP.sub (ws' := []) [] rfl
            have hD9 := hD.sub (ws' := []) [] (by decide) rfl
            exact W.iret (v := -1) hx hb hr (fun t9 ht9 hW9 => ⟨⟨-1, (), rfl, (by rcases (show j = 0 ∨ j = 1 ∨ j = 2 ∨ j = 3 ∨ j = 4 ∨ j = 5 ∨ j = 6 ∨ j = 7 by omega) with rfl | rfl | rfl | rfl | rfl | rfl | rfl | rfl <;> first | rfl | (revert c_2 c_7 c_12 c_20 c_25; decide)), by rw [ht9]; exact hP9, hD9⟩, hS.F ht9⟩) hS.2.2 dX4_northOf_33
          · refine lv_iconst (v := 0) hx hb dX4_northOf_28 (by decide) ?_
            refine lv_goto (tgt := 33) hx hb dX4_northOf_29 (by decide) ?_
            have hP9 := hP.sub (ws' := []) [] rfl
            have hD9 := hD.sub (ws' := []) [] (by decide) rfl
            exact W.iret (v := 0) hx hb hr (fun t9 ht9 hW9 => ⟨⟨0, (), rfl, (by rcases (show j = 0 ∨ j = 1 ∨ j = 2 ∨ j = 3 ∨ j = 4 ∨ j = 5 ∨ j = 6 ∨ j = 7 by omega) with rfl | rfl | rfl | rfl | rfl | rfl | rfl | rfl <;> first | rfl | (revert c_2 c_7 c_12 c_20 c_25; decide)), by rw [ht9]; exact hP9, hD9⟩, hS.F ht9⟩) hS.2.2 dX4_northOf_33
      · refine lv_iconst (v := 1) hx hb dX4_northOf_15 (by decide) ?_
        refine lv_goto (tgt := 33) hx hb dX4_northOf_16 (by decide) ?_
        have hP9 := hP.sub (ws' := []) [] rfl
        have hD9 := hD.sub (ws' := []) [] (by decide) rfl
        exact W.iret (v := 1) hx hb hr (fun t9 ht9 hW9 => ⟨⟨1, (), rfl, (by rcases (show j = 0 ∨ j = 1 ∨ j = 2 ∨ j = 3 ∨ j = 4 ∨ j = 5 ∨ j = 6 ∨ j = 7 by omega) with rfl | rfl | rfl | rfl | rfl | rfl | rfl | rfl <;> first | rfl | (revert c_2 c_7 c_12; decide)), by rw [ht9]; exact hP9, hD9⟩, hS.F ht9⟩) hS.2.2 dX4_northOf_33
set_option maxHeartbeats 4000000 in
set_option maxRecDepth 100000 in
/-- TickWalksModel.down -/
theorem rf_down (l : Launch) (dC : Nat → ClassId) (dI : Nat → Nat → Nat) (cA cB : ClassId) (sz : Nat) (a : Int64) (b : Int64) (hb0 : ¬ b = 0) : Met l yX4_down wsX4_down ({ frames := 0, cells := 0, slots := 0, locals := 0 }) (va_Pc [.long a, .long b] (ct_P dC dI cA cB sz [])) (va_Qi (fun (r : Int32) (u : Unit) => r = (fd_d a b).toInt32) (fun (u : Unit) => ct_B dC dI (va_A [] sz) []) (va_A [] sz)) 0 0 (va_A [] sz) := by
  refine Met.ofW (cc := cX4_down) (maxL := 4) (ret := (some .int)) (by decide +kernel) rfl ?_
  intro p e s m args below meth c s₁ B hml hv
  obtain ⟨rfl, hsz, hP, hK, hD0, hZ, hN⟩ := hv
  have hx := B.exec
  have hb := B.bytes
  have hr := B.returns
  have hts := atoms_spec (ws := wsX4_down) B.pre
  have hown : s.vm.findClass RX4 = some m.cls := findClass_of_methodNamed B.named
  have hlocks := B.notSynchronized
  subst hsz
  have hD := hD0.self (sz := s.heap.size)
  generalize hAe : va_A [] s.heap.size = A at hD hZ ⊢
  have hA : ∀ q : Nat, s.heap.size ≤ q → A q := fun q h => by rw [← hAe]; exact Or.inr h
  have hl := lv_entry ([.long a, .long b]) (n := 4) (Nat.le_of_ble_eq_true rfl)
  rw [lg_entry_eq]
  generalize (lg_sl ([.long a, .long b]) ++ List.replicate (4 - (lg_sl ([.long a, .long b])).length) Slot.unset).toArray = ls at hl ⊢
  have hl : lv_has ls 4 [(0, .long a), (2, .long b)] := hl
  generalize hHe : s.heap = H at hP ⊢
  have hS : va_S A s.heap H [] := by rw [hHe]; exact va_S.rf
  generalize ([] : List Loc) = locs at hS ⊢
  refine lv_lload_n hx hb dX4_down_0 rfl (lv_at hl 0 rfl) ?_
  refine lv_lconst (v := 0) hx hb dX4_down_1 (by decide) ?_
  refine W.lcmp hx hb dX4_down_2 ?_
  refine lv_if_ge (tgt := 22) hx hb dX4_down_3 (by decide) (fun c_3 => ?_) (fun c_3 => ?_)
  · refine lv_lload_n hx hb dX4_down_22 rfl (lv_at hl 0 rfl) ?_
    refine lv_lload_n hx hb dX4_down_23 rfl (lv_at hl 1 rfl) ?_
    refine lv_ldiv hx hb dX4_down_24 hb0 ?_
    refine lv_l2i hx hb dX4_down_25 rfl ?_
    have hP9 := hP.sub (ws' := []) [] rfl
    have hD9 := hD.sub (ws' := []) [] (by decide) rfl
    exact W.iret (v := (a / b).toInt32) hx hb hr (fun t9 ht9 hW9 => ⟨⟨(a / b).toInt32, (), rfl, (by unfold fd_d; rw [if_neg (fun h => absurd h.1 (Int64.not_lt.mpr ((lg_cmp_ge a 0).mp c_3)))]), by rw [ht9]; exact hP9, hD9⟩, hS.F ht9⟩) hS.2.2 dX4_down_26
  · refine lv_lload_n hx hb dX4_down_6 rfl (lv_at hl 0 rfl) ?_
    refine lv_lload_n hx hb dX4_down_7 rfl (lv_at hl 1 rfl) ?_
    refine lv_lrem hx hb dX4_down_8 hb0 ?_
    refine lv_lconst (v := 0) hx hb dX4_down_9 (by decide) ?_
    refine W.lcmp hx hb dX4_down_10 ?_
    refine lv_if_eq (tgt := 22) hx hb dX4_down_11 (by decide) (fun c_11 => ?_) (fun c_11 => ?_)
    · refine lv_lload_n hx hb dX4_down_22 rfl (lv_at hl 0 rfl) ?_
      refine lv_lload_n hx hb dX4_down_23 rfl (lv_at hl 1 rfl) ?_
      refine lv_ldiv hx hb dX4_down_24 hb0 ?_
      refine lv_l2i hx hb dX4_down_25 rfl ?_
      have hP9 := hP.sub (ws' := []) [] rfl
      have hD9 := hD.sub (ws' := []) [] (by decide) rfl
      exact W.iret (v := (a / b).toInt32) hx hb hr (fun t9 ht9 hW9 => ⟨⟨(a / b).toInt32, (), rfl, (by unfold fd_d; rw [if_neg (fun h => h.2 ((lg_cmp_eq _ _).mp c_11))]), by rw [ht9]; exact hP9, hD9⟩, hS.F ht9⟩) hS.2.2 dX4_down_26
    · refine lv_lload_n hx hb dX4_down_14 rfl (lv_at hl 0 rfl) ?_
      refine lv_lload_n hx hb dX4_down_15 rfl (lv_at hl 1 rfl) ?_
      refine lv_ldiv hx hb dX4_down_16 hb0 ?_
      refine lv_lconst (v := 1) hx hb dX4_down_17 (by decide) ?_
      refine lv_lsub hx hb dX4_down_18 ?_
      refine lv_goto (tgt := 25) hx hb dX4_down_19 (by decide) ?_
      refine lv_l2i hx hb dX4_down_25 rfl ?_
      have hP9 := hP.sub (ws' := []) [] rfl
      have hD9 := hD.sub (ws' := []) [] (by decide) rfl
      exact W.iret (v := ((a / b) - 1).toInt32) hx hb hr (fun t9 ht9 hW9 => ⟨⟨((a / b) - 1).toInt32, (), rfl, (by unfold fd_d; rw [if_pos ⟨Int64.not_le.mp (fun h => c_3 ((lg_cmp_ge a 0).mpr h)), fun h => c_11 ((lg_cmp_eq _ _).mpr h)⟩]), by rw [ht9]; exact hP9, hD9⟩, hS.F ht9⟩) hS.2.2 dX4_down_26
set_option maxHeartbeats 4000000 in
set_option maxRecDepth 100000 in
/-- Math.floorDiv(long, long) -/
theorem ma_floorDiv (l : Launch) (dC : Nat → ClassId) (dI : Nat → Nat → Nat) (cA cB : ClassId) (sz : Nat) (a : Int64) (b : Int64) (hb0 : ¬ b = 0) : Met l yJ9_floorDiv_f86c9 wsJ9_floorDiv_f86c9 ({ frames := 0, cells := 0, slots := 0, locals := 0 }) (va_Pc [.long a, .long b] (ct_P dC dI cA cB sz [])) (va_Ql (fun (r : Int64) (u : Unit) => r = fd_f a b) (fun (u : Unit) => ct_B dC dI (va_A [] sz) []) (va_A [] sz)) 0 0 (va_A [] sz) := by
  refine va_MetF (cc := cJ9_floorDiv_f86c9) (maxL := 6) (ret := (some .long)) (by decide +kernel) rfl ?_
  intro p e s m args below meth c s₁ B hml hv
  obtain ⟨rfl, hsz, hP, hK, hD0, hZ, hN⟩ := hv
  have hx := B.exec
  have hb := B.bytes
  have hr := B.returns
  have hts := atoms_spec (ws := wsJ9_floorDiv_f86c9) B.pre
  have hown : s.vm.findClass RJ9 = some m.cls := findClass_of_methodNamed B.named
  have hlocks := B.notSynchronized
  subst hsz
  have hD := hD0.self (sz := s.heap.size)
  generalize hAe : va_A [] s.heap.size = A at hD hZ ⊢
  have hA : ∀ q : Nat, s.heap.size ≤ q → A q := fun q h => by rw [← hAe]; exact Or.inr h
  have hl := lv_entry ([.long a, .long b]) (n := 6) (Nat.le_of_ble_eq_true rfl)
  rw [lg_entry_eq]
  generalize (lg_sl ([.long a, .long b]) ++ List.replicate (6 - (lg_sl ([.long a, .long b])).length) Slot.unset).toArray = ls at hl ⊢
  have hl : lv_has ls 6 [(0, .long a), (2, .long b)] := hl
  generalize hHe : s.heap = H at hP ⊢
  have hS : va_S A s.heap H [] := by rw [hHe]; exact va_S.rf
  generalize ([] : List Loc) = locs at hS ⊢
  refine lv_lload_n hx hb dJ9_floorDiv_f86c9_0 rfl (lv_at hl 0 rfl) ?_
  refine lv_lload_n hx hb dJ9_floorDiv_f86c9_1 rfl (lv_at hl 1 rfl) ?_
  refine lv_ldiv hx hb dJ9_floorDiv_f86c9_2 hb0 ?_
  refine lv_lstore (lv' := [(4, .long (a / b)), (0, .long a), (2, .long b)]) hx hb dJ9_floorDiv_f86c9_3 hl (by decide) rfl (fun ls hl => ?_)
  refine lv_lload_n hx hb dJ9_floorDiv_f86c9_5 rfl (lv_at hl 1 rfl) ?_
  refine lv_lload_n hx hb dJ9_floorDiv_f86c9_6 rfl (lv_at hl 2 rfl) ?_
  refine lv_lxor hx hb dJ9_floorDiv_f86c9_7 ?_
  refine lv_lconst (v := 0) hx hb dJ9_floorDiv_f86c9_8 (by decide) ?_
  refine W.lcmp hx hb dJ9_floorDiv_f86c9_9 ?_
  refine lv_if_ge (tgt := 27) hx hb dJ9_floorDiv_f86c9_10 (by decide) (fun c_10 => ?_) (fun c_10 => ?_)
  · refine lv_lload hx hb dJ9_floorDiv_f86c9_27 (lv_at hl 0 rfl) ?_
    have hP9 := hP.sub (ws' := []) [] rfl
    have hD9 := hD.sub (ws' := []) [] (by decide) rfl
    exact W.lret (v := a / b) hx hb hr (fun t9 ht9 hW9 => ⟨⟨a / b, (), rfl, (by unfold fd_f; rw [if_neg (fun h => absurd h.1 (Int64.not_lt.mpr ((lg_cmp_ge (a ^^^ b) 0).mp c_10)))]), by rw [ht9]; exact hP9, hD9⟩, hS.F ht9⟩) hS.2.2 dJ9_floorDiv_f86c9_29
  · refine lv_lload hx hb dJ9_floorDiv_f86c9_13 (lv_at hl 0 rfl) ?_
    refine lv_lload_n hx hb dJ9_floorDiv_f86c9_15 rfl (lv_at hl 2 rfl) ?_
    refine lv_lmul hx hb dJ9_floorDiv_f86c9_16 ?_
    refine lv_lload_n hx hb dJ9_floorDiv_f86c9_17 rfl (lv_at hl 1 rfl) ?_
    refine W.lcmp hx hb dJ9_floorDiv_f86c9_18 ?_
    refine lv_if_eq (tgt := 27) hx hb dJ9_floorDiv_f86c9_19 (by decide) (fun c_19 => ?_) (fun c_19 => ?_)
    · refine lv_lload hx hb dJ9_floorDiv_f86c9_27 (lv_at hl 0 rfl) ?_
      have hP9 := hP.sub (ws' := []) [] rfl
      have hD9 := hD.sub (ws' := []) [] (by decide) rfl
      exact W.lret (v := a / b) hx hb hr (fun t9 ht9 hW9 => ⟨⟨a / b, (), rfl, (by unfold fd_f; rw [if_neg (fun h => h.2 ((lg_cmp_eq _ _).mp c_19))]), by rw [ht9]; exact hP9, hD9⟩, hS.F ht9⟩) hS.2.2 dJ9_floorDiv_f86c9_29
    · refine lv_lload hx hb dJ9_floorDiv_f86c9_22 (lv_at hl 0 rfl) ?_
      refine lv_lconst (v := 1) hx hb dJ9_floorDiv_f86c9_24 (by decide) ?_
      refine lv_lsub hx hb dJ9_floorDiv_f86c9_25 ?_
      have hP9 := hP.sub (ws' := []) [] rfl
      have hD9 := hD.sub (ws' := []) [] (by decide) rfl
      exact W.lret (v := (a / b) - 1) hx hb hr (fun t9 ht9 hW9 => ⟨⟨(a / b) - 1, (), rfl, (by unfold fd_f; rw [if_pos ⟨Int64.not_le.mp (fun h => c_10 ((lg_cmp_ge (a ^^^ b) 0).mpr h)), fun h => c_19 ((lg_cmp_eq _ _).mpr h)⟩]), by rw [ht9]; exact hP9, hD9⟩, hS.F ht9⟩) hS.2.2 dJ9_floorDiv_f86c9_26
end
section
set_option maxHeartbeats 4000000 in
set_option maxRecDepth 100000 in
/-- Arc.squareFromCentre -/
theorem ar_sq (l : Launch) (dC : Nat → ClassId) (dI : Nat → Nat → Nat) (cA cB : ClassId) (sz : Nat) (h0 : Nat) (qx : Nat) (qy : Nat) (ht : Int32) (cx : Int32) (cy : Int32) (lf : Int32) (sq : Int64) (ln : Int32) (of : Int32) (sr : Int32) (fx : Int32) (fy : Int32) : Met l yX0_squareFromCentre wsX0_squareFromCentre ({ frames := 0, cells := 0, slots := 0, locals := 0 }) (va_Pc [.ref h0] (ct_P dC dI cA cB sz [(h0, .inr (0, [.ref qx, .ref qy, .int ht, .int cx, .int cy, .int lf, .long sq, .int ln, .int of, .int sr, .int fx, .int fy]))])) (va_Ql (fun (r : Int64) (u : Unit) => r = sq_c fx cx fy cy) (fun (u : Unit) => ct_B dC dI (va_A [(h0, .inr (0, [.ref qx, .ref qy, .int ht, .int cx, .int cy, .int lf, .long sq, .int ln, .int of, .int sr, .int fx, .int fy]))] sz) [(h0, .inr (0, [.ref qx, .ref qy, .int ht, .int cx, .int cy, .int lf, .long sq, .int ln, .int of, .int sr, .int fx, .int fy]))]) (va_A [(h0, .inr (0, [.ref qx, .ref qy, .int ht, .int cx, .int cy, .int lf, .long sq, .int ln, .int of, .int sr, .int fx, .int fy]))] sz)) 0 0 (va_A [(h0, .inr (0, [.ref qx, .ref qy, .int ht, .int cx, .int cy, .int lf, .long sq, .int ln, .int of, .int sr, .int fx, .int fy]))] sz) := by
  refine Met.ofW (cc := cX0_squareFromCentre) (maxL := 5) (ret := (some .long)) (by decide +kernel) rfl ?_
  intro p e s m args below meth c s₁ B hml hv
  obtain ⟨rfl, hsz, hP, hK, hD0, hZ, hN⟩ := hv
  have hx := B.exec
  have hb := B.bytes
  have hr := B.returns
  have hts := atoms_spec (ws := wsX0_squareFromCentre) B.pre
  have hown : s.vm.findClass RX0 = some m.cls := findClass_of_methodNamed B.named
  have hlocks := B.notSynchronized
  have hiX0 : ∀ w ∈ u_ws RX0 TX0 12, w ∈ wsX0_squareFromCentre := by decide +kernel
  subst hsz
  have hD := hD0.self (sz := s.heap.size)
  generalize hAe : va_A [(h0, .inr (0, [.ref qx, .ref qy, .int ht, .int cx, .int cy, .int lf, .long sq, .int ln, .int of, .int sr, .int fx, .int fy]))] s.heap.size = A at hD hZ ⊢
  have hA : ∀ q : Nat, s.heap.size ≤ q → A q := fun q h => by rw [← hAe]; exact Or.inr h
  have hl := lv_entry ([.ref h0]) (n := 5) (Nat.le_of_ble_eq_true rfl)
  rw [lg_entry_eq]
  generalize (lg_sl ([.ref h0]) ++ List.replicate (5 - (lg_sl ([.ref h0])).length) Slot.unset).toArray = ls at hl ⊢
  have hl : lv_has ls 5 [(0, .ref h0)] := hl
  generalize hHe : s.heap = H at hP ⊢
  have hS : va_S A s.heap H [] := by rw [hHe]; exact va_S.rf
  generalize ([] : List Loc) = locs at hS ⊢
  refine lv_aload_n hx hb dX0_squareFromCentre_0 rfl (lv_at hl 0 rfl) ?_
  refine va_get (D := (dC, dI)) (ci := 0) (v := .int fx) (C := RX0) (T := TX0) (N := 12) hx hb hts hiX0 hown hK hP 0 rfl rfl 10 (by decide) (hts (.fieldLink RX0 45 "TickWalks$Arc" "footX" "I") (List.mem_of_getElem? (l := wsX0_squareFromCentre) (i := 1) rfl)) (fun _ h9 => h9) rfl dX0_squareFromCentre_1 ?_
  refine lv_aload_n hx hb dX0_squareFromCentre_4 rfl (lv_at hl 0 rfl) ?_
  refine va_get (D := (dC, dI)) (ci := 0) (v := .int cx) (C := RX0) (T := TX0) (N := 12) hx hb hts hiX0 hown hK hP 0 rfl rfl 3 (by decide) (hts (.fieldLink RX0 22 "TickWalks$Arc" "centreX" "I") (List.mem_of_getElem? (l := wsX0_squareFromCentre) (i := 2) rfl)) (fun _ h9 => h9) rfl dX0_squareFromCentre_5 ?_
  refine lv_isub hx hb dX0_squareFromCentre_8 ?_
  refine lv_i2l hx hb dX0_squareFromCentre_9 rfl ?_
  refine lv_lstore_n (lv' := [(1, .long ((fx - cx).toInt64)), (0, .ref h0)]) hx hb dX0_squareFromCentre_10 rfl hl (by decide) rfl (fun ls hl => ?_)
  refine lv_aload_n hx hb dX0_squareFromCentre_11 rfl (lv_at hl 1 rfl) ?_
  refine va_get (D := (dC, dI)) (ci := 0) (v := .int fy) (C := RX0) (T := TX0) (N := 12) hx hb hts hiX0 hown hK hP 0 rfl rfl 11 (by decide) (hts (.fieldLink RX0 48 "TickWalks$Arc" "footY" "I") (List.mem_of_getElem? (l := wsX0_squareFromCentre) (i := 3) rfl)) (fun _ h9 => h9) rfl dX0_squareFromCentre_12 ?_
  refine lv_aload_n hx hb dX0_squareFromCentre_15 rfl (lv_at hl 1 rfl) ?_
  refine va_get (D := (dC, dI)) (ci := 0) (v := .int cy) (C := RX0) (T := TX0) (N := 12) hx hb hts hiX0 hown hK hP 0 rfl rfl 4 (by decide) (hts (.fieldLink RX0 25 "TickWalks$Arc" "centreY" "I") (List.mem_of_getElem? (l := wsX0_squareFromCentre) (i := 4) rfl)) (fun _ h9 => h9) rfl dX0_squareFromCentre_16 ?_
  refine lv_isub hx hb dX0_squareFromCentre_19 ?_
  refine lv_i2l hx hb dX0_squareFromCentre_20 rfl ?_
  refine lv_lstore_n (lv' := [(3, .long ((fy - cy).toInt64)), (1, .long ((fx - cx).toInt64)), (0, .ref h0)]) hx hb dX0_squareFromCentre_21 rfl hl (by decide) rfl (fun ls hl => ?_)
  refine lv_lload_n hx hb dX0_squareFromCentre_22 rfl (lv_at hl 1 rfl) ?_
  refine lv_lload_n hx hb dX0_squareFromCentre_23 rfl (lv_at hl 1 rfl) ?_
  refine lv_lmul hx hb dX0_squareFromCentre_24 ?_
  refine lv_lload_n hx hb dX0_squareFromCentre_25 rfl (lv_at hl 0 rfl) ?_
  refine lv_lload_n hx hb dX0_squareFromCentre_26 rfl (lv_at hl 0 rfl) ?_
  refine lv_lmul hx hb dX0_squareFromCentre_27 ?_
  refine lv_ladd hx hb dX0_squareFromCentre_28 ?_
  have hP9 := hP.sub (ws' := [(h0, .inr (0, [.ref qx, .ref qy, .int ht, .int cx, .int cy, .int lf, .long sq, .int ln, .int of, .int sr, .int fx, .int fy]))]) [0] rfl
  have hD9 := hD.sub (ws' := [(h0, .inr (0, [.ref qx, .ref qy, .int ht, .int cx, .int cy, .int lf, .long sq, .int ln, .int of, .int sr, .int fx, .int fy]))]) [0] (by decide) rfl
  exact W.lret (v := (((fx - cx).toInt64) * ((fx - cx).toInt64)) + (((fy - cy).toInt64) * ((fy - cy).toInt64))) hx hb hr (fun t9 ht9 hW9 => ⟨⟨(((fx - cx).toInt64) * ((fx - cx).toInt64)) + (((fy - cy).toInt64) * ((fy - cy).toInt64)), (), rfl, rfl, by rw [ht9]; exact hP9, hD9⟩, hS.F ht9⟩) hS.2.2 dX0_squareFromCentre_29
set_option maxHeartbeats 4000000 in
set_option maxRecDepth 100000 in
/-- Arc.mark -/
theorem ar_mark (l : Launch) (dC : Nat → ClassId) (dI : Nat → Nat → Nat) (cA cB : ClassId) (sz : Nat) (h0 : Nat) (qx : Nat) (qy : Nat) (ht : Int32) (cx : Int32) (cy : Int32) (lf : Int32) (sq : Int64) (ln : Int32) (of : Int32) (sr : Int32) (fx : Int32) (fy : Int32) (mx : Nat → Int32) (my : Nat → Int32) (j : Nat) (hj : j ≤ 40000) : Met l yX0_mark wsX0_mark ({ frames := 0, cells := 0, slots := 0, locals := 0 }) (va_Pc [.ref h0, .int (nI j)] (ct_P dC dI cA cB sz [(h0, .inr (0, [.ref qx, .ref qy, .int ht, .int cx, .int cy, .int lf, .long sq, .int ln, .int of, .int sr, .int fx, .int fy])), (qx, .inl (cA, 401, .inl mx)), (qy, .inl (cA, 401, .inl my))])) (va_Qv (fun (u : (Nat → Int32) × (Nat → Int32)) => u.1 = mk_u mx j fx ∧ u.2 = mk_u my j fy) (fun (u : (Nat → Int32) × (Nat → Int32)) => ct_B dC dI (va_A [(h0, .inr (0, [.ref qx, .ref qy, .int ht, .int cx, .int cy, .int lf, .long sq, .int ln, .int of, .int sr, .int fx, .int fy])), (qx, .inl (cA, 401, .inl mx)), (qy, .inl (cA, 401, .inl my))] sz) [(h0, .inr (0, [.ref qx, .ref qy, .int ht, .int cx, .int cy, .int lf, .long sq, .int ln, .int of, .int sr, .int fx, .int fy])), (qx, .inl (cA, 401, .inl u.1)), (qy, .inl (cA, 401, .inl u.2))]) (va_A [(h0, .inr (0, [.ref qx, .ref qy, .int ht, .int cx, .int cy, .int lf, .long sq, .int ln, .int of, .int sr, .int fx, .int fy])), (qx, .inl (cA, 401, .inl mx)), (qy, .inl (cA, 401, .inl my))] sz)) 0 0 (va_A [(h0, .inr (0, [.ref qx, .ref qy, .int ht, .int cx, .int cy, .int lf, .long sq, .int ln, .int of, .int sr, .int fx, .int fy])), (qx, .inl (cA, 401, .inl mx)), (qy, .inl (cA, 401, .inl my))] sz) := by
  refine Met.ofW (cc := cX0_mark) (maxL := 3) (ret := none) (by decide +kernel) rfl ?_
  intro p e s m args below meth c s₁ B hml hv
  obtain ⟨rfl, hsz, hP, hK, hD0, hZ, hN⟩ := hv
  have hx := B.exec
  have hb := B.bytes
  have hr := B.returns
  have hts := atoms_spec (ws := wsX0_mark) B.pre
  have hown : s.vm.findClass RX0 = some m.cls := findClass_of_methodNamed B.named
  have hlocks := B.notSynchronized
  have hiX0 : ∀ w ∈ u_ws RX0 TX0 12, w ∈ wsX0_mark := by decide +kernel
  subst hsz
  have hD := hD0.self (sz := s.heap.size)
  generalize hAe : va_A [(h0, .inr (0, [.ref qx, .ref qy, .int ht, .int cx, .int cy, .int lf, .long sq, .int ln, .int of, .int sr, .int fx, .int fy])), (qx, .inl (cA, 401, .inl mx)), (qy, .inl (cA, 401, .inl my))] s.heap.size = A at hD hZ ⊢
  have hA : ∀ q : Nat, s.heap.size ≤ q → A q := fun q h => by rw [← hAe]; exact Or.inr h
  have hl := lv_entry ([.ref h0, .int (nI j)]) (n := 3) (Nat.le_of_ble_eq_true rfl)
  rw [lg_entry_eq]
  generalize (lg_sl ([.ref h0, .int (nI j)]) ++ List.replicate (3 - (lg_sl ([.ref h0, .int (nI j)])).length) Slot.unset).toArray = ls at hl ⊢
  have hl : lv_has ls 3 [(0, .ref h0), (1, .int (nI j))] := hl
  generalize hHe : s.heap = H at hP ⊢
  have hS : va_S A s.heap H [] := by rw [hHe]; exact va_S.rf
  generalize ([] : List Loc) = locs at hS ⊢
  refine lv_iload_n hx hb dX0_mark_0 rfl (lv_at hl 1 rfl) ?_
  refine lv_bipush (v := 100) hx hb dX0_mark_1 (by decide) ?_
  refine lv_idiv hx hb dX0_mark_3 (by decide) ?_
  refine ct_topi (y := nI (j / 100)) (pk_div (d := 100) (by omega) (by omega) (by omega)) ?_
  refine lv_istore_n (lv' := [(2, .int (nI (j / 100))), (0, .ref h0), (1, .int (nI j))]) hx hb dX0_mark_4 rfl hl (by decide) rfl (fun ls hl => ?_)
  refine lv_iload_n hx hb dX0_mark_5 rfl (lv_at hl 2 rfl) ?_
  refine lv_bipush (v := 100) hx hb dX0_mark_6 (by decide) ?_
  refine lv_irem hx hb dX0_mark_8 (by decide) ?_
  refine ct_topi (y := nI (j % 100)) (pk_rem (d := 100) (by omega) (by omega) (by omega)) ?_
  refine lv_if_ne (tgt := 43) hx hb dX0_mark_9 (by decide) (fun c_9 => ?_) (fun c_9 => ?_)
  · have hP9 := hP.sub (ws' := [(h0, .inr (0, [.ref qx, .ref qy, .int ht, .int cx, .int cy, .int lf, .long sq, .int ln, .int of, .int sr, .int fx, .int fy])), (qx, .inl (cA, 401, .inl mx)), (qy, .inl (cA, 401, .inl my))]) [0, 1, 2] rfl
    have hD9 := hD.sub (ws' := [(h0, .inr (0, [.ref qx, .ref qy, .int ht, .int cx, .int cy, .int lf, .long sq, .int ln, .int of, .int sr, .int fx, .int fy])), (qx, .inl (cA, 401, .inl mx)), (qy, .inl (cA, 401, .inl my))]) [0, 1, 2] (by decide) rfl
    exact W.vret hx hb hr (fun t9 ht9 hW9 => ⟨⟨(mx, my), rfl, (by have h9 : ¬ j % 100 = 0 := fun h => c_9 (by rw [h]; rfl); unfold mk_u; rw [if_neg h9, if_neg h9]; exact ⟨rfl, rfl⟩), by rw [ht9]; exact hP9, hD9⟩, hS.F ht9⟩) hS.2.2 dX0_mark_43
  · refine lv_iload_n hx hb dX0_mark_12 rfl (lv_at hl 0 rfl) ?_
    refine lv_if_lt (tgt := 43) hx hb dX0_mark_13 (by decide) (fun c_13 => ?_) (fun c_13 => ?_)
    · exact absurd c_13 (nI_pos (by omega))
    · refine lv_iload_n hx hb dX0_mark_16 rfl (lv_at hl 0 rfl) ?_
      refine lv_sipush (v := 401) hx hb dX0_mark_17 (by decide) ?_
      refine lv_icmp_ge (tgt := 43) hx hb dX0_mark_20 (by decide) (fun c_20 => ?_) (fun c_20 => ?_)
      · exact absurd c_20 (nI_ge (a := j / 100) (b := 401) (by omega) (by omega))
      · refine lv_aload_n hx hb dX0_mark_23 rfl (lv_at hl 1 rfl) ?_
        refine va_get (D := (dC, dI)) (ci := 0) (v := .ref qx) (C := RX0) (T := TX0) (N := 12) hx hb hts hiX0 hown hK hP 0 rfl rfl 0 (by decide) (hts (.fieldLink RX0 9 "TickWalks$Arc" "markX" "[I") (List.mem_of_getElem? (l := wsX0_mark) (i := 1) rfl)) (fun _ h9 => h9) rfl dX0_mark_24 ?_
        refine lv_iload_n hx hb dX0_mark_27 rfl (lv_at hl 0 rfl) ?_
        refine lv_aload_n hx hb dX0_mark_28 rfl (lv_at hl 1 rfl) ?_
        refine va_get (D := (dC, dI)) (ci := 0) (v := .int fx) (C := RX0) (T := TX0) (N := 12) hx hb hts hiX0 hown hK hP 0 rfl rfl 10 (by decide) (hts (.fieldLink RX0 45 "TickWalks$Arc" "footX" "I") (List.mem_of_getElem? (l := wsX0_mark) (i := 2) rfl)) (fun _ h9 => h9) rfl dX0_mark_29 ?_
        refine va_iast hx hb hK hP hD hS 1 0 rfl rfl (vp_in_nI (by omega) (by decide)) dX0_mark_32 (fun H locs hP hD hS => ?_)
        rw [(nI_clamp (show j / 100 < 2 ^ 31 by omega))] at hP hD
        have hP : va_P (dC, dI) vwCl [(h0, .inr (0, [.ref qx, .ref qy, .int ht, .int cx, .int cy, .int lf, .long sq, .int ln, .int of, .int sr, .int fx, .int fy])), (qx, .inl (cA, 401, .inl (upd mx (j / 100) fx))), (qy, .inl (cA, 401, .inl my))] H := hP
        have hD : va_D A [(h0, .inr (0, [.ref qx, .ref qy, .int ht, .int cx, .int cy, .int lf, .long sq, .int ln, .int of, .int sr, .int fx, .int fy])), (qx, .inl (cA, 401, .inl (upd mx (j / 100) fx))), (qy, .inl (cA, 401, .inl my))] := hD
        refine lv_aload_n hx hb dX0_mark_33 rfl (lv_at hl 1 rfl) ?_
        refine va_get (D := (dC, dI)) (ci := 0) (v := .ref qy) (C := RX0) (T := TX0) (N := 12) hx hb hts hiX0 hown hK hP 0 rfl rfl 1 (by decide) (hts (.fieldLink RX0 15 "TickWalks$Arc" "markY" "[I") (List.mem_of_getElem? (l := wsX0_mark) (i := 3) rfl)) (fun _ h9 => h9) rfl dX0_mark_34 ?_
        refine lv_iload_n hx hb dX0_mark_37 rfl (lv_at hl 0 rfl) ?_
        refine lv_aload_n hx hb dX0_mark_38 rfl (lv_at hl 1 rfl) ?_
        refine va_get (D := (dC, dI)) (ci := 0) (v := .int fy) (C := RX0) (T := TX0) (N := 12) hx hb hts hiX0 hown hK hP 0 rfl rfl 11 (by decide) (hts (.fieldLink RX0 48 "TickWalks$Arc" "footY" "I") (List.mem_of_getElem? (l := wsX0_mark) (i := 4) rfl)) (fun _ h9 => h9) rfl dX0_mark_39 ?_
        refine va_iast hx hb hK hP hD hS 2 0 rfl rfl (vp_in_nI (by omega) (by decide)) dX0_mark_42 (fun H locs hP hD hS => ?_)
        rw [(nI_clamp (show j / 100 < 2 ^ 31 by omega))] at hP hD
        have hP : va_P (dC, dI) vwCl [(h0, .inr (0, [.ref qx, .ref qy, .int ht, .int cx, .int cy, .int lf, .long sq, .int ln, .int of, .int sr, .int fx, .int fy])), (qx, .inl (cA, 401, .inl (upd mx (j / 100) fx))), (qy, .inl (cA, 401, .inl (upd my (j / 100) fy)))] H := hP
        have hD : va_D A [(h0, .inr (0, [.ref qx, .ref qy, .int ht, .int cx, .int cy, .int lf, .long sq, .int ln, .int of, .int sr, .int fx, .int fy])), (qx, .inl (cA, 401, .inl (upd mx (j / 100) fx))), (qy, .inl (cA, 401, .inl (upd my (j / 100) fy)))] := hD
        have hP9 := hP.sub (ws' := [(h0, .inr (0, [.ref qx, .ref qy, .int ht, .int cx, .int cy, .int lf, .long sq, .int ln, .int of, .int sr, .int fx, .int fy])), (qx, .inl (cA, 401, .inl (upd mx (j / 100) fx))), (qy, .inl (cA, 401, .inl (upd my (j / 100) fy)))]) [0, 1, 2] rfl
        have hD9 := hD.sub (ws' := [(h0, .inr (0, [.ref qx, .ref qy, .int ht, .int cx, .int cy, .int lf, .long sq, .int ln, .int of, .int sr, .int fx, .int fy])), (qx, .inl (cA, 401, .inl (upd mx (j / 100) fx))), (qy, .inl (cA, 401, .inl (upd my (j / 100) fy)))]) [0, 1, 2] (by decide) rfl
        exact W.vret hx hb hr (fun t9 ht9 hW9 => ⟨⟨(upd mx (j / 100) fx, upd my (j / 100) fy), rfl, (by have h9 : j % 100 = 0 := (nI_eq (b := 0) (by omega) (by omega)).mp c_9; unfold mk_u; rw [if_pos h9, if_pos h9]; exact ⟨rfl, rfl⟩), by rw [ht9]; exact hP9, hD9⟩, hS.F ht9⟩) hS.2.2 dX0_mark_43
set_option maxHeartbeats 4000000 in
set_option maxRecDepth 100000 in
/-- Arc.begin -/
theorem ar_begin (l : Launch) (dC : Nat → ClassId) (dI : Nat → Nat → Nat) (cA cB : ClassId) (sz : Nat) (h0 : Nat) (qx : Nat) (qy : Nat) (ht : Int32) (cx : Int32) (cy : Int32) (lf : Int32) (sq : Int64) (ln : Int32) (of : Int32) (sr : Int32) (fx : Int32) (fy : Int32) (mx : Nat → Int32) (my : Nat → Int32) (qs : Nat) (sv : Nat → Int32) (ax : Int32) (ay : Int32) (al : Int32) (hal : al = 0 ∨ al = 1) : Met l yX0_begin wsX0_begin ({ frames := 1, cells := 0, slots := 0, locals := 24 }) (va_Pc [.ref h0, .ref qs, .int ax, .int ay, .int al] (ct_P dC dI cA cB sz [(h0, .inr (0, [.ref qx, .ref qy, .int ht, .int cx, .int cy, .int lf, .long sq, .int ln, .int of, .int sr, .int fx, .int fy])), (qx, .inl (cA, 401, .inl mx)), (qy, .inl (cA, 401, .inl my)), (qs, .inl (cA, 3, .inl sv))])) (va_Qv (fun (u : (Nat → Int32) × (Nat → Int32) × Int64) => u.1 = upd mx 0 (sv 0) ∧ u.2.1 = upd my 0 (sv 1) ∧ u.2.2 = sq_c (sv 0) ax (sv 1) ay) (fun (u : (Nat → Int32) × (Nat → Int32) × Int64) => ct_B dC dI (va_A [(h0, .inr (0, [.ref qx, .ref qy, .int ht, .int cx, .int cy, .int lf, .long sq, .int ln, .int of, .int sr, .int fx, .int fy])), (qx, .inl (cA, 401, .inl mx)), (qy, .inl (cA, 401, .inl my)), (qs, .inl (cA, 3, .inl sv))] sz) [(h0, .inr (0, [.ref qx, .ref qy, .int (sv 2), .int ax, .int ay, .int al, .long u.2.2, .int 0, .int 0, .int 0, .int (sv 0), .int (sv 1)])), (qx, .inl (cA, 401, .inl u.1)), (qy, .inl (cA, 401, .inl u.2.1)), (qs, .inl (cA, 3, .inl sv))]) (va_A [(h0, .inr (0, [.ref qx, .ref qy, .int ht, .int cx, .int cy, .int lf, .long sq, .int ln, .int of, .int sr, .int fx, .int fy])), (qx, .inl (cA, 401, .inl mx)), (qy, .inl (cA, 401, .inl my)), (qs, .inl (cA, 3, .inl sv))] sz)) 0 0 (va_A [(h0, .inr (0, [.ref qx, .ref qy, .int ht, .int cx, .int cy, .int lf, .long sq, .int ln, .int of, .int sr, .int fx, .int fy])), (qx, .inl (cA, 401, .inl mx)), (qy, .inl (cA, 401, .inl my)), (qs, .inl (cA, 3, .inl sv))] sz) := by
  refine Met.ofW (cc := cX0_begin) (maxL := 5) (ret := none) (by decide +kernel) rfl ?_
  intro p e s m args below meth c s₁ B hml hv
  obtain ⟨rfl, hsz, hP, hK, hD0, hZ, hN⟩ := hv
  have hx := B.exec
  have hb := B.bytes
  have hr := B.returns
  have hts := atoms_spec (ws := wsX0_begin) B.pre
  have hown : s.vm.findClass RX0 = some m.cls := findClass_of_methodNamed B.named
  have hlocks := B.notSynchronized
  have hiX0 : ∀ w ∈ u_ws RX0 TX0 12, w ∈ wsX0_begin := by decide +kernel
  subst hsz
  have hD := hD0.self (sz := s.heap.size)
  generalize hAe : va_A [(h0, .inr (0, [.ref qx, .ref qy, .int ht, .int cx, .int cy, .int lf, .long sq, .int ln, .int of, .int sr, .int fx, .int fy])), (qx, .inl (cA, 401, .inl mx)), (qy, .inl (cA, 401, .inl my)), (qs, .inl (cA, 3, .inl sv))] s.heap.size = A at hD hZ ⊢
  have hA : ∀ q : Nat, s.heap.size ≤ q → A q := fun q h => by rw [← hAe]; exact Or.inr h
  have hl := lv_entry ([.ref h0, .ref qs, .int ax, .int ay, .int al]) (n := 5) (Nat.le_of_ble_eq_true rfl)
  rw [lg_entry_eq]
  generalize (lg_sl ([.ref h0, .ref qs, .int ax, .int ay, .int al]) ++ List.replicate (5 - (lg_sl ([.ref h0, .ref qs, .int ax, .int ay, .int al])).length) Slot.unset).toArray = ls at hl ⊢
  have hl : lv_has ls 5 [(0, .ref h0), (1, .ref qs), (2, .int ax), (3, .int ay), (4, .int al)] := hl
  generalize hHe : s.heap = H at hP ⊢
  have hS : va_S A s.heap H [] := by rw [hHe]; exact va_S.rf
  generalize ([] : List Loc) = locs at hS ⊢
  refine lv_aload_n hx hb dX0_begin_0 rfl (lv_at hl 0 rfl) ?_
  refine lv_aload_n hx hb dX0_begin_1 rfl (lv_at hl 1 rfl) ?_
  refine lv_iconst (v := 0) hx hb dX0_begin_2 (by decide) ?_
  refine va_iald hx hb hK hP 3 0 rfl rfl (show vp_in 0 3 by unfold vp_in; decide) dX0_begin_3 ?_
  refine ct_topi (y := sv 0) (congrArg sv (show Int32.toNatClampNeg 0 = 0 by decide)) ?_
  refine va_put (D := (dC, dI)) (ci := 0) (v := .int (sv 0)) (ty := .int) (C := RX0) (T := TX0) (N := 12) hx hb hts hiX0 tyX0 tyX0_ok nmX0 hown hK hP hD hS 0 rfl rfl 10 (by decide) (hts (.fieldLink RX0 45 "TickWalks$Arc" "footX" "I") (List.mem_of_getElem? (l := wsX0_begin) (i := 1) rfl)) (fun _ h9 => h9) rfl (by decide +kernel) rfl rfl (Nat.le_of_ble_eq_true rfl) dX0_begin_4 (fun H locs hP hD hS => ?_)
  have hP : va_P (dC, dI) vwCl [(h0, .inr (0, [.ref qx, .ref qy, .int ht, .int cx, .int cy, .int lf, .long sq, .int ln, .int of, .int sr, .int (sv 0), .int fy])), (qx, .inl (cA, 401, .inl mx)), (qy, .inl (cA, 401, .inl my)), (qs, .inl (cA, 3, .inl sv))] H := hP
  have hD : va_D A [(h0, .inr (0, [.ref qx, .ref qy, .int ht, .int cx, .int cy, .int lf, .long sq, .int ln, .int of, .int sr, .int (sv 0), .int fy])), (qx, .inl (cA, 401, .inl mx)), (qy, .inl (cA, 401, .inl my)), (qs, .inl (cA, 3, .inl sv))] := hD
  refine lv_aload_n hx hb dX0_begin_7 rfl (lv_at hl 0 rfl) ?_
  refine lv_aload_n hx hb dX0_begin_8 rfl (lv_at hl 1 rfl) ?_
  refine lv_iconst (v := 1) hx hb dX0_begin_9 (by decide) ?_
  refine va_iald hx hb hK hP 3 0 rfl rfl (show vp_in 1 3 by unfold vp_in; decide) dX0_begin_10 ?_
  refine ct_topi (y := sv 1) (congrArg sv (show Int32.toNatClampNeg 1 = 1 by decide)) ?_
  refine va_put (D := (dC, dI)) (ci := 0) (v := .int (sv 1)) (ty := .int) (C := RX0) (T := TX0) (N := 12) hx hb hts hiX0 tyX0 tyX0_ok nmX0 hown hK hP hD hS 0 rfl rfl 11 (by decide) (hts (.fieldLink RX0 48 "TickWalks$Arc" "footY" "I") (List.mem_of_getElem? (l := wsX0_begin) (i := 2) rfl)) (fun _ h9 => h9) rfl (by decide +kernel) rfl rfl (Nat.le_of_ble_eq_true rfl) dX0_begin_11 (fun H locs hP hD hS => ?_)
  have hP : va_P (dC, dI) vwCl [(h0, .inr (0, [.ref qx, .ref qy, .int ht, .int cx, .int cy, .int lf, .long sq, .int ln, .int of, .int sr, .int (sv 0), .int (sv 1)])), (qx, .inl (cA, 401, .inl mx)), (qy, .inl (cA, 401, .inl my)), (qs, .inl (cA, 3, .inl sv))] H := hP
  have hD : va_D A [(h0, .inr (0, [.ref qx, .ref qy, .int ht, .int cx, .int cy, .int lf, .long sq, .int ln, .int of, .int sr, .int (sv 0), .int (sv 1)])), (qx, .inl (cA, 401, .inl mx)), (qy, .inl (cA, 401, .inl my)), (qs, .inl (cA, 3, .inl sv))] := hD
  refine lv_aload_n hx hb dX0_begin_14 rfl (lv_at hl 0 rfl) ?_
  refine lv_aload_n hx hb dX0_begin_15 rfl (lv_at hl 1 rfl) ?_
  refine lv_iconst (v := 2) hx hb dX0_begin_16 (by decide) ?_
  refine va_iald hx hb hK hP 3 0 rfl rfl (show vp_in 2 3 by unfold vp_in; decide) dX0_begin_17 ?_
  refine ct_topi (y := sv 2) (congrArg sv (show Int32.toNatClampNeg 2 = 2 by decide)) ?_
  refine va_put (D := (dC, dI)) (ci := 0) (v := .int (sv 2)) (ty := .int) (C := RX0) (T := TX0) (N := 12) hx hb hts hiX0 tyX0 tyX0_ok nmX0 hown hK hP hD hS 0 rfl rfl 2 (by decide) (hts (.fieldLink RX0 18 "TickWalks$Arc" "height" "I") (List.mem_of_getElem? (l := wsX0_begin) (i := 3) rfl)) (fun _ h9 => h9) rfl (by decide +kernel) rfl rfl (Nat.le_of_ble_eq_true rfl) dX0_begin_18 (fun H locs hP hD hS => ?_)
  have hP : va_P (dC, dI) vwCl [(h0, .inr (0, [.ref qx, .ref qy, .int (sv 2), .int cx, .int cy, .int lf, .long sq, .int ln, .int of, .int sr, .int (sv 0), .int (sv 1)])), (qx, .inl (cA, 401, .inl mx)), (qy, .inl (cA, 401, .inl my)), (qs, .inl (cA, 3, .inl sv))] H := hP
  have hD : va_D A [(h0, .inr (0, [.ref qx, .ref qy, .int (sv 2), .int cx, .int cy, .int lf, .long sq, .int ln, .int of, .int sr, .int (sv 0), .int (sv 1)])), (qx, .inl (cA, 401, .inl mx)), (qy, .inl (cA, 401, .inl my)), (qs, .inl (cA, 3, .inl sv))] := hD
  refine lv_aload_n hx hb dX0_begin_21 rfl (lv_at hl 0 rfl) ?_
  refine lv_iload_n hx hb dX0_begin_22 rfl (lv_at hl 2 rfl) ?_
  refine va_put (D := (dC, dI)) (ci := 0) (v := .int ax) (ty := .int) (C := RX0) (T := TX0) (N := 12) hx hb hts hiX0 tyX0 tyX0_ok nmX0 hown hK hP hD hS 0 rfl rfl 3 (by decide) (hts (.fieldLink RX0 22 "TickWalks$Arc" "centreX" "I") (List.mem_of_getElem? (l := wsX0_begin) (i := 4) rfl)) (fun _ h9 => h9) rfl (by decide +kernel) rfl rfl (Nat.le_of_ble_eq_true rfl) dX0_begin_23 (fun H locs hP hD hS => ?_)
  have hP : va_P (dC, dI) vwCl [(h0, .inr (0, [.ref qx, .ref qy, .int (sv 2), .int ax, .int cy, .int lf, .long sq, .int ln, .int of, .int sr, .int (sv 0), .int (sv 1)])), (qx, .inl (cA, 401, .inl mx)), (qy, .inl (cA, 401, .inl my)), (qs, .inl (cA, 3, .inl sv))] H := hP
  have hD : va_D A [(h0, .inr (0, [.ref qx, .ref qy, .int (sv 2), .int ax, .int cy, .int lf, .long sq, .int ln, .int of, .int sr, .int (sv 0), .int (sv 1)])), (qx, .inl (cA, 401, .inl mx)), (qy, .inl (cA, 401, .inl my)), (qs, .inl (cA, 3, .inl sv))] := hD
  refine lv_aload_n hx hb dX0_begin_26 rfl (lv_at hl 0 rfl) ?_
  refine lv_iload_n hx hb dX0_begin_27 rfl (lv_at hl 3 rfl) ?_
  refine va_put (D := (dC, dI)) (ci := 0) (v := .int ay) (ty := .int) (C := RX0) (T := TX0) (N := 12) hx hb hts hiX0 tyX0 tyX0_ok nmX0 hown hK hP hD hS 0 rfl rfl 4 (by decide) (hts (.fieldLink RX0 25 "TickWalks$Arc" "centreY" "I") (List.mem_of_getElem? (l := wsX0_begin) (i := 5) rfl)) (fun _ h9 => h9) rfl (by decide +kernel) rfl rfl (Nat.le_of_ble_eq_true rfl) dX0_begin_28 (fun H locs hP hD hS => ?_)
  have hP : va_P (dC, dI) vwCl [(h0, .inr (0, [.ref qx, .ref qy, .int (sv 2), .int ax, .int ay, .int lf, .long sq, .int ln, .int of, .int sr, .int (sv 0), .int (sv 1)])), (qx, .inl (cA, 401, .inl mx)), (qy, .inl (cA, 401, .inl my)), (qs, .inl (cA, 3, .inl sv))] H := hP
  have hD : va_D A [(h0, .inr (0, [.ref qx, .ref qy, .int (sv 2), .int ax, .int ay, .int lf, .long sq, .int ln, .int of, .int sr, .int (sv 0), .int (sv 1)])), (qx, .inl (cA, 401, .inl mx)), (qy, .inl (cA, 401, .inl my)), (qs, .inl (cA, 3, .inl sv))] := hD
  refine lv_aload_n hx hb dX0_begin_31 rfl (lv_at hl 0 rfl) ?_
  refine lv_iload hx hb dX0_begin_32 (lv_at hl 4 rfl) ?_
  refine va_put (D := (dC, dI)) (ci := 0) (v := .int al) (ty := .boolean) (C := RX0) (T := TX0) (N := 12) hx hb hts hiX0 tyX0 tyX0_ok nmX0 hown hK hP hD hS 0 rfl rfl 5 (by decide) (hts (.fieldLink RX0 28 "TickWalks$Arc" "left" "Z") (List.mem_of_getElem? (l := wsX0_begin) (i := 6) rfl)) (fun _ h9 => h9) rfl (by decide +kernel) (by rcases hal with h | h <;> rw [h] <;> rfl) (by rcases hal with h | h <;> rw [h] <;> rfl) (Nat.le_of_ble_eq_true rfl) dX0_begin_34 (fun H locs hP hD hS => ?_)
  have hP : va_P (dC, dI) vwCl [(h0, .inr (0, [.ref qx, .ref qy, .int (sv 2), .int ax, .int ay, .int al, .long sq, .int ln, .int of, .int sr, .int (sv 0), .int (sv 1)])), (qx, .inl (cA, 401, .inl mx)), (qy, .inl (cA, 401, .inl my)), (qs, .inl (cA, 3, .inl sv))] H := hP
  have hD : va_D A [(h0, .inr (0, [.ref qx, .ref qy, .int (sv 2), .int ax, .int ay, .int al, .long sq, .int ln, .int of, .int sr, .int (sv 0), .int (sv 1)])), (qx, .inl (cA, 401, .inl mx)), (qy, .inl (cA, 401, .inl my)), (qs, .inl (cA, 3, .inl sv))] := hD
  refine lv_aload_n hx hb dX0_begin_37 rfl (lv_at hl 0 rfl) ?_
  refine lv_aload_n hx hb dX0_begin_38 rfl (lv_at hl 0 rfl) ?_
  refine ct_calll (va_runV (As := []) (rest := [.ref h0]) ⟨hx, hb, hml, hown, hts⟩ (ar_sq l dC dI cA cB H.size h0 qx qy (sv 2) ax ay al sq ln of sr (sv 0) (sv 1) ) (cwV 0 hts gX0_begin_X0_squareFromCentre rfl rfl rfl (by decide +kernel) ⟨Nat.le_of_ble_eq_true rfl, Nat.le_of_ble_eq_true rfl⟩) ⟨ct_blind, va_recv hK hP (ci := 0) (q0 := 0) rfl rfl, ct_pre hP hD hK hZ hN hS hA [0] rfl (by decide)⟩ rfl rfl hl.1 rfl (lv_room (Nat.le_of_ble_eq_true rfl)) dX0_begin_39 ⟨Nat.le_of_ble_eq_true rfl, Nat.le_of_ble_eq_true rfl⟩) hP hD hS hA [0] [1, 2, 3] rfl (wr := [(qx, .inl (cA, 401, .inl mx)), (qy, .inl (cA, 401, .inl my)), (qs, .inl (cA, 3, .inl sv))]) rfl (by decide) (by decide) (fun r_1 u9 H locs hw_1 hP hD hS => ?_)
  have hw_1 : r_1 = sq_c (sv 0) ax (sv 1) ay := hw_1
  have hP : va_P (dC, dI) vwCl [(qx, .inl (cA, 401, .inl mx)), (qy, .inl (cA, 401, .inl my)), (qs, .inl (cA, 3, .inl sv)), (h0, .inr (0, [.ref qx, .ref qy, .int (sv 2), .int ax, .int ay, .int al, .long sq, .int ln, .int of, .int sr, .int (sv 0), .int (sv 1)]))] H := hP
  have hD : va_D A [(qx, .inl (cA, 401, .inl mx)), (qy, .inl (cA, 401, .inl my)), (qs, .inl (cA, 3, .inl sv)), (h0, .inr (0, [.ref qx, .ref qy, .int (sv 2), .int ax, .int ay, .int al, .long sq, .int ln, .int of, .int sr, .int (sv 0), .int (sv 1)]))] := hD
  refine va_put (D := (dC, dI)) (ci := 0) (v := .long r_1) (ty := .long) (C := RX0) (T := TX0) (N := 12) hx hb hts hiX0 tyX0 tyX0_ok nmX0 hown hK hP hD hS 3 rfl rfl 6 (by decide) (hts (.fieldLink RX0 32 "TickWalks$Arc" "square" "J") (List.mem_of_getElem? (l := wsX0_begin) (i := 7) rfl)) (fun _ h9 => h9) rfl (by decide +kernel) rfl rfl (Nat.le_of_ble_eq_true rfl) dX0_begin_42 (fun H locs hP hD hS => ?_)
  have hP : va_P (dC, dI) vwCl [(qx, .inl (cA, 401, .inl mx)), (qy, .inl (cA, 401, .inl my)), (qs, .inl (cA, 3, .inl sv)), (h0, .inr (0, [.ref qx, .ref qy, .int (sv 2), .int ax, .int ay, .int al, .long r_1, .int ln, .int of, .int sr, .int (sv 0), .int (sv 1)]))] H := hP
  have hD : va_D A [(qx, .inl (cA, 401, .inl mx)), (qy, .inl (cA, 401, .inl my)), (qs, .inl (cA, 3, .inl sv)), (h0, .inr (0, [.ref qx, .ref qy, .int (sv 2), .int ax, .int ay, .int al, .long r_1, .int ln, .int of, .int sr, .int (sv 0), .int (sv 1)]))] := hD
  refine lv_aload_n hx hb dX0_begin_45 rfl (lv_at hl 0 rfl) ?_
  refine lv_iconst (v := 0) hx hb dX0_begin_46 (by decide) ?_
  refine va_put (D := (dC, dI)) (ci := 0) (v := .int 0) (ty := .int) (C := RX0) (T := TX0) (N := 12) hx hb hts hiX0 tyX0 tyX0_ok nmX0 hown hK hP hD hS 3 rfl rfl 7 (by decide) (hts (.fieldLink RX0 36 "TickWalks$Arc" "length" "I") (List.mem_of_getElem? (l := wsX0_begin) (i := 8) rfl)) (fun _ h9 => h9) rfl (by decide +kernel) rfl rfl (Nat.le_of_ble_eq_true rfl) dX0_begin_47 (fun H locs hP hD hS => ?_)
  have hP : va_P (dC, dI) vwCl [(qx, .inl (cA, 401, .inl mx)), (qy, .inl (cA, 401, .inl my)), (qs, .inl (cA, 3, .inl sv)), (h0, .inr (0, [.ref qx, .ref qy, .int (sv 2), .int ax, .int ay, .int al, .long r_1, .int 0, .int of, .int sr, .int (sv 0), .int (sv 1)]))] H := hP
  have hD : va_D A [(qx, .inl (cA, 401, .inl mx)), (qy, .inl (cA, 401, .inl my)), (qs, .inl (cA, 3, .inl sv)), (h0, .inr (0, [.ref qx, .ref qy, .int (sv 2), .int ax, .int ay, .int al, .long r_1, .int 0, .int of, .int sr, .int (sv 0), .int (sv 1)]))] := hD
  refine lv_aload_n hx hb dX0_begin_50 rfl (lv_at hl 0 rfl) ?_
  refine lv_iconst (v := 0) hx hb dX0_begin_51 (by decide) ?_
  refine va_put (D := (dC, dI)) (ci := 0) (v := .int 0) (ty := .int) (C := RX0) (T := TX0) (N := 12) hx hb hts hiX0 tyX0 tyX0_ok nmX0 hown hK hP hD hS 3 rfl rfl 8 (by decide) (hts (.fieldLink RX0 39 "TickWalks$Arc" "off" "I") (List.mem_of_getElem? (l := wsX0_begin) (i := 9) rfl)) (fun _ h9 => h9) rfl (by decide +kernel) rfl rfl (Nat.le_of_ble_eq_true rfl) dX0_begin_52 (fun H locs hP hD hS => ?_)
  have hP : va_P (dC, dI) vwCl [(qx, .inl (cA, 401, .inl mx)), (qy, .inl (cA, 401, .inl my)), (qs, .inl (cA, 3, .inl sv)), (h0, .inr (0, [.ref qx, .ref qy, .int (sv 2), .int ax, .int ay, .int al, .long r_1, .int 0, .int 0, .int sr, .int (sv 0), .int (sv 1)]))] H := hP
  have hD : va_D A [(qx, .inl (cA, 401, .inl mx)), (qy, .inl (cA, 401, .inl my)), (qs, .inl (cA, 3, .inl sv)), (h0, .inr (0, [.ref qx, .ref qy, .int (sv 2), .int ax, .int ay, .int al, .long r_1, .int 0, .int 0, .int sr, .int (sv 0), .int (sv 1)]))] := hD
  refine lv_aload_n hx hb dX0_begin_55 rfl (lv_at hl 0 rfl) ?_
  refine lv_iconst (v := 0) hx hb dX0_begin_56 (by decide) ?_
  refine va_put (D := (dC, dI)) (ci := 0) (v := .int 0) (ty := .int) (C := RX0) (T := TX0) (N := 12) hx hb hts hiX0 tyX0 tyX0_ok nmX0 hown hK hP hD hS 3 rfl rfl 9 (by decide) (hts (.fieldLink RX0 42 "TickWalks$Arc" "strays" "I") (List.mem_of_getElem? (l := wsX0_begin) (i := 10) rfl)) (fun _ h9 => h9) rfl (by decide +kernel) rfl rfl (Nat.le_of_ble_eq_true rfl) dX0_begin_57 (fun H locs hP hD hS => ?_)
  have hP : va_P (dC, dI) vwCl [(qx, .inl (cA, 401, .inl mx)), (qy, .inl (cA, 401, .inl my)), (qs, .inl (cA, 3, .inl sv)), (h0, .inr (0, [.ref qx, .ref qy, .int (sv 2), .int ax, .int ay, .int al, .long r_1, .int 0, .int 0, .int 0, .int (sv 0), .int (sv 1)]))] H := hP
  have hD : va_D A [(qx, .inl (cA, 401, .inl mx)), (qy, .inl (cA, 401, .inl my)), (qs, .inl (cA, 3, .inl sv)), (h0, .inr (0, [.ref qx, .ref qy, .int (sv 2), .int ax, .int ay, .int al, .long r_1, .int 0, .int 0, .int 0, .int (sv 0), .int (sv 1)]))] := hD
  refine lv_aload_n hx hb dX0_begin_60 rfl (lv_at hl 0 rfl) ?_
  refine lv_iconst (v := 0) hx hb dX0_begin_61 (by decide) ?_
  refine ct_topi (y := nI 0) rfl ?_
  refine ct_callv (va_runV (As := [.int (nI 0)]) (rest := []) ⟨hx, hb, hml, hown, hts⟩ (ar_mark l dC dI cA cB H.size h0 qx qy (sv 2) ax ay al r_1 0 0 0 (sv 0) (sv 1) mx my 0 (by omega)) (cwV 1 hts gX0_begin_X0_mark rfl rfl rfl (by decide +kernel) ⟨Nat.le_of_ble_eq_true rfl, Nat.le_of_ble_eq_true rfl⟩) ⟨ct_blind, va_recv hK hP (ci := 0) (q0 := 3) rfl rfl, ct_pre hP hD hK hZ hN hS hA [3, 0, 1] rfl (by decide)⟩ rfl rfl hl.1 rfl (lv_room (Nat.le_of_ble_eq_true rfl)) dX0_begin_62 ⟨Nat.le_of_ble_eq_true rfl, Nat.le_of_ble_eq_true rfl⟩) hP hD hS hA [3, 0, 1] [2] rfl (wr := [(qs, .inl (cA, 3, .inl sv))]) rfl (by decide) (by decide) (fun u9 H locs hw_2 hP hD hS => ?_)
  obtain ⟨nx_2, ny_2⟩ := u9
  have hw_2 : nx_2 = mk_u mx 0 (sv 0) ∧ ny_2 = mk_u my 0 (sv 1) := hw_2
  have hP : va_P (dC, dI) vwCl [(qs, .inl (cA, 3, .inl sv)), (h0, .inr (0, [.ref qx, .ref qy, .int (sv 2), .int ax, .int ay, .int al, .long r_1, .int 0, .int 0, .int 0, .int (sv 0), .int (sv 1)])), (qx, .inl (cA, 401, .inl nx_2)), (qy, .inl (cA, 401, .inl ny_2))] H := hP
  have hD : va_D A [(qs, .inl (cA, 3, .inl sv)), (h0, .inr (0, [.ref qx, .ref qy, .int (sv 2), .int ax, .int ay, .int al, .long r_1, .int 0, .int 0, .int 0, .int (sv 0), .int (sv 1)])), (qx, .inl (cA, 401, .inl nx_2)), (qy, .inl (cA, 401, .inl ny_2))] := hD
  have hP9 := hP.sub (ws' := [(h0, .inr (0, [.ref qx, .ref qy, .int (sv 2), .int ax, .int ay, .int al, .long r_1, .int 0, .int 0, .int 0, .int (sv 0), .int (sv 1)])), (qx, .inl (cA, 401, .inl nx_2)), (qy, .inl (cA, 401, .inl ny_2)), (qs, .inl (cA, 3, .inl sv))]) [1, 2, 3, 0] rfl
  have hD9 := hD.sub (ws' := [(h0, .inr (0, [.ref qx, .ref qy, .int (sv 2), .int ax, .int ay, .int al, .long r_1, .int 0, .int 0, .int 0, .int (sv 0), .int (sv 1)])), (qx, .inl (cA, 401, .inl nx_2)), (qy, .inl (cA, 401, .inl ny_2)), (qs, .inl (cA, 3, .inl sv))]) [1, 2, 3, 0] (by decide) rfl
  exact W.vret hx hb hr (fun t9 ht9 hW9 => ⟨⟨(nx_2, ny_2, r_1), rfl, ⟨hw_2.1, hw_2.2, hw_1⟩, by rw [ht9]; exact hP9, hD9⟩, hS.F ht9⟩) hS.2.2 dX0_begin_65
set_option maxHeartbeats 4000000 in
set_option maxRecDepth 100000 in
/-- Arc.step -/
theorem ar_step (l : Launch) (dC : Nat → ClassId) (dI : Nat → Nat → Nat) (cA cB : ClassId) (sz : Nat) (h0 : Nat) (qx : Nat) (qy : Nat) (ht : Int32) (cx : Int32) (cy : Int32) (lf : Int32) (sq : Int64) (ln : Int32) (of : Int32) (sr : Int32) (fx : Int32) (fy : Int32) : Met l yX0_step wsX0_step ({ frames := 1, cells := 0, slots := 0, locals := 16 }) (va_Pc [.ref h0] (ct_P dC dI cA cB sz [(h0, .inr (0, [.ref qx, .ref qy, .int ht, .int cx, .int cy, .int lf, .long sq, .int ln, .int of, .int sr, .int fx, .int fy]))])) (va_Qi (fun (r : Int32) (u : Int32 × Int32) => sp_P lf sq fx cx fy cy r u.1 u.2) (fun (u : Int32 × Int32) => ct_B dC dI (va_A [(h0, .inr (0, [.ref qx, .ref qy, .int ht, .int cx, .int cy, .int lf, .long sq, .int ln, .int of, .int sr, .int fx, .int fy]))] sz) [(h0, .inr (0, [.ref qx, .ref qy, .int ht, .int cx, .int cy, .int lf, .long sq, .int ln, .int of, .int sr, .int u.1, .int u.2]))]) (va_A [(h0, .inr (0, [.ref qx, .ref qy, .int ht, .int cx, .int cy, .int lf, .long sq, .int ln, .int of, .int sr, .int fx, .int fy]))] sz)) 0 0 (va_A [(h0, .inr (0, [.ref qx, .ref qy, .int ht, .int cx, .int cy, .int lf, .long sq, .int ln, .int of, .int sr, .int fx, .int fy]))] sz) := by
  refine Met.ofW (cc := cX0_step) (maxL := 17) (ret := (some .boolean)) (by decide +kernel) rfl ?_
  intro p e s m args below meth c s₁ B hml hv
  obtain ⟨rfl, hsz, hP, hK, hD0, hZ, hN⟩ := hv
  have hx := B.exec
  have hb := B.bytes
  have hr := B.returns
  have hts := atoms_spec (ws := wsX0_step) B.pre
  have hown : s.vm.findClass RX0 = some m.cls := findClass_of_methodNamed B.named
  have hlocks := B.notSynchronized
  have hiX0 : ∀ w ∈ u_ws RX0 TX0 12, w ∈ wsX0_step := by decide +kernel
  subst hsz
  have hD := hD0.self (sz := s.heap.size)
  generalize hAe : va_A [(h0, .inr (0, [.ref qx, .ref qy, .int ht, .int cx, .int cy, .int lf, .long sq, .int ln, .int of, .int sr, .int fx, .int fy]))] s.heap.size = A at hD hZ ⊢
  have hA : ∀ q : Nat, s.heap.size ≤ q → A q := fun q h => by rw [← hAe]; exact Or.inr h
  have hl := lv_entry ([.ref h0]) (n := 17) (Nat.le_of_ble_eq_true rfl)
  rw [lg_entry_eq]
  generalize (lg_sl ([.ref h0]) ++ List.replicate (17 - (lg_sl ([.ref h0])).length) Slot.unset).toArray = ls at hl ⊢
  have hl : lv_has ls 17 [(0, .ref h0)] := hl
  generalize hHe : s.heap = H at hP ⊢
  have hS : va_S A s.heap H [] := by rw [hHe]; exact va_S.rf
  generalize ([] : List Loc) = locs at hS ⊢
  obtain ⟨tx, ty, hZx, hTx, hZy, hTy⟩ := id hZ
  refine lv_aload_n hx hb dX0_step_0 rfl (lv_at hl 0 rfl) ?_
  refine va_get (D := (dC, dI)) (ci := 0) (v := .int fx) (C := RX0) (T := TX0) (N := 12) hx hb hts hiX0 hown hK hP 0 rfl rfl 10 (by decide) (hts (.fieldLink RX0 45 "TickWalks$Arc" "footX" "I") (List.mem_of_getElem? (l := wsX0_step) (i := 1) rfl)) (fun _ h9 => h9) rfl dX0_step_1 ?_
  refine lv_aload_n hx hb dX0_step_4 rfl (lv_at hl 0 rfl) ?_
  refine va_get (D := (dC, dI)) (ci := 0) (v := .int cx) (C := RX0) (T := TX0) (N := 12) hx hb hts hiX0 hown hK hP 0 rfl rfl 3 (by decide) (hts (.fieldLink RX0 22 "TickWalks$Arc" "centreX" "I") (List.mem_of_getElem? (l := wsX0_step) (i := 2) rfl)) (fun _ h9 => h9) rfl dX0_step_5 ?_
  refine lv_isub hx hb dX0_step_8 ?_
  refine lv_i2l hx hb dX0_step_9 rfl ?_
  refine lv_topl (fun dx edx => ?_)
  refine lv_lstore_n (lv' := [(1, .long dx), (0, .ref h0)]) hx hb dX0_step_10 rfl hl (by decide) rfl (fun ls hl => ?_)
  refine lv_aload_n hx hb dX0_step_11 rfl (lv_at hl 1 rfl) ?_
  refine va_get (D := (dC, dI)) (ci := 0) (v := .int fy) (C := RX0) (T := TX0) (N := 12) hx hb hts hiX0 hown hK hP 0 rfl rfl 11 (by decide) (hts (.fieldLink RX0 48 "TickWalks$Arc" "footY" "I") (List.mem_of_getElem? (l := wsX0_step) (i := 3) rfl)) (fun _ h9 => h9) rfl dX0_step_12 ?_
  refine lv_aload_n hx hb dX0_step_15 rfl (lv_at hl 1 rfl) ?_
  refine va_get (D := (dC, dI)) (ci := 0) (v := .int cy) (C := RX0) (T := TX0) (N := 12) hx hb hts hiX0 hown hK hP 0 rfl rfl 4 (by decide) (hts (.fieldLink RX0 25 "TickWalks$Arc" "centreY" "I") (List.mem_of_getElem? (l := wsX0_step) (i := 4) rfl)) (fun _ h9 => h9) rfl dX0_step_16 ?_
  refine lv_isub hx hb dX0_step_19 ?_
  refine lv_i2l hx hb dX0_step_20 rfl ?_
  refine lv_topl (fun dy edy => ?_)
  refine lv_lstore_n (lv' := [(3, .long dy), (1, .long dx), (0, .ref h0)]) hx hb dX0_step_21 rfl hl (by decide) rfl (fun ls hl => ?_)
  refine lv_iconst (v := -1) hx hb dX0_step_22 (by decide) ?_
  refine lv_istore (lv' := [(5, .int (-1)), (3, .long dy), (1, .long dx), (0, .ref h0)]) hx hb dX0_step_23 hl (by decide) rfl (fun ls hl => ?_)
  refine lv_lconst (v := 0) hx hb dX0_step_25 (by decide) ?_
  refine lv_lstore (lv' := [(6, .long 0), (5, .int (-1)), (3, .long dy), (1, .long dx), (0, .ref h0)]) hx hb dX0_step_26 hl (by decide) rfl (fun ls hl => ?_)
  refine lv_iconst (v := 0) hx hb dX0_step_28 (by decide) ?_
  refine lv_istore (lv' := [(8, .int 0), (6, .long 0), (5, .int (-1)), (3, .long dy), (1, .long dx), (0, .ref h0)]) hx hb dX0_step_29 hl (by decide) rfl (fun ls hl => ?_)
  refine ct_loop (σ := Nat × Int32 × Int64) (fun n9 w9 H locs ls => n9 = 8 - w9.1 ∧ (w9.1 ≤ 8) ∧ ((w9.2.1, w9.2.2) = st_F lf dx dy sq w9.1) ∧ va_P (dC, dI) vwCl [(h0, .inr (0, [.ref qx, .ref qy, .int ht, .int cx, .int cy, .int lf, .long sq, .int ln, .int of, .int sr, .int fx, .int fy]))] H ∧ va_D A [(h0, .inr (0, [.ref qx, .ref qy, .int ht, .int cx, .int cy, .int lf, .long sq, .int ln, .int of, .int sr, .int fx, .int fy]))] ∧ va_S A s.heap H locs ∧ lv_has ls 17 [(8, .int (nI w9.1)), (5, .int w9.2.1), (6, .long w9.2.2), (1, .long dx), (3, .long dy), (0, .ref h0)]) (fun n9 w9 H locs ls hJ ih_31 => ?_) (8 - 0) (0, -1, 0) _ _ _ ⟨rfl, (Nat.zero_le 8), rfl, (hP.sub [0] rfl), (hD.sub [0] (by decide) rfl), hS, (lv_sub hl [0, 2, 1, 4, 3, 5] rfl)⟩
  obtain ⟨i, ne, le⟩ := w9
  obtain ⟨hn_31, hi, hI, hP, hD, hS, hl⟩ := hJ
  have hn_31 : n9 = 8 - i := hn_31
  have hi : i ≤ 8 := hi
  have hI : (ne, le) = st_F lf dx dy sq i := hI
  have hP : va_P (dC, dI) vwCl [(h0, .inr (0, [.ref qx, .ref qy, .int ht, .int cx, .int cy, .int lf, .long sq, .int ln, .int of, .int sr, .int fx, .int fy]))] H := hP
  have hD : va_D A [(h0, .inr (0, [.ref qx, .ref qy, .int ht, .int cx, .int cy, .int lf, .long sq, .int ln, .int of, .int sr, .int fx, .int fy]))] := hD
  have hl : lv_has ls 17 [(8, .int (nI i)), (5, .int ne), (6, .long le), (1, .long dx), (3, .long dy), (0, .ref h0)] := hl
  refine lv_iload hx hb dX0_step_31 (lv_at hl 0 rfl) ?_
  refine lv_bipush (v := 8) hx hb dX0_step_33 (by decide) ?_
  refine lv_icmp_ge (tgt := 143) hx hb dX0_step_35 (by decide) (fun c_35 => ?_) (fun c_35 => ?_)
  · have h8 : i = 8 := i8_le hi c_35
    subst h8
    refine lv_iload hx hb dX0_step_143 (lv_at hl 1 rfl) ?_
    refine lv_if_ge (tgt := 150) hx hb dX0_step_145 (by decide) (fun c_145 => ?_) (fun c_145 => ?_)
    · have hne := st_F_ix lf dx dy sq 8 (by decide)
      rw [← hI] at hne
      obtain ⟨j, hj, hnj⟩ : ∃ j, j < 8 ∧ ne = nI j := by
        rcases hne with h | h
        · exact absurd (show (0 : Int32) ≤ -1 by rw [← h]; exact c_145) (by decide)
        · exact h
      subst hnj
      refine lv_aload_n hx hb dX0_step_150 rfl (lv_at hl 5 rfl) ?_
      refine lv_dup hx hb dX0_step_151 rfl ?_
      refine va_get (D := (dC, dI)) (ci := 0) (v := .int fx) (C := RX0) (T := TX0) (N := 12) hx hb hts hiX0 hown hK hP 0 rfl rfl 10 (by decide) (hts (.fieldLink RX0 45 "TickWalks$Arc" "footX" "I") (List.mem_of_getElem? (l := wsX0_step) (i := 1) rfl)) (fun _ h9 => h9) rfl dX0_step_152 ?_
      refine va_getsN hx hb hZx hS hown (va_Nw.use rfl hN.2.2.2.2.2.1) (fun _ h9 => h9) dX0_step_155 ?_
      refine lv_iload hx hb dX0_step_158 (lv_at hl 1 rfl) ?_
      refine va_ti (v := .int (st_X j)) hx hb hTx hS (vp_in_nI hj (by decide)) (congrArg (fun j => Value.int (st_X j)) (nI_clamp (show j < 2 ^ 31 by omega))) dX0_step_160 ?_
      refine lv_iadd hx hb dX0_step_161 ?_
      refine va_put (D := (dC, dI)) (ci := 0) (v := .int (fx + (st_X j))) (ty := .int) (C := RX0) (T := TX0) (N := 12) hx hb hts hiX0 tyX0 tyX0_ok nmX0 hown hK hP hD hS 0 rfl rfl 10 (by decide) (hts (.fieldLink RX0 45 "TickWalks$Arc" "footX" "I") (List.mem_of_getElem? (l := wsX0_step) (i := 1) rfl)) (fun _ h9 => h9) rfl (by decide +kernel) rfl rfl (Nat.le_of_ble_eq_true rfl) dX0_step_162 (fun H locs hP hD hS => ?_)
      have hP : va_P (dC, dI) vwCl [(h0, .inr (0, [.ref qx, .ref qy, .int ht, .int cx, .int cy, .int lf, .long sq, .int ln, .int of, .int sr, .int (fx + (st_X j)), .int fy]))] H := hP
      have hD : va_D A [(h0, .inr (0, [.ref qx, .ref qy, .int ht, .int cx, .int cy, .int lf, .long sq, .int ln, .int of, .int sr, .int (fx + (st_X j)), .int fy]))] := hD
      refine lv_aload_n hx hb dX0_step_165 rfl (lv_at hl 5 rfl) ?_
      refine lv_dup hx hb dX0_step_166 rfl ?_
      refine va_get (D := (dC, dI)) (ci := 0) (v := .int fy) (C := RX0) (T := TX0) (N := 12) hx hb hts hiX0 hown hK hP 0 rfl rfl 11 (by decide) (hts (.fieldLink RX0 48 "TickWalks$Arc" "footY" "I") (List.mem_of_getElem? (l := wsX0_step) (i := 3) rfl)) (fun _ h9 => h9) rfl dX0_step_167 ?_
      refine va_getsN hx hb hZy hS hown (va_Nw.use rfl hN.2.2.2.2.2.2.1) (fun _ h9 => h9) dX0_step_170 ?_
      refine lv_iload hx hb dX0_step_173 (lv_at hl 1 rfl) ?_
      refine va_ti (v := .int (st_Y j)) hx hb hTy hS (vp_in_nI hj (by decide)) (congrArg (fun j => Value.int (st_Y j)) (nI_clamp (show j < 2 ^ 31 by omega))) dX0_step_175 ?_
      refine lv_iadd hx hb dX0_step_176 ?_
      refine va_put (D := (dC, dI)) (ci := 0) (v := .int (fy + (st_Y j))) (ty := .int) (C := RX0) (T := TX0) (N := 12) hx hb hts hiX0 tyX0 tyX0_ok nmX0 hown hK hP hD hS 0 rfl rfl 11 (by decide) (hts (.fieldLink RX0 48 "TickWalks$Arc" "footY" "I") (List.mem_of_getElem? (l := wsX0_step) (i := 3) rfl)) (fun _ h9 => h9) rfl (by decide +kernel) rfl rfl (Nat.le_of_ble_eq_true rfl) dX0_step_177 (fun H locs hP hD hS => ?_)
      have hP : va_P (dC, dI) vwCl [(h0, .inr (0, [.ref qx, .ref qy, .int ht, .int cx, .int cy, .int lf, .long sq, .int ln, .int of, .int sr, .int (fx + (st_X j)), .int (fy + (st_Y j))]))] H := hP
      have hD : va_D A [(h0, .inr (0, [.ref qx, .ref qy, .int ht, .int cx, .int cy, .int lf, .long sq, .int ln, .int of, .int sr, .int (fx + (st_X j)), .int (fy + (st_Y j))]))] := hD
      refine lv_iconst (v := 1) hx hb dX0_step_180 (by decide) ?_
      have hP9 := hP.sub (ws' := [(h0, .inr (0, [.ref qx, .ref qy, .int ht, .int cx, .int cy, .int lf, .long sq, .int ln, .int of, .int sr, .int (fx + (st_X j)), .int (fy + (st_Y j))]))]) [0] rfl
      have hD9 := hD.sub (ws' := [(h0, .inr (0, [.ref qx, .ref qy, .int ht, .int cx, .int cy, .int lf, .long sq, .int ln, .int of, .int sr, .int (fx + (st_X j)), .int (fy + (st_Y j))]))]) [0] (by decide) rfl
      exact W.zret (v := 1) hx hb hr rfl (fun t9 ht9 hW9 => ⟨⟨1, (fx + (st_X j), fy + (st_Y j)), rfl, Or.inr ⟨j, hj, by rw [← edx, ← edy, ← hI], rfl, rfl, rfl⟩, by rw [ht9]; exact hP9, hD9⟩, hS.F ht9⟩) hS.2.2 dX0_step_181
    · refine lv_iconst (v := 0) hx hb dX0_step_148 (by decide) ?_
      have hP9 := hP.sub (ws' := [(h0, .inr (0, [.ref qx, .ref qy, .int ht, .int cx, .int cy, .int lf, .long sq, .int ln, .int of, .int sr, .int fx, .int fy]))]) [0] rfl
      have hD9 := hD.sub (ws' := [(h0, .inr (0, [.ref qx, .ref qy, .int ht, .int cx, .int cy, .int lf, .long sq, .int ln, .int of, .int sr, .int fx, .int fy]))]) [0] (by decide) rfl
      exact W.zret (v := 0) hx hb hr rfl (fun t9 ht9 hW9 => ⟨⟨0, (fx, fy), rfl, Or.inl ⟨rfl, by rw [← edx, ← edy, ← hI]; exact Int32.not_le.mp c_145, rfl, rfl⟩, by rw [ht9]; exact hP9, hD9⟩, hS.F ht9⟩) hS.2.2 dX0_step_149
  · have hlt : i < 8 := i8_lt hi c_35
    refine lv_lload_n hx hb dX0_step_38 rfl (lv_at hl 3 rfl) ?_
    refine va_getsN hx hb hZx hS hown (va_Nw.use rfl hN.2.2.2.2.2.1) (fun _ h9 => h9) dX0_step_39 ?_
    refine lv_iload hx hb dX0_step_42 (lv_at hl 0 rfl) ?_
    refine va_ti (v := .int (st_X i)) hx hb hTx hS (vp_in_nI hlt (by decide)) (congrArg (fun j => Value.int (st_X j)) (nI_clamp (show i < 2 ^ 31 by omega))) dX0_step_44 ?_
    refine lv_i2l hx hb dX0_step_45 rfl ?_
    refine lv_ladd hx hb dX0_step_46 ?_
    refine lv_topl (fun px epx => ?_)
    refine lv_lstore (lv' := [(9, .long px), (8, .int (nI i)), (5, .int ne), (6, .long le), (1, .long dx), (3, .long dy), (0, .ref h0)]) hx hb dX0_step_47 hl (by decide) rfl (fun ls hl => ?_)
    refine lv_lload_n hx hb dX0_step_49 rfl (lv_at hl 5 rfl) ?_
    refine va_getsN hx hb hZy hS hown (va_Nw.use rfl hN.2.2.2.2.2.2.1) (fun _ h9 => h9) dX0_step_50 ?_
    refine lv_iload hx hb dX0_step_53 (lv_at hl 1 rfl) ?_
    refine va_ti (v := .int (st_Y i)) hx hb hTy hS (vp_in_nI hlt (by decide)) (congrArg (fun j => Value.int (st_Y j)) (nI_clamp (show i < 2 ^ 31 by omega))) dX0_step_55 ?_
    refine lv_i2l hx hb dX0_step_56 rfl ?_
    refine lv_ladd hx hb dX0_step_57 ?_
    refine lv_topl (fun py epy => ?_)
    refine lv_lstore (lv' := [(11, .long py), (9, .long px), (8, .int (nI i)), (5, .int ne), (6, .long le), (1, .long dx), (3, .long dy), (0, .ref h0)]) hx hb dX0_step_58 hl (by decide) rfl (fun ls hl => ?_)
    refine lv_lload_n hx hb dX0_step_60 rfl (lv_at hl 5 rfl) ?_
    refine lv_lload hx hb dX0_step_61 (lv_at hl 0 rfl) ?_
    refine lv_lmul hx hb dX0_step_63 ?_
    refine lv_lload_n hx hb dX0_step_64 rfl (lv_at hl 6 rfl) ?_
    refine lv_lload hx hb dX0_step_65 (lv_at hl 1 rfl) ?_
    refine lv_lmul hx hb dX0_step_67 ?_
    refine lv_lsub hx hb dX0_step_68 ?_
    refine lv_topl (fun tn etn => ?_)
    refine lv_lstore (lv' := [(13, .long tn), (11, .long py), (9, .long px), (8, .int (nI i)), (5, .int ne), (6, .long le), (1, .long dx), (3, .long dy), (0, .ref h0)]) hx hb dX0_step_69 hl (by decide) rfl (fun ls hl => ?_)
    have htn : tn = st_t dx dy i := by rw [etn, epx, epy]; rfl
    refine lv_aload_n hx hb dX0_step_71 rfl (lv_at hl 8 rfl) ?_
    refine va_get (D := (dC, dI)) (ci := 0) (v := .int lf) (C := RX0) (T := TX0) (N := 12) hx hb hts hiX0 hown hK hP 0 rfl rfl 5 (by decide) (hts (.fieldLink RX0 28 "TickWalks$Arc" "left" "Z") (List.mem_of_getElem? (l := wsX0_step) (i := 5) rfl)) (fun _ h9 => h9) rfl dX0_step_72 ?_
    refine lv_if_eq (tgt := 88) hx hb dX0_step_75 (by decide) (fun c_75 => ?_) (fun c_75 => ?_)
    · refine lv_lload hx hb dX0_step_88 (lv_at hl 0 rfl) ?_
      refine lv_lconst (v := 0) hx hb dX0_step_90 (by decide) ?_
      refine W.lcmp hx hb dX0_step_91 ?_
      refine lv_if_ge (tgt := 137) hx hb dX0_step_92 (by decide) (fun c_92 => ?_) (fun c_92 => ?_)
      · refine lv_iinc (v := nI (i + 1)) (lv' := [(8, .int (nI (i + 1))), (13, .long tn), (11, .long py), (9, .long px), (5, .int ne), (6, .long le), (1, .long dx), (3, .long dy), (0, .ref h0)]) hx hb dX0_step_137 hl (k := 3) rfl (nI_1 i) (by decide) rfl (fun ls hl => ?_)
        refine lv_goto (tgt := 31) hx hb dX0_step_140 (by decide) ?_
        exact ih_31 _ ((i + 1), ne, le) _ _ _ (by rw [hn_31]; omega) ⟨rfl, (show i + 1 ≤ 8 by omega), (hI.trans (st_F_skip (by unfold st_c; rw [if_pos c_75, ← htn]; exact decide_eq_false (Int64.not_lt.mpr ((lg_cmp_ge _ _).mp c_92)))).symm), (hP.sub [0] rfl), (hD.sub [0] (by decide) rfl), hS, (lv_sub hl [0, 4, 5, 6, 7, 8] rfl)⟩
      · refine lv_lload hx hb dX0_step_95 (lv_at hl 2 rfl) ?_
        refine lv_lload hx hb dX0_step_97 (lv_at hl 2 rfl) ?_
        refine lv_lmul hx hb dX0_step_99 ?_
        refine lv_lload hx hb dX0_step_100 (lv_at hl 1 rfl) ?_
        refine lv_lload hx hb dX0_step_102 (lv_at hl 1 rfl) ?_
        refine lv_lmul hx hb dX0_step_104 ?_
        refine lv_ladd hx hb dX0_step_105 ?_
        refine lv_aload_n hx hb dX0_step_106 rfl (lv_at hl 8 rfl) ?_
        refine va_get (D := (dC, dI)) (ci := 0) (v := .long sq) (C := RX0) (T := TX0) (N := 12) hx hb hts hiX0 hown hK hP 0 rfl rfl 6 (by decide) (hts (.fieldLink RX0 32 "TickWalks$Arc" "square" "J") (List.mem_of_getElem? (l := wsX0_step) (i := 6) rfl)) (fun _ h9 => h9) rfl dX0_step_107 ?_
        refine lv_lsub hx hb dX0_step_110 ?_
        refine va_mabs_long hx hb (hml.trans hl.1.symm) hown (hts (.methodLink RX0 73 Lib.MathLoose.abs_long.x) (List.mem_of_getElem? (l := wsX0_step) (i := 7) rfl)) (hts (.static Lib.MathLoose.abs_long.x) (List.mem_of_getElem? (l := wsX0_step) (i := 8) rfl)) (hts (.initialized "java/lang/Math") (List.mem_of_getElem? (l := wsX0_step) (i := 9) rfl)) (hts (.code Lib.MathLoose.abs_long.x Lib.MathLoose.abs_long.code 2 (some .long)) (List.mem_of_getElem? (l := wsX0_step) (i := 10) rfl)) (Nat.le_of_ble_eq_true rfl) (Nat.le_of_ble_eq_true rfl) (Nat.le_of_ble_eq_true rfl) (Nat.le_of_ble_eq_true rfl) dX0_step_111 ?_
        refine lv_topl (fun bs ebs => ?_)
        refine lv_lstore (lv' := [(15, .long bs), (13, .long tn), (11, .long py), (9, .long px), (8, .int (nI i)), (5, .int ne), (6, .long le), (1, .long dx), (3, .long dy), (0, .ref h0)]) hx hb dX0_step_114 hl (by decide) rfl (fun ls hl => ?_)
        have hbs : bs = st_b dx dy sq i := by rw [ebs, epx, epy]; rfl
        refine lv_iload hx hb dX0_step_116 (lv_at hl 5 rfl) ?_
        refine lv_if_lt (tgt := 129) hx hb dX0_step_118 (by decide) (fun c_118 => ?_) (fun c_118 => ?_)
        · refine lv_iload hx hb dX0_step_129 (lv_at hl 4 rfl) ?_
          refine lv_istore (lv' := [(5, .int (nI i)), (15, .long bs), (13, .long tn), (11, .long py), (9, .long px), (8, .int (nI i)), (6, .long le), (1, .long dx), (3, .long dy), (0, .ref h0)]) hx hb dX0_step_131 hl (by decide) rfl (fun ls hl => ?_)
          refine lv_lload hx hb dX0_step_133 (lv_at hl 1 rfl) ?_
          refine lv_lstore (lv' := [(6, .long bs), (5, .int (nI i)), (15, .long bs), (13, .long tn), (11, .long py), (9, .long px), (8, .int (nI i)), (1, .long dx), (3, .long dy), (0, .ref h0)]) hx hb dX0_step_135 hl (by decide) rfl (fun ls hl => ?_)
          refine lv_iinc (v := nI (i + 1)) (lv' := [(8, .int (nI (i + 1))), (6, .long bs), (5, .int (nI i)), (15, .long bs), (13, .long tn), (11, .long py), (9, .long px), (1, .long dx), (3, .long dy), (0, .ref h0)]) hx hb dX0_step_137 hl (k := 6) rfl (nI_1 i) (by decide) rfl (fun ls hl => ?_)
          refine lv_goto (tgt := 31) hx hb dX0_step_140 (by decide) ?_
          exact ih_31 _ ((i + 1), nI i, bs) _ _ _ (by rw [hn_31]; omega) ⟨rfl, (show i + 1 ≤ 8 by omega), (by rw [st_F_take (show st_c lf dx dy i = true by unfold st_c; rw [if_pos c_75, ← htn]; exact decide_eq_true (Int64.not_le.mp (fun h => c_92 ((lg_cmp_ge _ _).mpr h)))) (Or.inl (by rw [← hI]; exact c_118)), hbs]), (hP.sub [0] rfl), (hD.sub [0] (by decide) rfl), hS, (lv_sub hl [0, 2, 1, 7, 8, 9] rfl)⟩
        · refine lv_lload hx hb dX0_step_121 (lv_at hl 0 rfl) ?_
          refine lv_lload hx hb dX0_step_123 (lv_at hl 6 rfl) ?_
          refine W.lcmp hx hb dX0_step_125 ?_
          refine lv_if_ge (tgt := 137) hx hb dX0_step_126 (by decide) (fun c_126 => ?_) (fun c_126 => ?_)
          · refine lv_iinc (v := nI (i + 1)) (lv' := [(8, .int (nI (i + 1))), (15, .long bs), (13, .long tn), (11, .long py), (9, .long px), (5, .int ne), (6, .long le), (1, .long dx), (3, .long dy), (0, .ref h0)]) hx hb dX0_step_137 hl (k := 4) rfl (nI_1 i) (by decide) rfl (fun ls hl => ?_)
            refine lv_goto (tgt := 31) hx hb dX0_step_140 (by decide) ?_
            exact ih_31 _ ((i + 1), ne, le) _ _ _ (by rw [hn_31]; omega) ⟨rfl, (show i + 1 ≤ 8 by omega), (hI.trans (st_F_keep (show st_c lf dx dy i = true by unfold st_c; rw [if_pos c_75, ← htn]; exact decide_eq_true (Int64.not_le.mp (fun h => c_92 ((lg_cmp_ge _ _).mpr h)))) (by rw [← hI, ← hbs]; intro h; rcases h with h | h; exact c_118 h; exact absurd h (Int64.not_lt.mpr ((lg_cmp_ge _ _).mp c_126)))).symm), (hP.sub [0] rfl), (hD.sub [0] (by decide) rfl), hS, (lv_sub hl [0, 5, 6, 7, 8, 9] rfl)⟩
          · refine lv_iload hx hb dX0_step_129 (lv_at hl 4 rfl) ?_
            refine lv_istore (lv' := [(5, .int (nI i)), (15, .long bs), (13, .long tn), (11, .long py), (9, .long px), (8, .int (nI i)), (6, .long le), (1, .long dx), (3, .long dy), (0, .ref h0)]) hx hb dX0_step_131 hl (by decide) rfl (fun ls hl => ?_)
            refine lv_lload hx hb dX0_step_133 (lv_at hl 1 rfl) ?_
            refine lv_lstore (lv' := [(6, .long bs), (5, .int (nI i)), (15, .long bs), (13, .long tn), (11, .long py), (9, .long px), (8, .int (nI i)), (1, .long dx), (3, .long dy), (0, .ref h0)]) hx hb dX0_step_135 hl (by decide) rfl (fun ls hl => ?_)
            refine lv_iinc (v := nI (i + 1)) (lv' := [(8, .int (nI (i + 1))), (6, .long bs), (5, .int (nI i)), (15, .long bs), (13, .long tn), (11, .long py), (9, .long px), (1, .long dx), (3, .long dy), (0, .ref h0)]) hx hb dX0_step_137 hl (k := 6) rfl (nI_1 i) (by decide) rfl (fun ls hl => ?_)
            refine lv_goto (tgt := 31) hx hb dX0_step_140 (by decide) ?_
            exact ih_31 _ ((i + 1), nI i, bs) _ _ _ (by rw [hn_31]; omega) ⟨rfl, (show i + 1 ≤ 8 by omega), (by rw [st_F_take (show st_c lf dx dy i = true by unfold st_c; rw [if_pos c_75, ← htn]; exact decide_eq_true (Int64.not_le.mp (fun h => c_92 ((lg_cmp_ge _ _).mpr h)))) (Or.inr (by rw [← hI, ← hbs]; exact Int64.not_le.mp (fun h => c_126 ((lg_cmp_ge _ _).mpr h)))), hbs]), (hP.sub [0] rfl), (hD.sub [0] (by decide) rfl), hS, (lv_sub hl [0, 2, 1, 7, 8, 9] rfl)⟩
    · refine lv_lload hx hb dX0_step_78 (lv_at hl 0 rfl) ?_
      refine lv_lconst (v := 0) hx hb dX0_step_80 (by decide) ?_
      refine W.lcmp hx hb dX0_step_81 ?_
      refine lv_if_le (tgt := 137) hx hb dX0_step_82 (by decide) (fun c_82 => ?_) (fun c_82 => ?_)
      · refine lv_iinc (v := nI (i + 1)) (lv' := [(8, .int (nI (i + 1))), (13, .long tn), (11, .long py), (9, .long px), (5, .int ne), (6, .long le), (1, .long dx), (3, .long dy), (0, .ref h0)]) hx hb dX0_step_137 hl (k := 3) rfl (nI_1 i) (by decide) rfl (fun ls hl => ?_)
        refine lv_goto (tgt := 31) hx hb dX0_step_140 (by decide) ?_
        exact ih_31 _ ((i + 1), ne, le) _ _ _ (by rw [hn_31]; omega) ⟨rfl, (show i + 1 ≤ 8 by omega), (hI.trans (st_F_skip (by unfold st_c; rw [if_neg c_75, ← htn]; exact decide_eq_false (Int64.not_lt.mpr ((lg_cmp_le _ _).mp c_82)))).symm), (hP.sub [0] rfl), (hD.sub [0] (by decide) rfl), hS, (lv_sub hl [0, 4, 5, 6, 7, 8] rfl)⟩
      · refine lv_goto (tgt := 95) hx hb dX0_step_85 (by decide) ?_
        refine lv_lload hx hb dX0_step_95 (lv_at hl 2 rfl) ?_
        refine lv_lload hx hb dX0_step_97 (lv_at hl 2 rfl) ?_
        refine lv_lmul hx hb dX0_step_99 ?_
        refine lv_lload hx hb dX0_step_100 (lv_at hl 1 rfl) ?_
        refine lv_lload hx hb dX0_step_102 (lv_at hl 1 rfl) ?_
        refine lv_lmul hx hb dX0_step_104 ?_
        refine lv_ladd hx hb dX0_step_105 ?_
        refine lv_aload_n hx hb dX0_step_106 rfl (lv_at hl 8 rfl) ?_
        refine va_get (D := (dC, dI)) (ci := 0) (v := .long sq) (C := RX0) (T := TX0) (N := 12) hx hb hts hiX0 hown hK hP 0 rfl rfl 6 (by decide) (hts (.fieldLink RX0 32 "TickWalks$Arc" "square" "J") (List.mem_of_getElem? (l := wsX0_step) (i := 6) rfl)) (fun _ h9 => h9) rfl dX0_step_107 ?_
        refine lv_lsub hx hb dX0_step_110 ?_
        refine va_mabs_long hx hb (hml.trans hl.1.symm) hown (hts (.methodLink RX0 73 Lib.MathLoose.abs_long.x) (List.mem_of_getElem? (l := wsX0_step) (i := 7) rfl)) (hts (.static Lib.MathLoose.abs_long.x) (List.mem_of_getElem? (l := wsX0_step) (i := 8) rfl)) (hts (.initialized "java/lang/Math") (List.mem_of_getElem? (l := wsX0_step) (i := 9) rfl)) (hts (.code Lib.MathLoose.abs_long.x Lib.MathLoose.abs_long.code 2 (some .long)) (List.mem_of_getElem? (l := wsX0_step) (i := 10) rfl)) (Nat.le_of_ble_eq_true rfl) (Nat.le_of_ble_eq_true rfl) (Nat.le_of_ble_eq_true rfl) (Nat.le_of_ble_eq_true rfl) dX0_step_111 ?_
        refine lv_topl (fun bs ebs => ?_)
        refine lv_lstore (lv' := [(15, .long bs), (13, .long tn), (11, .long py), (9, .long px), (8, .int (nI i)), (5, .int ne), (6, .long le), (1, .long dx), (3, .long dy), (0, .ref h0)]) hx hb dX0_step_114 hl (by decide) rfl (fun ls hl => ?_)
        have hbs : bs = st_b dx dy sq i := by rw [ebs, epx, epy]; rfl
        refine lv_iload hx hb dX0_step_116 (lv_at hl 5 rfl) ?_
        refine lv_if_lt (tgt := 129) hx hb dX0_step_118 (by decide) (fun c_118 => ?_) (fun c_118 => ?_)
        · refine lv_iload hx hb dX0_step_129 (lv_at hl 4 rfl) ?_
          refine lv_istore (lv' := [(5, .int (nI i)), (15, .long bs), (13, .long tn), (11, .long py), (9, .long px), (8, .int (nI i)), (6, .long le), (1, .long dx), (3, .long dy), (0, .ref h0)]) hx hb dX0_step_131 hl (by decide) rfl (fun ls hl => ?_)
          refine lv_lload hx hb dX0_step_133 (lv_at hl 1 rfl) ?_
          refine lv_lstore (lv' := [(6, .long bs), (5, .int (nI i)), (15, .long bs), (13, .long tn), (11, .long py), (9, .long px), (8, .int (nI i)), (1, .long dx), (3, .long dy), (0, .ref h0)]) hx hb dX0_step_135 hl (by decide) rfl (fun ls hl => ?_)
          refine lv_iinc (v := nI (i + 1)) (lv' := [(8, .int (nI (i + 1))), (6, .long bs), (5, .int (nI i)), (15, .long bs), (13, .long tn), (11, .long py), (9, .long px), (1, .long dx), (3, .long dy), (0, .ref h0)]) hx hb dX0_step_137 hl (k := 6) rfl (nI_1 i) (by decide) rfl (fun ls hl => ?_)
          refine lv_goto (tgt := 31) hx hb dX0_step_140 (by decide) ?_
          exact ih_31 _ ((i + 1), nI i, bs) _ _ _ (by rw [hn_31]; omega) ⟨rfl, (show i + 1 ≤ 8 by omega), (by rw [st_F_take (show st_c lf dx dy i = true by unfold st_c; rw [if_neg c_75, ← htn]; exact decide_eq_true (Int64.not_le.mp (fun h => c_82 ((lg_cmp_le _ _).mpr h)))) (Or.inl (by rw [← hI]; exact c_118)), hbs]), (hP.sub [0] rfl), (hD.sub [0] (by decide) rfl), hS, (lv_sub hl [0, 2, 1, 7, 8, 9] rfl)⟩
        · refine lv_lload hx hb dX0_step_121 (lv_at hl 0 rfl) ?_
          refine lv_lload hx hb dX0_step_123 (lv_at hl 6 rfl) ?_
          refine W.lcmp hx hb dX0_step_125 ?_
          refine lv_if_ge (tgt := 137) hx hb dX0_step_126 (by decide) (fun c_126 => ?_) (fun c_126 => ?_)
          · refine lv_iinc (v := nI (i + 1)) (lv' := [(8, .int (nI (i + 1))), (15, .long bs), (13, .long tn), (11, .long py), (9, .long px), (5, .int ne), (6, .long le), (1, .long dx), (3, .long dy), (0, .ref h0)]) hx hb dX0_step_137 hl (k := 4) rfl (nI_1 i) (by decide) rfl (fun ls hl => ?_)
            refine lv_goto (tgt := 31) hx hb dX0_step_140 (by decide) ?_
            exact ih_31 _ ((i + 1), ne, le) _ _ _ (by rw [hn_31]; omega) ⟨rfl, (show i + 1 ≤ 8 by omega), (hI.trans (st_F_keep (show st_c lf dx dy i = true by unfold st_c; rw [if_neg c_75, ← htn]; exact decide_eq_true (Int64.not_le.mp (fun h => c_82 ((lg_cmp_le _ _).mpr h)))) (by rw [← hI, ← hbs]; intro h; rcases h with h | h; exact c_118 h; exact absurd h (Int64.not_lt.mpr ((lg_cmp_ge _ _).mp c_126)))).symm), (hP.sub [0] rfl), (hD.sub [0] (by decide) rfl), hS, (lv_sub hl [0, 5, 6, 7, 8, 9] rfl)⟩
          · refine lv_iload hx hb dX0_step_129 (lv_at hl 4 rfl) ?_
            refine lv_istore (lv' := [(5, .int (nI i)), (15, .long bs), (13, .long tn), (11, .long py), (9, .long px), (8, .int (nI i)), (6, .long le), (1, .long dx), (3, .long dy), (0, .ref h0)]) hx hb dX0_step_131 hl (by decide) rfl (fun ls hl => ?_)
            refine lv_lload hx hb dX0_step_133 (lv_at hl 1 rfl) ?_
            refine lv_lstore (lv' := [(6, .long bs), (5, .int (nI i)), (15, .long bs), (13, .long tn), (11, .long py), (9, .long px), (8, .int (nI i)), (1, .long dx), (3, .long dy), (0, .ref h0)]) hx hb dX0_step_135 hl (by decide) rfl (fun ls hl => ?_)
            refine lv_iinc (v := nI (i + 1)) (lv' := [(8, .int (nI (i + 1))), (6, .long bs), (5, .int (nI i)), (15, .long bs), (13, .long tn), (11, .long py), (9, .long px), (1, .long dx), (3, .long dy), (0, .ref h0)]) hx hb dX0_step_137 hl (k := 6) rfl (nI_1 i) (by decide) rfl (fun ls hl => ?_)
            refine lv_goto (tgt := 31) hx hb dX0_step_140 (by decide) ?_
            exact ih_31 _ ((i + 1), nI i, bs) _ _ _ (by rw [hn_31]; omega) ⟨rfl, (show i + 1 ≤ 8 by omega), (by rw [st_F_take (show st_c lf dx dy i = true by unfold st_c; rw [if_neg c_75, ← htn]; exact decide_eq_true (Int64.not_le.mp (fun h => c_82 ((lg_cmp_le _ _).mpr h)))) (Or.inr (by rw [← hI, ← hbs]; exact Int64.not_le.mp (fun h => c_126 ((lg_cmp_ge _ _).mpr h)))), hbs]), (hP.sub [0] rfl), (hD.sub [0] (by decide) rfl), hS, (lv_sub hl [0, 2, 1, 7, 8, 9] rfl)⟩
set_option maxHeartbeats 4000000 in
set_option maxRecDepth 100000 in
/-- Arc.measure -/
theorem ar_measure (l : Launch) (dC : Nat → ClassId) (dI : Nat → Nat → Nat) (cA cB : ClassId) (sz : Nat) (h0 : Nat) (qx : Nat) (qy : Nat) (ht : Int32) (cx : Int32) (cy : Int32) (lf : Int32) (sq : Int64) (ln : Int32) (of : Int32) (sr : Int32) (fx : Int32) (fy : Int32) (px : Int32) (py : Int32) : Met l yX0_measure wsX0_measure ({ frames := 3, cells := 0, slots := 0, locals := 60 }) (va_Pc [.ref h0, .int px, .int py] (ct_P dC dI cA cB sz [(h0, .inr (0, [.ref qx, .ref qy, .int ht, .int cx, .int cy, .int lf, .long sq, .int ln, .int of, .int sr, .int fx, .int fy]))])) (va_Qv (fun (u : Int32 × Int32) => u.1 = mx_i of (ab_l (sq_c fx cx fy cy - sq)).toInt32 ∧ ((ga_m px py 0 = 1 ∧ u.2 = sr) ∨ (¬ ga_m px py 0 = 1 ∧ u.2 = sr + 1))) (fun (u : Int32 × Int32) => ct_B dC dI (va_A [(h0, .inr (0, [.ref qx, .ref qy, .int ht, .int cx, .int cy, .int lf, .long sq, .int ln, .int of, .int sr, .int fx, .int fy]))] sz) [(h0, .inr (0, [.ref qx, .ref qy, .int ht, .int cx, .int cy, .int lf, .long sq, .int ln, .int u.1, .int u.2, .int fx, .int fy]))]) (va_A [(h0, .inr (0, [.ref qx, .ref qy, .int ht, .int cx, .int cy, .int lf, .long sq, .int ln, .int of, .int sr, .int fx, .int fy]))] sz)) 0 0 (va_A [(h0, .inr (0, [.ref qx, .ref qy, .int ht, .int cx, .int cy, .int lf, .long sq, .int ln, .int of, .int sr, .int fx, .int fy]))] sz) := by
  refine Met.ofW (cc := cX0_measure) (maxL := 3) (ret := none) (by decide +kernel) rfl ?_
  intro p e s m args below meth c s₁ B hml hv
  obtain ⟨rfl, hsz, hP, hK, hD0, hZ, hN⟩ := hv
  have hx := B.exec
  have hb := B.bytes
  have hr := B.returns
  have hts := atoms_spec (ws := wsX0_measure) B.pre
  have hown : s.vm.findClass RX0 = some m.cls := findClass_of_methodNamed B.named
  have hlocks := B.notSynchronized
  have hiX0 : ∀ w ∈ u_ws RX0 TX0 12, w ∈ wsX0_measure := by decide +kernel
  subst hsz
  have hD := hD0.self (sz := s.heap.size)
  generalize hAe : va_A [(h0, .inr (0, [.ref qx, .ref qy, .int ht, .int cx, .int cy, .int lf, .long sq, .int ln, .int of, .int sr, .int fx, .int fy]))] s.heap.size = A at hD hZ ⊢
  have hA : ∀ q : Nat, s.heap.size ≤ q → A q := fun q h => by rw [← hAe]; exact Or.inr h
  have hl := lv_entry ([.ref h0, .int px, .int py]) (n := 3) (Nat.le_of_ble_eq_true rfl)
  rw [lg_entry_eq]
  generalize (lg_sl ([.ref h0, .int px, .int py]) ++ List.replicate (3 - (lg_sl ([.ref h0, .int px, .int py])).length) Slot.unset).toArray = ls at hl ⊢
  have hl : lv_has ls 3 [(0, .ref h0), (1, .int px), (2, .int py)] := hl
  generalize hHe : s.heap = H at hP ⊢
  have hS : va_S A s.heap H [] := by rw [hHe]; exact va_S.rf
  generalize ([] : List Loc) = locs at hS ⊢
  refine lv_aload_n hx hb dX0_measure_0 rfl (lv_at hl 0 rfl) ?_
  refine lv_aload_n hx hb dX0_measure_1 rfl (lv_at hl 0 rfl) ?_
  refine va_get (D := (dC, dI)) (ci := 0) (v := .int of) (C := RX0) (T := TX0) (N := 12) hx hb hts hiX0 hown hK hP 0 rfl rfl 8 (by decide) (hts (.fieldLink RX0 39 "TickWalks$Arc" "off" "I") (List.mem_of_getElem? (l := wsX0_measure) (i := 1) rfl)) (fun _ h9 => h9) rfl dX0_measure_2 ?_
  refine lv_aload_n hx hb dX0_measure_5 rfl (lv_at hl 0 rfl) ?_
  refine ct_calll (va_runV (As := []) (rest := [.int of, .ref h0]) ⟨hx, hb, hml, hown, hts⟩ (ar_sq l dC dI cA cB H.size h0 qx qy ht cx cy lf sq ln of sr fx fy ) (cwV 0 hts gX0_measure_X0_squareFromCentre rfl rfl rfl (by decide +kernel) ⟨Nat.le_of_ble_eq_true rfl, Nat.le_of_ble_eq_true rfl⟩) ⟨ct_blind, va_recv hK hP (ci := 0) (q0 := 0) rfl rfl, ct_pre hP hD hK hZ hN hS hA [0] rfl (by decide)⟩ rfl rfl hl.1 rfl (lv_room (Nat.le_of_ble_eq_true rfl)) dX0_measure_6 ⟨Nat.le_of_ble_eq_true rfl, Nat.le_of_ble_eq_true rfl⟩) hP hD hS hA [0] [] rfl (wr := []) rfl (by decide) (by decide) (fun r_1 u9 H locs hw_1 hP hD hS => ?_)
  have hw_1 : r_1 = sq_c fx cx fy cy := hw_1
  have hP : va_P (dC, dI) vwCl [(h0, .inr (0, [.ref qx, .ref qy, .int ht, .int cx, .int cy, .int lf, .long sq, .int ln, .int of, .int sr, .int fx, .int fy]))] H := hP
  have hD : va_D A [(h0, .inr (0, [.ref qx, .ref qy, .int ht, .int cx, .int cy, .int lf, .long sq, .int ln, .int of, .int sr, .int fx, .int fy]))] := hD
  refine lv_aload_n hx hb dX0_measure_9 rfl (lv_at hl 0 rfl) ?_
  refine va_get (D := (dC, dI)) (ci := 0) (v := .long sq) (C := RX0) (T := TX0) (N := 12) hx hb hts hiX0 hown hK hP 0 rfl rfl 6 (by decide) (hts (.fieldLink RX0 32 "TickWalks$Arc" "square" "J") (List.mem_of_getElem? (l := wsX0_measure) (i := 2) rfl)) (fun _ h9 => h9) rfl dX0_measure_10 ?_
  refine lv_lsub hx hb dX0_measure_13 ?_
  refine va_mabs_long hx hb (hml.trans hl.1.symm) hown (hts (.methodLink RX0 73 Lib.MathLoose.abs_long.x) (List.mem_of_getElem? (l := wsX0_measure) (i := 3) rfl)) (hts (.static Lib.MathLoose.abs_long.x) (List.mem_of_getElem? (l := wsX0_measure) (i := 4) rfl)) (hts (.initialized "java/lang/Math") (List.mem_of_getElem? (l := wsX0_measure) (i := 5) rfl)) (hts (.code Lib.MathLoose.abs_long.x Lib.MathLoose.abs_long.code 2 (some .long)) (List.mem_of_getElem? (l := wsX0_measure) (i := 6) rfl)) (Nat.le_of_ble_eq_true rfl) (Nat.le_of_ble_eq_true rfl) (Nat.le_of_ble_eq_true rfl) (Nat.le_of_ble_eq_true rfl) dX0_measure_14 ?_
  refine lv_l2i hx hb dX0_measure_17 rfl ?_
  refine va_mmax hx hb (hml.trans hl.1.symm) hown (hts (.methodLink RX0 79 Lib.Math.max.name) (List.mem_of_getElem? (l := wsX0_measure) (i := 7) rfl)) (hts (.static Lib.Math.max.name) (List.mem_of_getElem? (l := wsX0_measure) (i := 8) rfl)) (hts (.initialized "java/lang/Math") (List.mem_of_getElem? (l := wsX0_measure) (i := 5) rfl)) (hts (.code Lib.Math.max.name Lib.Math.max.code 2 (some .int)) (List.mem_of_getElem? (l := wsX0_measure) (i := 9) rfl)) (Nat.le_of_ble_eq_true rfl) (Nat.le_of_ble_eq_true rfl) (Nat.le_of_ble_eq_true rfl) (Nat.le_of_ble_eq_true rfl) dX0_measure_18 ?_
  refine va_put (D := (dC, dI)) (ci := 0) (v := .int (if of < ((if 0 < (r_1 - sq) then (r_1 - sq) else -(r_1 - sq)).toInt32) then ((if 0 < (r_1 - sq) then (r_1 - sq) else -(r_1 - sq)).toInt32) else of)) (ty := .int) (C := RX0) (T := TX0) (N := 12) hx hb hts hiX0 tyX0 tyX0_ok nmX0 hown hK hP hD hS 0 rfl rfl 8 (by decide) (hts (.fieldLink RX0 39 "TickWalks$Arc" "off" "I") (List.mem_of_getElem? (l := wsX0_measure) (i := 1) rfl)) (fun _ h9 => h9) rfl (by decide +kernel) rfl rfl (Nat.le_of_ble_eq_true rfl) dX0_measure_21 (fun H locs hP hD hS => ?_)
  have hP : va_P (dC, dI) vwCl [(h0, .inr (0, [.ref qx, .ref qy, .int ht, .int cx, .int cy, .int lf, .long sq, .int ln, .int (if of < ((if 0 < (r_1 - sq) then (r_1 - sq) else -(r_1 - sq)).toInt32) then ((if 0 < (r_1 - sq) then (r_1 - sq) else -(r_1 - sq)).toInt32) else of), .int sr, .int fx, .int fy]))] H := hP
  have hD : va_D A [(h0, .inr (0, [.ref qx, .ref qy, .int ht, .int cx, .int cy, .int lf, .long sq, .int ln, .int (if of < ((if 0 < (r_1 - sq) then (r_1 - sq) else -(r_1 - sq)).toInt32) then ((if 0 < (r_1 - sq) then (r_1 - sq) else -(r_1 - sq)).toInt32) else of), .int sr, .int fx, .int fy]))] := hD
  refine lv_iload_n hx hb dX0_measure_24 rfl (lv_at hl 1 rfl) ?_
  refine lv_iload_n hx hb dX0_measure_25 rfl (lv_at hl 2 rfl) ?_
  refine lv_iconst (v := 0) hx hb dX0_measure_26 (by decide) ?_
  refine ct_calli (va_runSN (As := [.int px, .int py, .int 0]) (rest := []) ⟨hx, hb, hml, hown, hts⟩ (ct_isStray l dC dI cA cB H.size px py 0 ) ⟨va_cnB (host := "TickWalks") 3 hts gX0_measure_X3_isStray_n83 rfl rfl rfl hN.2.2.2.2.2.2.2.1 (hts (.initialized RX3) (List.mem_of_getElem? (l := wsX0_measure) (i := 21) rfl)) (by decide +kernel) ⟨Nat.le_of_ble_eq_true rfl, Nat.le_of_ble_eq_true rfl⟩, (hts (.static yX3_isStray) (List.mem_of_getElem? (l := wsX0_measure) (i := 20) rfl)), trivial⟩ ⟨ct_blind, ct_pre hP hD hK hZ hN hS hA [] rfl (by decide)⟩ rfl rfl hl.1 rfl (lv_room (Nat.le_of_ble_eq_true rfl)) dX0_measure_27 ⟨Nat.le_of_ble_eq_true rfl, Nat.le_of_ble_eq_true rfl⟩) hP hD hS hA [] [0] rfl (wr := [(h0, .inr (0, [.ref qx, .ref qy, .int ht, .int cx, .int cy, .int lf, .long sq, .int ln, .int (if of < ((if 0 < (r_1 - sq) then (r_1 - sq) else -(r_1 - sq)).toInt32) then ((if 0 < (r_1 - sq) then (r_1 - sq) else -(r_1 - sq)).toInt32) else of), .int sr, .int fx, .int fy]))]) rfl (by decide) (by decide) (fun r_2 u9 H locs hw_2 hP hD hS => ?_)
  have hw_2 : bo_z r_2 (¬ ga_m px py 0 = 1) := hw_2
  have hP : va_P (dC, dI) vwCl [(h0, .inr (0, [.ref qx, .ref qy, .int ht, .int cx, .int cy, .int lf, .long sq, .int ln, .int (if of < ((if 0 < (r_1 - sq) then (r_1 - sq) else -(r_1 - sq)).toInt32) then ((if 0 < (r_1 - sq) then (r_1 - sq) else -(r_1 - sq)).toInt32) else of), .int sr, .int fx, .int fy]))] H := hP
  have hD : va_D A [(h0, .inr (0, [.ref qx, .ref qy, .int ht, .int cx, .int cy, .int lf, .long sq, .int ln, .int (if of < ((if 0 < (r_1 - sq) then (r_1 - sq) else -(r_1 - sq)).toInt32) then ((if 0 < (r_1 - sq) then (r_1 - sq) else -(r_1 - sq)).toInt32) else of), .int sr, .int fx, .int fy]))] := hD
  refine lv_if_eq (tgt := 43) hx hb dX0_measure_30 (by decide) (fun c_30 => ?_) (fun c_30 => ?_)
  · have hP9 := hP.sub (ws' := [(h0, .inr (0, [.ref qx, .ref qy, .int ht, .int cx, .int cy, .int lf, .long sq, .int ln, .int (if of < ((if 0 < (r_1 - sq) then (r_1 - sq) else -(r_1 - sq)).toInt32) then ((if 0 < (r_1 - sq) then (r_1 - sq) else -(r_1 - sq)).toInt32) else of), .int sr, .int fx, .int fy]))]) [0] rfl
    have hD9 := hD.sub (ws' := [(h0, .inr (0, [.ref qx, .ref qy, .int ht, .int cx, .int cy, .int lf, .long sq, .int ln, .int (if of < ((if 0 < (r_1 - sq) then (r_1 - sq) else -(r_1 - sq)).toInt32) then ((if 0 < (r_1 - sq) then (r_1 - sq) else -(r_1 - sq)).toInt32) else of), .int sr, .int fx, .int fy]))]) [0] (by decide) rfl
    exact W.vret hx hb hr (fun t9 ht9 hW9 => ⟨⟨(if of < ((if 0 < (r_1 - sq) then (r_1 - sq) else -(r_1 - sq)).toInt32) then ((if 0 < (r_1 - sq) then (r_1 - sq) else -(r_1 - sq)).toInt32) else of, sr), rfl, ⟨by rw [hw_1]; rfl, Or.inl ⟨Decidable.not_not.mp (hw_2.f c_30), rfl⟩⟩, by rw [ht9]; exact hP9, hD9⟩, hS.F ht9⟩) hS.2.2 dX0_measure_43
  · refine lv_aload_n hx hb dX0_measure_33 rfl (lv_at hl 0 rfl) ?_
    refine lv_dup hx hb dX0_measure_34 rfl ?_
    refine va_get (D := (dC, dI)) (ci := 0) (v := .int sr) (C := RX0) (T := TX0) (N := 12) hx hb hts hiX0 hown hK hP 0 rfl rfl 9 (by decide) (hts (.fieldLink RX0 42 "TickWalks$Arc" "strays" "I") (List.mem_of_getElem? (l := wsX0_measure) (i := 10) rfl)) (fun _ h9 => h9) rfl dX0_measure_35 ?_
    refine lv_iconst (v := 1) hx hb dX0_measure_38 (by decide) ?_
    refine lv_iadd hx hb dX0_measure_39 ?_
    refine va_put (D := (dC, dI)) (ci := 0) (v := .int (sr + 1)) (ty := .int) (C := RX0) (T := TX0) (N := 12) hx hb hts hiX0 tyX0 tyX0_ok nmX0 hown hK hP hD hS 0 rfl rfl 9 (by decide) (hts (.fieldLink RX0 42 "TickWalks$Arc" "strays" "I") (List.mem_of_getElem? (l := wsX0_measure) (i := 10) rfl)) (fun _ h9 => h9) rfl (by decide +kernel) rfl rfl (Nat.le_of_ble_eq_true rfl) dX0_measure_40 (fun H locs hP hD hS => ?_)
    have hP : va_P (dC, dI) vwCl [(h0, .inr (0, [.ref qx, .ref qy, .int ht, .int cx, .int cy, .int lf, .long sq, .int ln, .int (if of < ((if 0 < (r_1 - sq) then (r_1 - sq) else -(r_1 - sq)).toInt32) then ((if 0 < (r_1 - sq) then (r_1 - sq) else -(r_1 - sq)).toInt32) else of), .int (sr + 1), .int fx, .int fy]))] H := hP
    have hD : va_D A [(h0, .inr (0, [.ref qx, .ref qy, .int ht, .int cx, .int cy, .int lf, .long sq, .int ln, .int (if of < ((if 0 < (r_1 - sq) then (r_1 - sq) else -(r_1 - sq)).toInt32) then ((if 0 < (r_1 - sq) then (r_1 - sq) else -(r_1 - sq)).toInt32) else of), .int (sr + 1), .int fx, .int fy]))] := hD
    have hP9 := hP.sub (ws' := [(h0, .inr (0, [.ref qx, .ref qy, .int ht, .int cx, .int cy, .int lf, .long sq, .int ln, .int (if of < ((if 0 < (r_1 - sq) then (r_1 - sq) else -(r_1 - sq)).toInt32) then ((if 0 < (r_1 - sq) then (r_1 - sq) else -(r_1 - sq)).toInt32) else of), .int (sr + 1), .int fx, .int fy]))]) [0] rfl
    have hD9 := hD.sub (ws' := [(h0, .inr (0, [.ref qx, .ref qy, .int ht, .int cx, .int cy, .int lf, .long sq, .int ln, .int (if of < ((if 0 < (r_1 - sq) then (r_1 - sq) else -(r_1 - sq)).toInt32) then ((if 0 < (r_1 - sq) then (r_1 - sq) else -(r_1 - sq)).toInt32) else of), .int (sr + 1), .int fx, .int fy]))]) [0] (by decide) rfl
    exact W.vret hx hb hr (fun t9 ht9 hW9 => ⟨⟨(if of < ((if 0 < (r_1 - sq) then (r_1 - sq) else -(r_1 - sq)).toInt32) then ((if 0 < (r_1 - sq) then (r_1 - sq) else -(r_1 - sq)).toInt32) else of, sr + 1), rfl, ⟨by rw [hw_1]; rfl, Or.inr ⟨hw_2.t c_30, rfl⟩⟩, by rw [ht9]; exact hP9, hD9⟩, hS.F ht9⟩) hS.2.2 dX0_measure_43
end
section
/-! the places of an arc: (lf, sq, cx, cy) name it, q is a place -/
def ob_d (lf : Int32) (sq : Int64) (cx cy : Int32) (q : Int32 × Int32) : Int32 := (st_F lf (q.1 - cx).toInt64 (q.2 - cy).toInt64 sq 8).1
def ob_s (lf : Int32) (sq : Int64) (cx cy : Int32) (q : Int32 × Int32) : Int32 × Int32 := if ob_d lf sq cx cy q < 0 then q else (q.1 + st_X (ob_d lf sq cx cy q).toNatClampNeg, q.2 + st_Y (ob_d lf sq cx cy q).toNatClampNeg)
def ob_p (lf : Int32) (sq : Int64) (cx cy : Int32) (q : Int32 × Int32) : Nat → Int32 × Int32
  | 0 => q
  | k + 1 => ob_s lf sq cx cy (ob_p lf sq cx cy q k)
/-- the arc from q to t has n ticks -/
def ob_H (lf : Int32) (sq : Int64) (cx cy : Int32) (q t : Int32 × Int32) (n : Nat) : Prop := 1 ≤ n ∧ n ≤ 40000 ∧ (∀ j, j < n → ¬ ob_d lf sq cx cy (ob_p lf sq cx cy q j) < 0) ∧ ob_p lf sq cx cy q n = t ∧ ∀ j, 1 ≤ j → j < n → ob_p lf sq cx cy q j ≠ t
/-- the greatest amount beside, as the class reckons it -/
def ob_o (lf : Int32) (sq : Int64) (cx cy : Int32) (q : Int32 × Int32) : Nat → Int32
  | 0 => 0
  | k + 1 => mx_i (ob_o lf sq cx cy q k) (ab_l (sq_c (ob_p lf sq cx cy q (k + 1)).1 cx (ob_p lf sq cx cy q (k + 1)).2 cy - sq)).toInt32
def ob_M (lf : Int32) (sq : Int64) (cx cy : Int32) (q : Int32 × Int32) (mx my : Nat → Int32) (n : Nat) : Prop := ∀ r, r * 100 ≤ n → mx r = (ob_p lf sq cx cy q (r * 100)).1 ∧ my r = (ob_p lf sq cx cy q (r * 100)).2
theorem ob_H_uniq {lf : Int32} {sq : Int64} {cx cy : Int32} {q t : Int32 × Int32} {n k : Nat} (h : ob_H lf sq cx cy q t n) (g : ob_H lf sq cx cy q t k) : n = k := by
  rcases Nat.lt_trichotomy n k with a | a | a
  · exact absurd h.2.2.2.1 (g.2.2.2.2 n h.1 a)
  · exact a
  · exact absurd g.2.2.2.1 (h.2.2.2.2 k g.1 a)
theorem ob_p_add (lf : Int32) (sq : Int64) (cx cy : Int32) (q : Int32 × Int32) {j : Nat} (h : ob_p lf sq cx cy q j = q) : ∀ k, ob_p lf sq cx cy q (j + k) = ob_p lf sq cx cy q k := by
  intro k
  induction k with
  | zero => exact h
  | succ k ih => rw [← Nat.add_assoc, ob_p, ih, ob_p]
theorem ob_p_per (lf : Int32) (sq : Int64) (cx cy : Int32) (q : Int32 × Int32) {j : Nat} (hj : 1 ≤ j) (h : ob_p lf sq cx cy q j = q) : ∀ n, 1 ≤ n → ∃ i, 1 ≤ i ∧ i ≤ j ∧ ob_p lf sq cx cy q n = ob_p lf sq cx cy q i := by
  intro n
  induction n using Nat.strongRecOn with
  | ind n ih =>
    intro hn
    rcases Nat.lt_or_ge j n with a | a
    · obtain ⟨i, h1, h2, h3⟩ := ih (n - j) (by omega) (by omega)
      refine ⟨i, h1, h2, ?_⟩
      rw [← h3, ← ob_p_add lf sq cx cy q h (n - j), show j + (n - j) = n by omega]
    · exact ⟨n, hn, a, rfl⟩
/-- back at the beginning without having met the end: it never comes there -/
theorem ob_no {lf : Int32} {sq : Int64} {cx cy : Int32} {q t : Int32 × Int32} {j : Nat} (hj : 1 ≤ j) (h : ob_p lf sq cx cy q j = q) (ht : ∀ i, 1 ≤ i → i ≤ j → ob_p lf sq cx cy q i ≠ t) (n : Nat) : ¬ ob_H lf sq cx cy q t n := by
  intro g
  obtain ⟨i, h1, h2, h3⟩ := ob_p_per lf sq cx cy q hj h n g.1
  exact ht i h1 h2 (h3.symm.trans g.2.2.2.1)
theorem ob_no_d {lf : Int32} {sq : Int64} {cx cy : Int32} {q t : Int32 × Int32} {j : Nat} (h : ob_d lf sq cx cy (ob_p lf sq cx cy q j) < 0) (ht : ∀ i, 1 ≤ i → i ≤ j → ob_p lf sq cx cy q i ≠ t) (n : Nat) : ¬ ob_H lf sq cx cy q t n := by
  intro g
  rcases Nat.lt_or_ge j n with a | a
  · exact g.2.2.1 j a h
  · exact ht n g.1 a g.2.2.2.1
theorem ob_no_e {lf : Int32} {sq : Int64} {cx cy : Int32} {q t : Int32 × Int32} (ht : ∀ i, 1 ≤ i → i ≤ 40000 → ob_p lf sq cx cy q i ≠ t) (n : Nat) : ¬ ob_H lf sq cx cy q t n := fun g => ht n g.1 g.2.1 g.2.2.2.1
theorem sp_ob {lf : Int32} {sq : Int64} {fx cx fy cy r gx gy : Int32} (h : sp_P lf sq fx cx fy cy r gx gy) : (gx, gy) = ob_s lf sq cx cy (fx, fy) ∧ ((r = 0 ∧ ob_d lf sq cx cy (fx, fy) < 0 ∧ gx = fx ∧ gy = fy) ∨ (r = 1 ∧ ¬ ob_d lf sq cx cy (fx, fy) < 0 ∧ ∃ j, j < 8 ∧ ob_d lf sq cx cy (fx, fy) = nI j ∧ gx = fx + st_X j ∧ gy = fy + st_Y j)) := by
  rcases h with ⟨h1, h2, h3, h4⟩ | ⟨j, hj, h1, h2, h3, h4⟩
  · have g : ob_d lf sq cx cy (fx, fy) < 0 := h2
    refine ⟨?_, Or.inl ⟨h1, h2, h3, h4⟩⟩
    unfold ob_s
    rw [if_pos g, h3, h4]
  · have g : ob_d lf sq cx cy (fx, fy) = nI j := h1
    have g2 : ¬ ob_d lf sq cx cy (fx, fy) < 0 := by rw [g]; exact nI_pos (by omega)
    refine ⟨?_, Or.inr ⟨h2, g2, j, hj, g, h3, h4⟩⟩
    unfold ob_s
    rw [if_neg g2, g, nI_clamp (by omega), h3, h4]
theorem sp_ga {fx fy : Int32} {j : Nat} (hj : j < 8) : ga_m (fx + st_X j - fx) (fy + st_Y j - fy) 0 = 1 := by
  rw [show fx + st_X j - fx = st_X j by rw [Int32.add_comm, Int32.add_sub_cancel], show fy + st_Y j - fy = st_Y j by rw [Int32.add_comm, Int32.add_sub_cancel]]
  rcases (show j = 0 ∨ j = 1 ∨ j = 2 ∨ j = 3 ∨ j = 4 ∨ j = 5 ∨ j = 6 ∨ j = 7 by omega) with rfl | rfl | rfl | rfl | rfl | rfl | rfl | rfl <;> decide
/-- Arc.walk: what it answers and leaves -/
def wk_P (lf : Int32) (sq : Int64) (cx cy : Int32) (q t : Int32 × Int32) (r : Int32) (nx ny : Nat → Int32) (nl no ns : Int32) : Prop :=
  (r = 1 ∧ (1 ≤ sq ∧ sq ≤ 25000000) ∧ ∃ n, ob_H lf sq cx cy q t n ∧ nl = nI n ∧ no = ob_o lf sq cx cy q n ∧ ns = 0 ∧ ob_M lf sq cx cy q nx ny n) ∨ (r = 0 ∧ (¬ (1 ≤ sq ∧ sq ≤ 25000000) ∨ ∀ n, ¬ ob_H lf sq cx cy q t n))
theorem ob_M_mk {lf : Int32} {sq : Int64} {cx cy : Int32} {q : Int32 × Int32} {mx my : Nat → Int32} {n : Nat} {gx gy : Int32} (h : ob_M lf sq cx cy q mx my n) (hg : (gx, gy) = ob_p lf sq cx cy q (n + 1)) : ob_M lf sq cx cy q (mk_u mx (n + 1) gx) (mk_u my (n + 1) gy) (n + 1) := by
  intro r hr
  unfold mk_u
  by_cases h0 : (n + 1) % 100 = 0
  · rw [if_pos h0, if_pos h0]
    by_cases h1 : r = (n + 1) / 100
    · rw [h1, pk_us, pk_us, show (n + 1) / 100 * 100 = n + 1 by omega, ← hg]
      exact ⟨rfl, rfl⟩
    · rw [pk_un h1, pk_un h1]
      exact h r (by omega)
  · rw [if_neg h0, if_neg h0]
    exact h r (by omega)
end
section
theorem wk_M0 {lf : Int32} {sq : Int64} {cx cy : Int32} {fx fy : Int32} {mx my : Nat → Int32} (h : mx 0 = fx ∧ my 0 = fy) : ob_M lf sq cx cy (fx, fy) mx my (1 - 1) := by
  intro r hr
  have h0 : r = 0 := by omega
  subst h0
  exact h
theorem wk_end {i : Nat} (h : i ≤ 40001) (h2 : (40000 : Int32) < nI i) : i = 40001 := by
  have h3 : nI 40000 < nI i := h2
  rw [nI_ltI (by omega) (by omega)] at h3
  omega
set_option maxHeartbeats 4000000 in
set_option maxRecDepth 100000 in
/-- Arc.walk -/
theorem ar_walk (l : Launch) (dC : Nat → ClassId) (dI : Nat → Nat → Nat) (cA cB : ClassId) (sz : Nat) (h0 : Nat) (qx : Nat) (qy : Nat) (ht : Int32) (cx : Int32) (cy : Int32) (lf : Int32) (sq : Int64) (ln : Int32) (of : Int32) (sr : Int32) (fx : Int32) (fy : Int32) (mx : Nat → Int32) (my : Nat → Int32) (ex : Int32) (ey : Int32) (hm : mx 0 = fx ∧ my 0 = fy) (hof : of = 0) (hsr : sr = 0) : Met l yX0_walk wsX0_walk ({ frames := 4, cells := 0, slots := 0, locals := 90 }) (va_Pc [.ref h0, .int ex, .int ey] (ct_P dC dI cA cB sz [(h0, .inr (0, [.ref qx, .ref qy, .int ht, .int cx, .int cy, .int lf, .long sq, .int ln, .int of, .int sr, .int fx, .int fy])), (qx, .inl (cA, 401, .inl mx)), (qy, .inl (cA, 401, .inl my))])) (va_Qi (fun (r : Int32) (u : (Nat → Int32) × (Nat → Int32) × Int32 × Int32 × Int32 × Int32 × Int32) => wk_P lf sq cx cy (fx, fy) (ex, ey) r u.1 u.2.1 u.2.2.1 u.2.2.2.1 u.2.2.2.2.1) (fun (u : (Nat → Int32) × (Nat → Int32) × Int32 × Int32 × Int32 × Int32 × Int32) => ct_B dC dI (va_A [(h0, .inr (0, [.ref qx, .ref qy, .int ht, .int cx, .int cy, .int lf, .long sq, .int ln, .int of, .int sr, .int fx, .int fy])), (qx, .inl (cA, 401, .inl mx)), (qy, .inl (cA, 401, .inl my))] sz) [(h0, .inr (0, [.ref qx, .ref qy, .int ht, .int cx, .int cy, .int lf, .long sq, .int u.2.2.1, .int u.2.2.2.1, .int u.2.2.2.2.1, .int u.2.2.2.2.2.1, .int u.2.2.2.2.2.2])), (qx, .inl (cA, 401, .inl u.1)), (qy, .inl (cA, 401, .inl u.2.1))]) (va_A [(h0, .inr (0, [.ref qx, .ref qy, .int ht, .int cx, .int cy, .int lf, .long sq, .int ln, .int of, .int sr, .int fx, .int fy])), (qx, .inl (cA, 401, .inl mx)), (qy, .inl (cA, 401, .inl my))] sz)) 0 0 (va_A [(h0, .inr (0, [.ref qx, .ref qy, .int ht, .int cx, .int cy, .int lf, .long sq, .int ln, .int of, .int sr, .int fx, .int fy])), (qx, .inl (cA, 401, .inl mx)), (qy, .inl (cA, 401, .inl my))] sz) := by
  refine Met.ofW (cc := cX0_walk) (maxL := 6) (ret := (some .boolean)) (by decide +kernel) rfl ?_
  intro p e s m args below meth c s₁ B hml hv
  obtain ⟨rfl, hsz, hP, hK, hD0, hZ, hN⟩ := hv
  have hx := B.exec
  have hb := B.bytes
  have hr := B.returns
  have hts := atoms_spec (ws := wsX0_walk) B.pre
  have hown : s.vm.findClass RX0 = some m.cls := findClass_of_methodNamed B.named
  have hlocks := B.notSynchronized
  have hiX0 : ∀ w ∈ u_ws RX0 TX0 12, w ∈ wsX0_walk := by decide +kernel
  subst hsz
  have hD := hD0.self (sz := s.heap.size)
  generalize hAe : va_A [(h0, .inr (0, [.ref qx, .ref qy, .int ht, .int cx, .int cy, .int lf, .long sq, .int ln, .int of, .int sr, .int fx, .int fy])), (qx, .inl (cA, 401, .inl mx)), (qy, .inl (cA, 401, .inl my))] s.heap.size = A at hD hZ ⊢
  have hA : ∀ q : Nat, s.heap.size ≤ q → A q := fun q h => by rw [← hAe]; exact Or.inr h
  have hl := lv_entry ([.ref h0, .int ex, .int ey]) (n := 6) (Nat.le_of_ble_eq_true rfl)
  rw [lg_entry_eq]
  generalize (lg_sl ([.ref h0, .int ex, .int ey]) ++ List.replicate (6 - (lg_sl ([.ref h0, .int ex, .int ey])).length) Slot.unset).toArray = ls at hl ⊢
  have hl : lv_has ls 6 [(0, .ref h0), (1, .int ex), (2, .int ey)] := hl
  generalize hHe : s.heap = H at hP ⊢
  have hS : va_S A s.heap H [] := by rw [hHe]; exact va_S.rf
  generalize ([] : List Loc) = locs at hS ⊢
  refine lv_aload_n hx hb dX0_walk_0 rfl (lv_at hl 0 rfl) ?_
  refine va_get (D := (dC, dI)) (ci := 0) (v := .long sq) (C := RX0) (T := TX0) (N := 12) hx hb hts hiX0 hown hK hP 0 rfl rfl 6 (by decide) (hts (.fieldLink RX0 32 "TickWalks$Arc" "square" "J") (List.mem_of_getElem? (l := wsX0_walk) (i := 1) rfl)) (fun _ h9 => h9) rfl dX0_walk_1 ?_
  refine lv_lconst (v := 1) hx hb dX0_walk_4 (by decide) ?_
  refine W.lcmp hx hb dX0_walk_5 ?_
  refine lv_if_lt (tgt := 20) hx hb dX0_walk_6 (by decide) (fun c_6 => ?_) (fun c_6 => ?_)
  · refine lv_iconst (v := 0) hx hb dX0_walk_20 (by decide) ?_
    have hP9 := hP.sub (ws' := [(h0, .inr (0, [.ref qx, .ref qy, .int ht, .int cx, .int cy, .int lf, .long sq, .int ln, .int of, .int sr, .int fx, .int fy])), (qx, .inl (cA, 401, .inl mx)), (qy, .inl (cA, 401, .inl my))]) [0, 1, 2] rfl
    have hD9 := hD.sub (ws' := [(h0, .inr (0, [.ref qx, .ref qy, .int ht, .int cx, .int cy, .int lf, .long sq, .int ln, .int of, .int sr, .int fx, .int fy])), (qx, .inl (cA, 401, .inl mx)), (qy, .inl (cA, 401, .inl my))]) [0, 1, 2] (by decide) rfl
    exact W.zret (v := 0) hx hb hr rfl (fun t9 ht9 hW9 => ⟨⟨0, (mx, my, ln, of, sr, fx, fy), rfl, Or.inr ⟨rfl, Or.inl (fun h => absurd h.1 (Int64.not_le.mpr ((lg_cmp_lt _ _).mp c_6)))⟩, by rw [ht9]; exact hP9, hD9⟩, hS.F ht9⟩) hS.2.2 dX0_walk_21
  · refine lv_aload_n hx hb dX0_walk_9 rfl (lv_at hl 0 rfl) ?_
    refine va_get (D := (dC, dI)) (ci := 0) (v := .long sq) (C := RX0) (T := TX0) (N := 12) hx hb hts hiX0 hown hK hP 0 rfl rfl 6 (by decide) (hts (.fieldLink RX0 32 "TickWalks$Arc" "square" "J") (List.mem_of_getElem? (l := wsX0_walk) (i := 1) rfl)) (fun _ h9 => h9) rfl dX0_walk_10 ?_
    refine lv_ldc2 (v := 25000000) hx hb hown (hts (.constantLong RX0 59 (25000000)) (List.mem_of_getElem? (l := wsX0_walk) (i := 2) rfl)) dX0_walk_13 ?_
    refine W.lcmp hx hb dX0_walk_16 ?_
    refine lv_if_le (tgt := 22) hx hb dX0_walk_17 (by decide) (fun c_17 => ?_) (fun c_17 => ?_)
    · refine lv_iconst (v := 1) hx hb dX0_walk_22 (by decide) ?_
      refine lv_istore_n (lv' := [(3, .int 1), (0, .ref h0), (1, .int ex), (2, .int ey)]) hx hb dX0_walk_23 rfl hl (by decide) rfl (fun ls hl => ?_)
      have hsq : 1 ≤ sq ∧ sq ≤ 25000000 := ⟨Int64.not_lt.mp (fun h => c_6 ((lg_cmp_lt _ _).mpr h)), (lg_cmp_le _ _).mp c_17⟩
      refine ct_loop (σ := Nat × (Nat → Int32) × (Nat → Int32) × Int32 × Int32 × Int32 × Int32) (fun n9 w9 H locs ls => n9 = 40001 - w9.1 ∧ (1 ≤ w9.1 ∧ w9.1 ≤ 40001) ∧ ((w9.2.2.2.2.2.1, w9.2.2.2.2.2.2) = ob_p lf sq cx cy (fx, fy) (w9.1 - 1)) ∧ (ob_M lf sq cx cy (fx, fy) w9.2.1 w9.2.2.1 (w9.1 - 1)) ∧ (w9.2.2.2.1 = ob_o lf sq cx cy (fx, fy) (w9.1 - 1)) ∧ (w9.2.2.2.2.1 = 0) ∧ (∀ j, 1 ≤ j → j ≤ w9.1 - 1 → ob_p lf sq cx cy (fx, fy) j ≠ (ex, ey)) ∧ (∀ j, j < w9.1 - 1 → ¬ ob_d lf sq cx cy (ob_p lf sq cx cy (fx, fy) j) < 0) ∧ va_P (dC, dI) vwCl [(h0, .inr (0, [.ref qx, .ref qy, .int ht, .int cx, .int cy, .int lf, .long sq, .int ln, .int w9.2.2.2.1, .int w9.2.2.2.2.1, .int w9.2.2.2.2.2.1, .int w9.2.2.2.2.2.2])), (qx, .inl (cA, 401, .inl w9.2.1)), (qy, .inl (cA, 401, .inl w9.2.2.1))] H ∧ va_D A [(h0, .inr (0, [.ref qx, .ref qy, .int ht, .int cx, .int cy, .int lf, .long sq, .int ln, .int w9.2.2.2.1, .int w9.2.2.2.2.1, .int w9.2.2.2.2.2.1, .int w9.2.2.2.2.2.2])), (qx, .inl (cA, 401, .inl w9.2.1)), (qy, .inl (cA, 401, .inl w9.2.2.1))] ∧ va_S A s.heap H locs ∧ lv_has ls 6 [(3, .int (nI w9.1)), (0, .ref h0), (1, .int ex), (2, .int ey)]) (fun n9 w9 H locs ls hJ ih_24 => ?_) (40001 - 1) (1, mx, my, of, sr, fx, fy) _ _ _ ⟨rfl, (⟨Nat.le_refl 1, by omega⟩), rfl, (wk_M0 hm), hof, hsr, (fun j h1 h2 => absurd h1 (by omega)), (fun j h1 => absurd h1 (by omega)), (hP.sub [0, 1, 2] rfl), (hD.sub [0, 1, 2] (by decide) rfl), hS, (lv_sub hl [0, 1, 2, 3] rfl)⟩
      obtain ⟨i, bx, bz, bo, bs, wx, wy⟩ := w9
      obtain ⟨hn_24, hi, hO, hM, hbo, hbs, hT, hd, hP, hD, hS, hl⟩ := hJ
      have hn_24 : n9 = 40001 - i := hn_24
      have hi : 1 ≤ i ∧ i ≤ 40001 := hi
      have hO : (wx, wy) = ob_p lf sq cx cy (fx, fy) (i - 1) := hO
      have hM : ob_M lf sq cx cy (fx, fy) bx bz (i - 1) := hM
      have hbo : bo = ob_o lf sq cx cy (fx, fy) (i - 1) := hbo
      have hbs : bs = 0 := hbs
      have hT : ∀ j, 1 ≤ j → j ≤ i - 1 → ob_p lf sq cx cy (fx, fy) j ≠ (ex, ey) := hT
      have hd : ∀ j, j < i - 1 → ¬ ob_d lf sq cx cy (ob_p lf sq cx cy (fx, fy) j) < 0 := hd
      have hP : va_P (dC, dI) vwCl [(h0, .inr (0, [.ref qx, .ref qy, .int ht, .int cx, .int cy, .int lf, .long sq, .int ln, .int bo, .int bs, .int wx, .int wy])), (qx, .inl (cA, 401, .inl bx)), (qy, .inl (cA, 401, .inl bz))] H := hP
      have hD : va_D A [(h0, .inr (0, [.ref qx, .ref qy, .int ht, .int cx, .int cy, .int lf, .long sq, .int ln, .int bo, .int bs, .int wx, .int wy])), (qx, .inl (cA, 401, .inl bx)), (qy, .inl (cA, 401, .inl bz))] := hD
      have hl : lv_has ls 6 [(3, .int (nI i)), (0, .ref h0), (1, .int ex), (2, .int ey)] := hl
      refine lv_iload_n hx hb dX0_walk_24 rfl (lv_at hl 0 rfl) ?_
      refine lv_ldc (v := 40000) hx hb hown (hts (.constant RX0 61 (40000)) (List.mem_of_getElem? (l := wsX0_walk) (i := 3) rfl)) dX0_walk_25 ?_
      refine lv_icmp_gt (tgt := 131) hx hb dX0_walk_27 (by decide) (fun c_27 => ?_) (fun c_27 => ?_)
      · refine lv_iconst (v := 0) hx hb dX0_walk_131 (by decide) ?_
        have hP9 := hP.sub (ws' := [(h0, .inr (0, [.ref qx, .ref qy, .int ht, .int cx, .int cy, .int lf, .long sq, .int ln, .int bo, .int bs, .int wx, .int wy])), (qx, .inl (cA, 401, .inl bx)), (qy, .inl (cA, 401, .inl bz))]) [0, 1, 2] rfl
        have hD9 := hD.sub (ws' := [(h0, .inr (0, [.ref qx, .ref qy, .int ht, .int cx, .int cy, .int lf, .long sq, .int ln, .int bo, .int bs, .int wx, .int wy])), (qx, .inl (cA, 401, .inl bx)), (qy, .inl (cA, 401, .inl bz))]) [0, 1, 2] (by decide) rfl
        exact W.zret (v := 0) hx hb hr rfl (fun t9 ht9 hW9 => ⟨⟨0, (bx, bz, ln, bo, bs, wx, wy), rfl, Or.inr ⟨rfl, Or.inr (ob_no_e (fun j h1 h2 => hT j h1 (by have := wk_end hi.2 c_27; omega)))⟩, by rw [ht9]; exact hP9, hD9⟩, hS.F ht9⟩) hS.2.2 dX0_walk_132
      · have hi2 : i ≤ 40000 := by
          rcases Nat.lt_or_ge 40000 i with h | h
          · exact absurd (show (40000 : Int32) < nI i from nI_lt (a := 40000) h (by omega)) c_27
          · exact h
        refine lv_aload_n hx hb dX0_walk_30 rfl (lv_at hl 1 rfl) ?_
        refine va_get (D := (dC, dI)) (ci := 0) (v := .int wx) (C := RX0) (T := TX0) (N := 12) hx hb hts hiX0 hown hK hP 0 rfl rfl 10 (by decide) (hts (.fieldLink RX0 45 "TickWalks$Arc" "footX" "I") (List.mem_of_getElem? (l := wsX0_walk) (i := 4) rfl)) (fun _ h9 => h9) rfl dX0_walk_31 ?_
        refine lv_istore (lv' := [(4, .int wx), (3, .int (nI i)), (0, .ref h0), (1, .int ex), (2, .int ey)]) hx hb dX0_walk_34 hl (by decide) rfl (fun ls hl => ?_)
        refine lv_aload_n hx hb dX0_walk_36 rfl (lv_at hl 2 rfl) ?_
        refine va_get (D := (dC, dI)) (ci := 0) (v := .int wy) (C := RX0) (T := TX0) (N := 12) hx hb hts hiX0 hown hK hP 0 rfl rfl 11 (by decide) (hts (.fieldLink RX0 48 "TickWalks$Arc" "footY" "I") (List.mem_of_getElem? (l := wsX0_walk) (i := 5) rfl)) (fun _ h9 => h9) rfl dX0_walk_37 ?_
        refine lv_istore (lv' := [(5, .int wy), (4, .int wx), (3, .int (nI i)), (0, .ref h0), (1, .int ex), (2, .int ey)]) hx hb dX0_walk_40 hl (by decide) rfl (fun ls hl => ?_)
        refine lv_aload_n hx hb dX0_walk_42 rfl (lv_at hl 3 rfl) ?_
        refine ct_calli (va_runV (As := []) (rest := []) ⟨hx, hb, hml, hown, hts⟩ (ar_step l dC dI cA cB H.size h0 qx qy ht cx cy lf sq ln bo bs wx wy ) (cwV 0 hts gX0_walk_X0_step rfl rfl rfl (by decide +kernel) ⟨Nat.le_of_ble_eq_true rfl, Nat.le_of_ble_eq_true rfl⟩) ⟨ct_blind, va_recv hK hP (ci := 0) (q0 := 0) rfl rfl, ct_pre hP hD hK hZ hN hS hA [0] rfl (by decide)⟩ rfl rfl hl.1 rfl (lv_room (Nat.le_of_ble_eq_true rfl)) dX0_walk_43 ⟨Nat.le_of_ble_eq_true rfl, Nat.le_of_ble_eq_true rfl⟩) hP hD hS hA [0] [1, 2] rfl (wr := [(qx, .inl (cA, 401, .inl bx)), (qy, .inl (cA, 401, .inl bz))]) rfl (by decide) (by decide) (fun r_1 u9 H locs hw_1 hP hD hS => ?_)
        obtain ⟨gx_1, gy_1⟩ := u9
        have hw_1 : sp_P lf sq wx cx wy cy r_1 gx_1 gy_1 := hw_1
        have hP : va_P (dC, dI) vwCl [(qx, .inl (cA, 401, .inl bx)), (qy, .inl (cA, 401, .inl bz)), (h0, .inr (0, [.ref qx, .ref qy, .int ht, .int cx, .int cy, .int lf, .long sq, .int ln, .int bo, .int bs, .int gx_1, .int gy_1]))] H := hP
        have hD : va_D A [(qx, .inl (cA, 401, .inl bx)), (qy, .inl (cA, 401, .inl bz)), (h0, .inr (0, [.ref qx, .ref qy, .int ht, .int cx, .int cy, .int lf, .long sq, .int ln, .int bo, .int bs, .int gx_1, .int gy_1]))] := hD
        obtain ⟨hq1, hq2⟩ := sp_ob hw_1
        have hO1 : (gx_1, gy_1) = ob_p lf sq cx cy (fx, fy) (i - 1 + 1) := by rw [ob_p, ← hO]; exact hq1
        refine lv_if_ne (tgt := 51) hx hb dX0_walk_46 (by decide) (fun c_46 => ?_) (fun c_46 => ?_)
        · obtain ⟨hr1, hnd, j, hj, hdj, egx, egy⟩ := hq2.resolve_left (fun h => c_46 h.1)
          have hga : ga_m (gx_1 - wx) (gy_1 - wy) 0 = 1 := by rw [egx, egy]; exact sp_ga hj
          refine lv_aload_n hx hb dX0_walk_51 rfl (lv_at hl 3 rfl) ?_
          refine lv_iload_n hx hb dX0_walk_52 rfl (lv_at hl 2 rfl) ?_
          refine ct_callv (va_runV (As := [.int (nI i)]) (rest := []) ⟨hx, hb, hml, hown, hts⟩ (ar_mark l dC dI cA cB H.size h0 qx qy ht cx cy lf sq ln bo bs gx_1 gy_1 bx bz i (by omega)) (cwV 1 hts gX0_walk_X0_mark rfl rfl rfl (by decide +kernel) ⟨Nat.le_of_ble_eq_true rfl, Nat.le_of_ble_eq_true rfl⟩) ⟨ct_blind, va_recv hK hP (ci := 0) (q0 := 2) rfl rfl, ct_pre hP hD hK hZ hN hS hA [2, 0, 1] rfl (by decide)⟩ rfl rfl hl.1 rfl (lv_room (Nat.le_of_ble_eq_true rfl)) dX0_walk_53 ⟨Nat.le_of_ble_eq_true rfl, Nat.le_of_ble_eq_true rfl⟩) hP hD hS hA [2, 0, 1] [] rfl (wr := []) rfl (by decide) (by decide) (fun u9 H locs hw_2 hP hD hS => ?_)
          obtain ⟨nx_2, ny_2⟩ := u9
          have hw_2 : nx_2 = mk_u bx i gx_1 ∧ ny_2 = mk_u bz i gy_1 := hw_2
          have hP : va_P (dC, dI) vwCl [(h0, .inr (0, [.ref qx, .ref qy, .int ht, .int cx, .int cy, .int lf, .long sq, .int ln, .int bo, .int bs, .int gx_1, .int gy_1])), (qx, .inl (cA, 401, .inl nx_2)), (qy, .inl (cA, 401, .inl ny_2))] H := hP
          have hD : va_D A [(h0, .inr (0, [.ref qx, .ref qy, .int ht, .int cx, .int cy, .int lf, .long sq, .int ln, .int bo, .int bs, .int gx_1, .int gy_1])), (qx, .inl (cA, 401, .inl nx_2)), (qy, .inl (cA, 401, .inl ny_2))] := hD
          refine lv_aload_n hx hb dX0_walk_56 rfl (lv_at hl 3 rfl) ?_
          refine lv_aload_n hx hb dX0_walk_57 rfl (lv_at hl 3 rfl) ?_
          refine va_get (D := (dC, dI)) (ci := 0) (v := .int gx_1) (C := RX0) (T := TX0) (N := 12) hx hb hts hiX0 hown hK hP 0 rfl rfl 10 (by decide) (hts (.fieldLink RX0 45 "TickWalks$Arc" "footX" "I") (List.mem_of_getElem? (l := wsX0_walk) (i := 4) rfl)) (fun _ h9 => h9) rfl dX0_walk_58 ?_
          refine lv_iload hx hb dX0_walk_61 (lv_at hl 1 rfl) ?_
          refine lv_isub hx hb dX0_walk_63 ?_
          refine lv_aload_n hx hb dX0_walk_64 rfl (lv_at hl 3 rfl) ?_
          refine va_get (D := (dC, dI)) (ci := 0) (v := .int gy_1) (C := RX0) (T := TX0) (N := 12) hx hb hts hiX0 hown hK hP 0 rfl rfl 11 (by decide) (hts (.fieldLink RX0 48 "TickWalks$Arc" "footY" "I") (List.mem_of_getElem? (l := wsX0_walk) (i := 5) rfl)) (fun _ h9 => h9) rfl dX0_walk_65 ?_
          refine lv_iload hx hb dX0_walk_68 (lv_at hl 0 rfl) ?_
          refine lv_isub hx hb dX0_walk_70 ?_
          refine ct_callv (va_runV (As := [.int (gx_1 - wx), .int (gy_1 - wy)]) (rest := []) ⟨hx, hb, hml, hown, hts⟩ (ar_measure l dC dI cA cB H.size h0 qx qy ht cx cy lf sq ln bo bs gx_1 gy_1 (gx_1 - wx) (gy_1 - wy) ) (cwV 2 hts gX0_walk_X0_measure rfl rfl rfl (by decide +kernel) ⟨Nat.le_of_ble_eq_true rfl, Nat.le_of_ble_eq_true rfl⟩) ⟨ct_blind, va_recv hK hP (ci := 0) (q0 := 0) rfl rfl, ct_pre hP hD hK hZ hN hS hA [0] rfl (by decide)⟩ rfl rfl hl.1 rfl (lv_room (Nat.le_of_ble_eq_true rfl)) dX0_walk_71 ⟨Nat.le_of_ble_eq_true rfl, Nat.le_of_ble_eq_true rfl⟩) hP hD hS hA [0] [1, 2] rfl (wr := [(qx, .inl (cA, 401, .inl nx_2)), (qy, .inl (cA, 401, .inl ny_2))]) rfl (by decide) (by decide) (fun u9 H locs hw_3 hP hD hS => ?_)
          obtain ⟨no_3, ns_3⟩ := u9
          have hw_3 : no_3 = mx_i bo (ab_l (sq_c gx_1 cx gy_1 cy - sq)).toInt32 ∧ ((ga_m (gx_1 - wx) (gy_1 - wy) 0 = 1 ∧ ns_3 = bs) ∨ (¬ ga_m (gx_1 - wx) (gy_1 - wy) 0 = 1 ∧ ns_3 = bs + 1)) := hw_3
          have hP : va_P (dC, dI) vwCl [(qx, .inl (cA, 401, .inl nx_2)), (qy, .inl (cA, 401, .inl ny_2)), (h0, .inr (0, [.ref qx, .ref qy, .int ht, .int cx, .int cy, .int lf, .long sq, .int ln, .int no_3, .int ns_3, .int gx_1, .int gy_1]))] H := hP
          have hD : va_D A [(qx, .inl (cA, 401, .inl nx_2)), (qy, .inl (cA, 401, .inl ny_2)), (h0, .inr (0, [.ref qx, .ref qy, .int ht, .int cx, .int cy, .int lf, .long sq, .int ln, .int no_3, .int ns_3, .int gx_1, .int gy_1]))] := hD
          have hM2 : ob_M lf sq cx cy (fx, fy) nx_2 ny_2 (i - 1 + 1) := by rw [hw_2.1, hw_2.2, show i = i - 1 + 1 by omega]; exact ob_M_mk hM hO1
          have ho2 : no_3 = ob_o lf sq cx cy (fx, fy) (i - 1 + 1) := by rw [hw_3.1, hbo, ob_o, ← hO1]
          have hs2 : ns_3 = 0 := by
            rcases hw_3.2 with h | h
            · exact h.2.trans hbs
            · exact absurd hga h.1
          have hd2 : ∀ j, j < i - 1 + 1 → ¬ ob_d lf sq cx cy (ob_p lf sq cx cy (fx, fy) j) < 0 := fun j h => by
            rcases Nat.lt_or_ge j (i - 1) with a | a
            · exact hd j a
            · rw [show j = i - 1 by omega, ← hO]; exact hnd
          rw [show i - 1 + 1 = i by omega] at hO1 hM2 ho2 hd2
          refine lv_aload_n hx hb dX0_walk_74 rfl (lv_at hl 3 rfl) ?_
          refine va_get (D := (dC, dI)) (ci := 0) (v := .int gx_1) (C := RX0) (T := TX0) (N := 12) hx hb hts hiX0 hown hK hP 2 rfl rfl 10 (by decide) (hts (.fieldLink RX0 45 "TickWalks$Arc" "footX" "I") (List.mem_of_getElem? (l := wsX0_walk) (i := 4) rfl)) (fun _ h9 => h9) rfl dX0_walk_75 ?_
          refine lv_iload_n hx hb dX0_walk_78 rfl (lv_at hl 4 rfl) ?_
          refine lv_icmp_ne (tgt := 97) hx hb dX0_walk_79 (by decide) (fun c_79 => ?_) (fun c_79 => ?_)
          · have hne : (gx_1, gy_1) ≠ (ex, ey) := fun h => c_79 (congrArg Prod.fst h)
            have hT2 : ∀ j, 1 ≤ j → j ≤ i → ob_p lf sq cx cy (fx, fy) j ≠ (ex, ey) := fun j h1 h2 => by
              rcases Nat.lt_or_ge (i - 1) j with a | a
              · rw [show j = i by omega, ← hO1]; exact hne
              · exact hT j h1 a
            refine lv_aload_n hx hb dX0_walk_97 rfl (lv_at hl 3 rfl) ?_
            refine va_get (D := (dC, dI)) (ci := 0) (v := .int gx_1) (C := RX0) (T := TX0) (N := 12) hx hb hts hiX0 hown hK hP 2 rfl rfl 10 (by decide) (hts (.fieldLink RX0 45 "TickWalks$Arc" "footX" "I") (List.mem_of_getElem? (l := wsX0_walk) (i := 4) rfl)) (fun _ h9 => h9) rfl dX0_walk_98 ?_
            refine lv_aload_n hx hb dX0_walk_101 rfl (lv_at hl 3 rfl) ?_
            refine va_get (D := (dC, dI)) (ci := 0) (v := .ref qx) (C := RX0) (T := TX0) (N := 12) hx hb hts hiX0 hown hK hP 2 rfl rfl 0 (by decide) (hts (.fieldLink RX0 9 "TickWalks$Arc" "markX" "[I") (List.mem_of_getElem? (l := wsX0_walk) (i := 7) rfl)) (fun _ h9 => h9) rfl dX0_walk_102 ?_
            refine lv_iconst (v := 0) hx hb dX0_walk_105 (by decide) ?_
            refine va_iald hx hb hK hP 0 0 rfl rfl (show vp_in 0 401 by unfold vp_in; decide) dX0_walk_106 ?_
            refine ct_topi (y := nx_2 0) (congrArg nx_2 (show Int32.toNatClampNeg 0 = 0 by decide)) ?_
            refine lv_icmp_ne (tgt := 125) hx hb dX0_walk_107 (by decide) (fun c_107 => ?_) (fun c_107 => ?_)
            · refine lv_iinc (v := nI (i + 1)) (lv' := [(3, .int (nI (i + 1))), (5, .int wy), (4, .int wx), (0, .ref h0), (1, .int ex), (2, .int ey)]) hx hb dX0_walk_125 hl (k := 2) rfl (nI_1 i) (by decide) rfl (fun ls hl => ?_)
              refine lv_goto (tgt := 24) hx hb dX0_walk_128 (by decide) ?_
              exact ih_24 _ ((i + 1), nx_2, ny_2, no_3, ns_3, gx_1, gy_1) _ _ _ (by rw [hn_24]; omega) ⟨rfl, (⟨by omega, by omega⟩), hO1, hM2, ho2, hs2, hT2, hd2, (hP.sub [2, 0, 1] rfl), (hD.sub [2, 0, 1] (by decide) rfl), hS, (lv_sub hl [0, 3, 4, 5] rfl)⟩
            · refine lv_aload_n hx hb dX0_walk_110 rfl (lv_at hl 3 rfl) ?_
              refine va_get (D := (dC, dI)) (ci := 0) (v := .int gy_1) (C := RX0) (T := TX0) (N := 12) hx hb hts hiX0 hown hK hP 2 rfl rfl 11 (by decide) (hts (.fieldLink RX0 48 "TickWalks$Arc" "footY" "I") (List.mem_of_getElem? (l := wsX0_walk) (i := 5) rfl)) (fun _ h9 => h9) rfl dX0_walk_111 ?_
              refine lv_aload_n hx hb dX0_walk_114 rfl (lv_at hl 3 rfl) ?_
              refine va_get (D := (dC, dI)) (ci := 0) (v := .ref qy) (C := RX0) (T := TX0) (N := 12) hx hb hts hiX0 hown hK hP 2 rfl rfl 1 (by decide) (hts (.fieldLink RX0 15 "TickWalks$Arc" "markY" "[I") (List.mem_of_getElem? (l := wsX0_walk) (i := 8) rfl)) (fun _ h9 => h9) rfl dX0_walk_115 ?_
              refine lv_iconst (v := 0) hx hb dX0_walk_118 (by decide) ?_
              refine va_iald hx hb hK hP 1 0 rfl rfl (show vp_in 0 401 by unfold vp_in; decide) dX0_walk_119 ?_
              refine ct_topi (y := ny_2 0) (congrArg ny_2 (show Int32.toNatClampNeg 0 = 0 by decide)) ?_
              refine lv_icmp_ne (tgt := 125) hx hb dX0_walk_120 (by decide) (fun c_120 => ?_) (fun c_120 => ?_)
              · refine lv_iinc (v := nI (i + 1)) (lv' := [(3, .int (nI (i + 1))), (5, .int wy), (4, .int wx), (0, .ref h0), (1, .int ex), (2, .int ey)]) hx hb dX0_walk_125 hl (k := 2) rfl (nI_1 i) (by decide) rfl (fun ls hl => ?_)
                refine lv_goto (tgt := 24) hx hb dX0_walk_128 (by decide) ?_
                exact ih_24 _ ((i + 1), nx_2, ny_2, no_3, ns_3, gx_1, gy_1) _ _ _ (by rw [hn_24]; omega) ⟨rfl, (⟨by omega, by omega⟩), hO1, hM2, ho2, hs2, hT2, hd2, (hP.sub [2, 0, 1] rfl), (hD.sub [2, 0, 1] (by decide) rfl), hS, (lv_sub hl [0, 3, 4, 5] rfl)⟩
              · refine lv_iconst (v := 0) hx hb dX0_walk_123 (by decide) ?_
                have hP9 := hP.sub (ws' := [(h0, .inr (0, [.ref qx, .ref qy, .int ht, .int cx, .int cy, .int lf, .long sq, .int ln, .int no_3, .int ns_3, .int gx_1, .int gy_1])), (qx, .inl (cA, 401, .inl nx_2)), (qy, .inl (cA, 401, .inl ny_2))]) [2, 0, 1] rfl
                have hD9 := hD.sub (ws' := [(h0, .inr (0, [.ref qx, .ref qy, .int ht, .int cx, .int cy, .int lf, .long sq, .int ln, .int no_3, .int ns_3, .int gx_1, .int gy_1])), (qx, .inl (cA, 401, .inl nx_2)), (qy, .inl (cA, 401, .inl ny_2))]) [2, 0, 1] (by decide) rfl
                exact W.zret (v := 0) hx hb hr rfl (fun t9 ht9 hW9 => ⟨⟨0, (nx_2, ny_2, ln, no_3, ns_3, gx_1, gy_1), rfl, Or.inr ⟨rfl, Or.inr (ob_no (j := i) (by omega) (by rw [← hO1, c_107, c_120]; exact Prod.ext (hM2 0 (Nat.zero_le _)).1 (hM2 0 (Nat.zero_le _)).2) hT2)⟩, by rw [ht9]; exact hP9, hD9⟩, hS.F ht9⟩) hS.2.2 dX0_walk_124
          · refine lv_aload_n hx hb dX0_walk_82 rfl (lv_at hl 3 rfl) ?_
            refine va_get (D := (dC, dI)) (ci := 0) (v := .int gy_1) (C := RX0) (T := TX0) (N := 12) hx hb hts hiX0 hown hK hP 2 rfl rfl 11 (by decide) (hts (.fieldLink RX0 48 "TickWalks$Arc" "footY" "I") (List.mem_of_getElem? (l := wsX0_walk) (i := 5) rfl)) (fun _ h9 => h9) rfl dX0_walk_83 ?_
            refine lv_iload_n hx hb dX0_walk_86 rfl (lv_at hl 5 rfl) ?_
            refine lv_icmp_ne (tgt := 97) hx hb dX0_walk_87 (by decide) (fun c_87 => ?_) (fun c_87 => ?_)
            · have hne : (gx_1, gy_1) ≠ (ex, ey) := fun h => c_87 (congrArg Prod.snd h)
              have hT2 : ∀ j, 1 ≤ j → j ≤ i → ob_p lf sq cx cy (fx, fy) j ≠ (ex, ey) := fun j h1 h2 => by
                rcases Nat.lt_or_ge (i - 1) j with a | a
                · rw [show j = i by omega, ← hO1]; exact hne
                · exact hT j h1 a
              refine lv_aload_n hx hb dX0_walk_97 rfl (lv_at hl 3 rfl) ?_
              refine va_get (D := (dC, dI)) (ci := 0) (v := .int gx_1) (C := RX0) (T := TX0) (N := 12) hx hb hts hiX0 hown hK hP 2 rfl rfl 10 (by decide) (hts (.fieldLink RX0 45 "TickWalks$Arc" "footX" "I") (List.mem_of_getElem? (l := wsX0_walk) (i := 4) rfl)) (fun _ h9 => h9) rfl dX0_walk_98 ?_
              refine lv_aload_n hx hb dX0_walk_101 rfl (lv_at hl 3 rfl) ?_
              refine va_get (D := (dC, dI)) (ci := 0) (v := .ref qx) (C := RX0) (T := TX0) (N := 12) hx hb hts hiX0 hown hK hP 2 rfl rfl 0 (by decide) (hts (.fieldLink RX0 9 "TickWalks$Arc" "markX" "[I") (List.mem_of_getElem? (l := wsX0_walk) (i := 7) rfl)) (fun _ h9 => h9) rfl dX0_walk_102 ?_
              refine lv_iconst (v := 0) hx hb dX0_walk_105 (by decide) ?_
              refine va_iald hx hb hK hP 0 0 rfl rfl (show vp_in 0 401 by unfold vp_in; decide) dX0_walk_106 ?_
              refine ct_topi (y := nx_2 0) (congrArg nx_2 (show Int32.toNatClampNeg 0 = 0 by decide)) ?_
              refine lv_icmp_ne (tgt := 125) hx hb dX0_walk_107 (by decide) (fun c_107 => ?_) (fun c_107 => ?_)
              · refine lv_iinc (v := nI (i + 1)) (lv' := [(3, .int (nI (i + 1))), (5, .int wy), (4, .int wx), (0, .ref h0), (1, .int ex), (2, .int ey)]) hx hb dX0_walk_125 hl (k := 2) rfl (nI_1 i) (by decide) rfl (fun ls hl => ?_)
                refine lv_goto (tgt := 24) hx hb dX0_walk_128 (by decide) ?_
                exact ih_24 _ ((i + 1), nx_2, ny_2, no_3, ns_3, gx_1, gy_1) _ _ _ (by rw [hn_24]; omega) ⟨rfl, (⟨by omega, by omega⟩), hO1, hM2, ho2, hs2, hT2, hd2, (hP.sub [2, 0, 1] rfl), (hD.sub [2, 0, 1] (by decide) rfl), hS, (lv_sub hl [0, 3, 4, 5] rfl)⟩
              · refine lv_aload_n hx hb dX0_walk_110 rfl (lv_at hl 3 rfl) ?_
                refine va_get (D := (dC, dI)) (ci := 0) (v := .int gy_1) (C := RX0) (T := TX0) (N := 12) hx hb hts hiX0 hown hK hP 2 rfl rfl 11 (by decide) (hts (.fieldLink RX0 48 "TickWalks$Arc" "footY" "I") (List.mem_of_getElem? (l := wsX0_walk) (i := 5) rfl)) (fun _ h9 => h9) rfl dX0_walk_111 ?_
                refine lv_aload_n hx hb dX0_walk_114 rfl (lv_at hl 3 rfl) ?_
                refine va_get (D := (dC, dI)) (ci := 0) (v := .ref qy) (C := RX0) (T := TX0) (N := 12) hx hb hts hiX0 hown hK hP 2 rfl rfl 1 (by decide) (hts (.fieldLink RX0 15 "TickWalks$Arc" "markY" "[I") (List.mem_of_getElem? (l := wsX0_walk) (i := 8) rfl)) (fun _ h9 => h9) rfl dX0_walk_115 ?_
                refine lv_iconst (v := 0) hx hb dX0_walk_118 (by decide) ?_
                refine va_iald hx hb hK hP 1 0 rfl rfl (show vp_in 0 401 by unfold vp_in; decide) dX0_walk_119 ?_
                refine ct_topi (y := ny_2 0) (congrArg ny_2 (show Int32.toNatClampNeg 0 = 0 by decide)) ?_
                refine lv_icmp_ne (tgt := 125) hx hb dX0_walk_120 (by decide) (fun c_120 => ?_) (fun c_120 => ?_)
                · refine lv_iinc (v := nI (i + 1)) (lv' := [(3, .int (nI (i + 1))), (5, .int wy), (4, .int wx), (0, .ref h0), (1, .int ex), (2, .int ey)]) hx hb dX0_walk_125 hl (k := 2) rfl (nI_1 i) (by decide) rfl (fun ls hl => ?_)
                  refine lv_goto (tgt := 24) hx hb dX0_walk_128 (by decide) ?_
                  exact ih_24 _ ((i + 1), nx_2, ny_2, no_3, ns_3, gx_1, gy_1) _ _ _ (by rw [hn_24]; omega) ⟨rfl, (⟨by omega, by omega⟩), hO1, hM2, ho2, hs2, hT2, hd2, (hP.sub [2, 0, 1] rfl), (hD.sub [2, 0, 1] (by decide) rfl), hS, (lv_sub hl [0, 3, 4, 5] rfl)⟩
                · refine lv_iconst (v := 0) hx hb dX0_walk_123 (by decide) ?_
                  have hP9 := hP.sub (ws' := [(h0, .inr (0, [.ref qx, .ref qy, .int ht, .int cx, .int cy, .int lf, .long sq, .int ln, .int no_3, .int ns_3, .int gx_1, .int gy_1])), (qx, .inl (cA, 401, .inl nx_2)), (qy, .inl (cA, 401, .inl ny_2))]) [2, 0, 1] rfl
                  have hD9 := hD.sub (ws' := [(h0, .inr (0, [.ref qx, .ref qy, .int ht, .int cx, .int cy, .int lf, .long sq, .int ln, .int no_3, .int ns_3, .int gx_1, .int gy_1])), (qx, .inl (cA, 401, .inl nx_2)), (qy, .inl (cA, 401, .inl ny_2))]) [2, 0, 1] (by decide) rfl
                  exact W.zret (v := 0) hx hb hr rfl (fun t9 ht9 hW9 => ⟨⟨0, (nx_2, ny_2, ln, no_3, ns_3, gx_1, gy_1), rfl, Or.inr ⟨rfl, Or.inr (ob_no (j := i) (by omega) (by rw [← hO1, c_107, c_120]; exact Prod.ext (hM2 0 (Nat.zero_le _)).1 (hM2 0 (Nat.zero_le _)).2) hT2)⟩, by rw [ht9]; exact hP9, hD9⟩, hS.F ht9⟩) hS.2.2 dX0_walk_124
            · refine lv_aload_n hx hb dX0_walk_90 rfl (lv_at hl 3 rfl) ?_
              refine lv_iload_n hx hb dX0_walk_91 rfl (lv_at hl 2 rfl) ?_
              refine va_put (D := (dC, dI)) (ci := 0) (v := .int (nI i)) (ty := .int) (C := RX0) (T := TX0) (N := 12) hx hb hts hiX0 tyX0 tyX0_ok nmX0 hown hK hP hD hS 2 rfl rfl 7 (by decide) (hts (.fieldLink RX0 36 "TickWalks$Arc" "length" "I") (List.mem_of_getElem? (l := wsX0_walk) (i := 6) rfl)) (fun _ h9 => h9) rfl (by decide +kernel) rfl rfl (Nat.le_of_ble_eq_true rfl) dX0_walk_92 (fun H locs hP hD hS => ?_)
              have hP : va_P (dC, dI) vwCl [(qx, .inl (cA, 401, .inl nx_2)), (qy, .inl (cA, 401, .inl ny_2)), (h0, .inr (0, [.ref qx, .ref qy, .int ht, .int cx, .int cy, .int lf, .long sq, .int (nI i), .int no_3, .int ns_3, .int gx_1, .int gy_1]))] H := hP
              have hD : va_D A [(qx, .inl (cA, 401, .inl nx_2)), (qy, .inl (cA, 401, .inl ny_2)), (h0, .inr (0, [.ref qx, .ref qy, .int ht, .int cx, .int cy, .int lf, .long sq, .int (nI i), .int no_3, .int ns_3, .int gx_1, .int gy_1]))] := hD
              refine lv_iconst (v := 1) hx hb dX0_walk_95 (by decide) ?_
              have hP9 := hP.sub (ws' := [(h0, .inr (0, [.ref qx, .ref qy, .int ht, .int cx, .int cy, .int lf, .long sq, .int (nI i), .int no_3, .int ns_3, .int gx_1, .int gy_1])), (qx, .inl (cA, 401, .inl nx_2)), (qy, .inl (cA, 401, .inl ny_2))]) [2, 0, 1] rfl
              have hD9 := hD.sub (ws' := [(h0, .inr (0, [.ref qx, .ref qy, .int ht, .int cx, .int cy, .int lf, .long sq, .int (nI i), .int no_3, .int ns_3, .int gx_1, .int gy_1])), (qx, .inl (cA, 401, .inl nx_2)), (qy, .inl (cA, 401, .inl ny_2))]) [2, 0, 1] (by decide) rfl
              exact W.zret (v := 1) hx hb hr rfl (fun t9 ht9 hW9 => ⟨⟨1, (nx_2, ny_2, nI i, no_3, ns_3, gx_1, gy_1), rfl, Or.inl ⟨rfl, hsq, i, ⟨by omega, hi2, hd2, by rw [← hO1, c_79, c_87], fun j h1 h2 => hT j h1 (by omega)⟩, rfl, ho2, hs2, hM2⟩, by rw [ht9]; exact hP9, hD9⟩, hS.F ht9⟩) hS.2.2 dX0_walk_96
        · refine lv_iconst (v := 0) hx hb dX0_walk_49 (by decide) ?_
          have hP9 := hP.sub (ws' := [(h0, .inr (0, [.ref qx, .ref qy, .int ht, .int cx, .int cy, .int lf, .long sq, .int ln, .int bo, .int bs, .int gx_1, .int gy_1])), (qx, .inl (cA, 401, .inl bx)), (qy, .inl (cA, 401, .inl bz))]) [2, 0, 1] rfl
          have hD9 := hD.sub (ws' := [(h0, .inr (0, [.ref qx, .ref qy, .int ht, .int cx, .int cy, .int lf, .long sq, .int ln, .int bo, .int bs, .int gx_1, .int gy_1])), (qx, .inl (cA, 401, .inl bx)), (qy, .inl (cA, 401, .inl bz))]) [2, 0, 1] (by decide) rfl
          exact W.zret (v := 0) hx hb hr rfl (fun t9 ht9 hW9 => ⟨⟨0, (bx, bz, ln, bo, bs, gx_1, gy_1), rfl, Or.inr ⟨rfl, Or.inr (ob_no_d (j := i - 1) (by rw [← hO]; rcases hq2 with h | h; exact h.2.1; exact absurd (h.1.symm.trans c_46) (by decide)) hT)⟩, by rw [ht9]; exact hP9, hD9⟩, hS.F ht9⟩) hS.2.2 dX0_walk_50
    · refine lv_iconst (v := 0) hx hb dX0_walk_20 (by decide) ?_
      have hP9 := hP.sub (ws' := [(h0, .inr (0, [.ref qx, .ref qy, .int ht, .int cx, .int cy, .int lf, .long sq, .int ln, .int of, .int sr, .int fx, .int fy])), (qx, .inl (cA, 401, .inl mx)), (qy, .inl (cA, 401, .inl my))]) [0, 1, 2] rfl
      have hD9 := hD.sub (ws' := [(h0, .inr (0, [.ref qx, .ref qy, .int ht, .int cx, .int cy, .int lf, .long sq, .int ln, .int of, .int sr, .int fx, .int fy])), (qx, .inl (cA, 401, .inl mx)), (qy, .inl (cA, 401, .inl my))]) [0, 1, 2] (by decide) rfl
      exact W.zret (v := 0) hx hb hr rfl (fun t9 ht9 hW9 => ⟨⟨0, (mx, my, ln, of, sr, fx, fy), rfl, Or.inr ⟨rfl, Or.inl (fun h => c_17 ((lg_cmp_le _ _).mpr h.2))⟩, by rw [ht9]; exact hP9, hD9⟩, hS.F ht9⟩) hS.2.2 dX0_walk_21
set_option maxHeartbeats 4000000 in
set_option maxRecDepth 100000 in
/-- Arc.seek -/
theorem ar_seek (l : Launch) (dC : Nat → ClassId) (dI : Nat → Nat → Nat) (cA cB : ClassId) (sz : Nat) (h0 : Nat) (qx : Nat) (qy : Nat) (ht : Int32) (cx : Int32) (cy : Int32) (lf : Int32) (sq : Int64) (ln : Int32) (of : Int32) (sr : Int32) (fx : Int32) (fy : Int32) (mx : Nat → Int32) (my : Nat → Int32) (k : Nat) (N : Nat) (x0 : Int32) (y0 : Int32) (hk : k ≤ N ∧ N ≤ 40000) (hM : ob_M lf sq cx cy (x0, y0) mx my N) : Met l yX0_seek wsX0_seek ({ frames := 2, cells := 0, slots := 0, locals := 60 }) (va_Pc [.ref h0, .int (nI k)] (ct_P dC dI cA cB sz [(h0, .inr (0, [.ref qx, .ref qy, .int ht, .int cx, .int cy, .int lf, .long sq, .int ln, .int of, .int sr, .int fx, .int fy])), (qx, .inl (cA, 401, .inl mx)), (qy, .inl (cA, 401, .inl my))])) (va_Qv (fun (u : Int32 × Int32) => (u.1, u.2) = ob_p lf sq cx cy (x0, y0) k) (fun (u : Int32 × Int32) => ct_B dC dI (va_A [(h0, .inr (0, [.ref qx, .ref qy, .int ht, .int cx, .int cy, .int lf, .long sq, .int ln, .int of, .int sr, .int fx, .int fy])), (qx, .inl (cA, 401, .inl mx)), (qy, .inl (cA, 401, .inl my))] sz) [(h0, .inr (0, [.ref qx, .ref qy, .int ht, .int cx, .int cy, .int lf, .long sq, .int ln, .int of, .int sr, .int u.1, .int u.2])), (qx, .inl (cA, 401, .inl mx)), (qy, .inl (cA, 401, .inl my))]) (va_A [(h0, .inr (0, [.ref qx, .ref qy, .int ht, .int cx, .int cy, .int lf, .long sq, .int ln, .int of, .int sr, .int fx, .int fy])), (qx, .inl (cA, 401, .inl mx)), (qy, .inl (cA, 401, .inl my))] sz)) 0 0 (va_A [(h0, .inr (0, [.ref qx, .ref qy, .int ht, .int cx, .int cy, .int lf, .long sq, .int ln, .int of, .int sr, .int fx, .int fy])), (qx, .inl (cA, 401, .inl mx)), (qy, .inl (cA, 401, .inl my))] sz) := by
  refine Met.ofW (cc := cX0_seek) (maxL := 4) (ret := none) (by decide +kernel) rfl ?_
  intro p e s m args below meth c s₁ B hml hv
  obtain ⟨rfl, hsz, hP, hK, hD0, hZ, hN⟩ := hv
  have hx := B.exec
  have hb := B.bytes
  have hr := B.returns
  have hts := atoms_spec (ws := wsX0_seek) B.pre
  have hown : s.vm.findClass RX0 = some m.cls := findClass_of_methodNamed B.named
  have hlocks := B.notSynchronized
  have hiX0 : ∀ w ∈ u_ws RX0 TX0 12, w ∈ wsX0_seek := by decide +kernel
  subst hsz
  have hD := hD0.self (sz := s.heap.size)
  generalize hAe : va_A [(h0, .inr (0, [.ref qx, .ref qy, .int ht, .int cx, .int cy, .int lf, .long sq, .int ln, .int of, .int sr, .int fx, .int fy])), (qx, .inl (cA, 401, .inl mx)), (qy, .inl (cA, 401, .inl my))] s.heap.size = A at hD hZ ⊢
  have hA : ∀ q : Nat, s.heap.size ≤ q → A q := fun q h => by rw [← hAe]; exact Or.inr h
  have hl := lv_entry ([.ref h0, .int (nI k)]) (n := 4) (Nat.le_of_ble_eq_true rfl)
  rw [lg_entry_eq]
  generalize (lg_sl ([.ref h0, .int (nI k)]) ++ List.replicate (4 - (lg_sl ([.ref h0, .int (nI k)])).length) Slot.unset).toArray = ls at hl ⊢
  have hl : lv_has ls 4 [(0, .ref h0), (1, .int (nI k))] := hl
  generalize hHe : s.heap = H at hP ⊢
  have hS : va_S A s.heap H [] := by rw [hHe]; exact va_S.rf
  generalize ([] : List Loc) = locs at hS ⊢
  refine lv_iload_n hx hb dX0_seek_0 rfl (lv_at hl 1 rfl) ?_
  refine lv_bipush (v := 100) hx hb dX0_seek_1 (by decide) ?_
  refine lv_idiv hx hb dX0_seek_3 (by decide) ?_
  refine ct_topi (y := nI (k / 100)) (pk_div (d := 100) (by omega) (by omega) (by omega)) ?_
  refine lv_istore_n (lv' := [(2, .int (nI (k / 100))), (0, .ref h0), (1, .int (nI k))]) hx hb dX0_seek_4 rfl hl (by decide) rfl (fun ls hl => ?_)
  refine lv_iload_n hx hb dX0_seek_5 rfl (lv_at hl 0 rfl) ?_
  refine lv_if_lt (tgt := 16) hx hb dX0_seek_6 (by decide) (fun c_6 => ?_) (fun c_6 => ?_)
  · exact absurd c_6 (nI_pos (by omega))
  · refine lv_iload_n hx hb dX0_seek_9 rfl (lv_at hl 0 rfl) ?_
    refine lv_sipush (v := 401) hx hb dX0_seek_10 (by decide) ?_
    refine lv_icmp_lt (tgt := 17) hx hb dX0_seek_13 (by decide) (fun c_13 => ?_) (fun c_13 => ?_)
    · refine lv_aload_n hx hb dX0_seek_17 rfl (lv_at hl 1 rfl) ?_
      refine lv_aload_n hx hb dX0_seek_18 rfl (lv_at hl 1 rfl) ?_
      refine va_get (D := (dC, dI)) (ci := 0) (v := .ref qx) (C := RX0) (T := TX0) (N := 12) hx hb hts hiX0 hown hK hP 0 rfl rfl 0 (by decide) (hts (.fieldLink RX0 9 "TickWalks$Arc" "markX" "[I") (List.mem_of_getElem? (l := wsX0_seek) (i := 1) rfl)) (fun _ h9 => h9) rfl dX0_seek_19 ?_
      refine lv_iload_n hx hb dX0_seek_22 rfl (lv_at hl 0 rfl) ?_
      refine va_iald hx hb hK hP 1 0 rfl rfl (vp_in_nI (by omega) (by decide)) dX0_seek_23 ?_
      refine ct_topi (y := mx (k / 100)) (congrArg mx (nI_clamp (show k / 100 < 2 ^ 31 by omega))) ?_
      refine va_put (D := (dC, dI)) (ci := 0) (v := .int (mx (k / 100))) (ty := .int) (C := RX0) (T := TX0) (N := 12) hx hb hts hiX0 tyX0 tyX0_ok nmX0 hown hK hP hD hS 0 rfl rfl 10 (by decide) (hts (.fieldLink RX0 45 "TickWalks$Arc" "footX" "I") (List.mem_of_getElem? (l := wsX0_seek) (i := 2) rfl)) (fun _ h9 => h9) rfl (by decide +kernel) rfl rfl (Nat.le_of_ble_eq_true rfl) dX0_seek_24 (fun H locs hP hD hS => ?_)
      have hP : va_P (dC, dI) vwCl [(h0, .inr (0, [.ref qx, .ref qy, .int ht, .int cx, .int cy, .int lf, .long sq, .int ln, .int of, .int sr, .int (mx (k / 100)), .int fy])), (qx, .inl (cA, 401, .inl mx)), (qy, .inl (cA, 401, .inl my))] H := hP
      have hD : va_D A [(h0, .inr (0, [.ref qx, .ref qy, .int ht, .int cx, .int cy, .int lf, .long sq, .int ln, .int of, .int sr, .int (mx (k / 100)), .int fy])), (qx, .inl (cA, 401, .inl mx)), (qy, .inl (cA, 401, .inl my))] := hD
      refine lv_aload_n hx hb dX0_seek_27 rfl (lv_at hl 1 rfl) ?_
      refine lv_aload_n hx hb dX0_seek_28 rfl (lv_at hl 1 rfl) ?_
      refine va_get (D := (dC, dI)) (ci := 0) (v := .ref qy) (C := RX0) (T := TX0) (N := 12) hx hb hts hiX0 hown hK hP 0 rfl rfl 1 (by decide) (hts (.fieldLink RX0 15 "TickWalks$Arc" "markY" "[I") (List.mem_of_getElem? (l := wsX0_seek) (i := 3) rfl)) (fun _ h9 => h9) rfl dX0_seek_29 ?_
      refine lv_iload_n hx hb dX0_seek_32 rfl (lv_at hl 0 rfl) ?_
      refine va_iald hx hb hK hP 2 0 rfl rfl (vp_in_nI (by omega) (by decide)) dX0_seek_33 ?_
      refine ct_topi (y := my (k / 100)) (congrArg my (nI_clamp (show k / 100 < 2 ^ 31 by omega))) ?_
      refine va_put (D := (dC, dI)) (ci := 0) (v := .int (my (k / 100))) (ty := .int) (C := RX0) (T := TX0) (N := 12) hx hb hts hiX0 tyX0 tyX0_ok nmX0 hown hK hP hD hS 0 rfl rfl 11 (by decide) (hts (.fieldLink RX0 48 "TickWalks$Arc" "footY" "I") (List.mem_of_getElem? (l := wsX0_seek) (i := 4) rfl)) (fun _ h9 => h9) rfl (by decide +kernel) rfl rfl (Nat.le_of_ble_eq_true rfl) dX0_seek_34 (fun H locs hP hD hS => ?_)
      have hP : va_P (dC, dI) vwCl [(h0, .inr (0, [.ref qx, .ref qy, .int ht, .int cx, .int cy, .int lf, .long sq, .int ln, .int of, .int sr, .int (mx (k / 100)), .int (my (k / 100))])), (qx, .inl (cA, 401, .inl mx)), (qy, .inl (cA, 401, .inl my))] H := hP
      have hD : va_D A [(h0, .inr (0, [.ref qx, .ref qy, .int ht, .int cx, .int cy, .int lf, .long sq, .int ln, .int of, .int sr, .int (mx (k / 100)), .int (my (k / 100))])), (qx, .inl (cA, 401, .inl mx)), (qy, .inl (cA, 401, .inl my))] := hD
      refine lv_iload_n hx hb dX0_seek_37 rfl (lv_at hl 0 rfl) ?_
      refine lv_bipush (v := 100) hx hb dX0_seek_38 (by decide) ?_
      refine lv_imul hx hb dX0_seek_40 ?_
      refine ct_topi (y := nI (k / 100 * 100)) (pk_mul (k / 100) 100) ?_
      refine lv_istore_n (lv' := [(3, .int (nI (k / 100 * 100))), (2, .int (nI (k / 100))), (0, .ref h0), (1, .int (nI k))]) hx hb dX0_seek_41 rfl hl (by decide) rfl (fun ls hl => ?_)
      refine ct_loop (σ := Nat × Int32 × Int32) (fun n9 w9 H locs ls => n9 = k - w9.1 ∧ (w9.1 ≤ k) ∧ ((w9.2.1, w9.2.2) = ob_p lf sq cx cy (x0, y0) w9.1) ∧ va_P (dC, dI) vwCl [(h0, .inr (0, [.ref qx, .ref qy, .int ht, .int cx, .int cy, .int lf, .long sq, .int ln, .int of, .int sr, .int w9.2.1, .int w9.2.2])), (qx, .inl (cA, 401, .inl mx)), (qy, .inl (cA, 401, .inl my))] H ∧ va_D A [(h0, .inr (0, [.ref qx, .ref qy, .int ht, .int cx, .int cy, .int lf, .long sq, .int ln, .int of, .int sr, .int w9.2.1, .int w9.2.2])), (qx, .inl (cA, 401, .inl mx)), (qy, .inl (cA, 401, .inl my))] ∧ va_S A s.heap H locs ∧ lv_has ls 4 [(3, .int (nI w9.1)), (0, .ref h0), (1, .int (nI k))]) (fun n9 w9 H locs ls hJ ih_42 => ?_) (k - (k / 100 * 100)) ((k / 100 * 100), mx (k / 100), my (k / 100)) _ _ _ ⟨rfl, (Nat.div_mul_le_self k 100), (Prod.ext (hM (k / 100) (by omega)).1 (hM (k / 100) (by omega)).2), (hP.sub [0, 1, 2] rfl), (hD.sub [0, 1, 2] (by decide) rfl), hS, (lv_sub hl [0, 2, 3] rfl)⟩
      obtain ⟨i, wx, wy⟩ := w9
      obtain ⟨hn_42, hi, hO, hP, hD, hS, hl⟩ := hJ
      have hn_42 : n9 = k - i := hn_42
      have hi : i ≤ k := hi
      have hO : (wx, wy) = ob_p lf sq cx cy (x0, y0) i := hO
      have hP : va_P (dC, dI) vwCl [(h0, .inr (0, [.ref qx, .ref qy, .int ht, .int cx, .int cy, .int lf, .long sq, .int ln, .int of, .int sr, .int wx, .int wy])), (qx, .inl (cA, 401, .inl mx)), (qy, .inl (cA, 401, .inl my))] H := hP
      have hD : va_D A [(h0, .inr (0, [.ref qx, .ref qy, .int ht, .int cx, .int cy, .int lf, .long sq, .int ln, .int of, .int sr, .int wx, .int wy])), (qx, .inl (cA, 401, .inl mx)), (qy, .inl (cA, 401, .inl my))] := hD
      have hl : lv_has ls 4 [(3, .int (nI i)), (0, .ref h0), (1, .int (nI k))] := hl
      refine lv_iload_n hx hb dX0_seek_42 rfl (lv_at hl 0 rfl) ?_
      refine lv_iload_n hx hb dX0_seek_43 rfl (lv_at hl 2 rfl) ?_
      refine lv_icmp_ge (tgt := 58) hx hb dX0_seek_44 (by decide) (fun c_44 => ?_) (fun c_44 => ?_)
      · have hP9 := hP.sub (ws' := [(h0, .inr (0, [.ref qx, .ref qy, .int ht, .int cx, .int cy, .int lf, .long sq, .int ln, .int of, .int sr, .int wx, .int wy])), (qx, .inl (cA, 401, .inl mx)), (qy, .inl (cA, 401, .inl my))]) [0, 1, 2] rfl
        have hD9 := hD.sub (ws' := [(h0, .inr (0, [.ref qx, .ref qy, .int ht, .int cx, .int cy, .int lf, .long sq, .int ln, .int of, .int sr, .int wx, .int wy])), (qx, .inl (cA, 401, .inl mx)), (qy, .inl (cA, 401, .inl my))]) [0, 1, 2] (by decide) rfl
        exact W.vret hx hb hr (fun t9 ht9 hW9 => ⟨⟨(wx, wy), rfl, (by have h := (nI_leI (by omega) (by omega)).mp c_44; rw [hO, show i = k by omega]), by rw [ht9]; exact hP9, hD9⟩, hS.F ht9⟩) hS.2.2 dX0_seek_58
      · have hlt : i < k := by
          rcases Nat.lt_or_ge i k with h | h
          · exact h
          · exact absurd (nI_le h (by omega)) c_44
        refine lv_aload_n hx hb dX0_seek_47 rfl (lv_at hl 1 rfl) ?_
        refine ct_calli (va_runV (As := []) (rest := []) ⟨hx, hb, hml, hown, hts⟩ (ar_step l dC dI cA cB H.size h0 qx qy ht cx cy lf sq ln of sr wx wy ) (cwV 0 hts gX0_seek_X0_step rfl rfl rfl (by decide +kernel) ⟨Nat.le_of_ble_eq_true rfl, Nat.le_of_ble_eq_true rfl⟩) ⟨ct_blind, va_recv hK hP (ci := 0) (q0 := 0) rfl rfl, ct_pre hP hD hK hZ hN hS hA [0] rfl (by decide)⟩ rfl rfl hl.1 rfl (lv_room (Nat.le_of_ble_eq_true rfl)) dX0_seek_48 ⟨Nat.le_of_ble_eq_true rfl, Nat.le_of_ble_eq_true rfl⟩) hP hD hS hA [0] [1, 2] rfl (wr := [(qx, .inl (cA, 401, .inl mx)), (qy, .inl (cA, 401, .inl my))]) rfl (by decide) (by decide) (fun r_1 u9 H locs hw_1 hP hD hS => ?_)
        obtain ⟨gx_1, gy_1⟩ := u9
        have hw_1 : sp_P lf sq wx cx wy cy r_1 gx_1 gy_1 := hw_1
        have hP : va_P (dC, dI) vwCl [(qx, .inl (cA, 401, .inl mx)), (qy, .inl (cA, 401, .inl my)), (h0, .inr (0, [.ref qx, .ref qy, .int ht, .int cx, .int cy, .int lf, .long sq, .int ln, .int of, .int sr, .int gx_1, .int gy_1]))] H := hP
        have hD : va_D A [(qx, .inl (cA, 401, .inl mx)), (qy, .inl (cA, 401, .inl my)), (h0, .inr (0, [.ref qx, .ref qy, .int ht, .int cx, .int cy, .int lf, .long sq, .int ln, .int of, .int sr, .int gx_1, .int gy_1]))] := hD
        refine lv_pop hx hb dX0_seek_51 rfl ?_
        refine lv_iinc (v := nI (i + 1)) (lv' := [(3, .int (nI (i + 1))), (0, .ref h0), (1, .int (nI k))]) hx hb dX0_seek_52 hl (k := 0) rfl (nI_1 i) (by decide) rfl (fun ls hl => ?_)
        refine lv_goto (tgt := 42) hx hb dX0_seek_55 (by decide) ?_
        exact ih_42 _ ((i + 1), gx_1, gy_1) _ _ _ (by rw [hn_42]; omega) ⟨rfl, (show i + 1 ≤ k by omega), (by rw [ob_p, ← hO]; exact (sp_ob hw_1).1), (hP.sub [2, 0, 1] rfl), (hD.sub [2, 0, 1] (by decide) rfl), hS, (lv_sub hl [0, 1, 2] rfl)⟩
    · exact absurd (nI_lt (a := k / 100) (b := 401) (by omega) (by omega)) c_13
set_option maxHeartbeats 4000000 in
set_option maxRecDepth 100000 in
/-- Arc.placeBehind -/
theorem ar_place (l : Launch) (dC : Nat → ClassId) (dI : Nat → Nat → Nat) (cA cB : ClassId) (sz : Nat) (h0 : Nat) (qx : Nat) (qy : Nat) (ht : Int32) (cx : Int32) (cy : Int32) (lf : Int32) (sq : Int64) (ln : Int32) (of : Int32) (sr : Int32) (fx : Int32) (fy : Int32) (mx : Nat → Int32) (my : Nat → Int32) (k : Nat) (ax : Int32) (N : Nat) (x0 : Int32) (y0 : Int32) (hk : k ≤ N ∧ N ≤ 40000) (hM : ob_M lf sq cx cy (x0, y0) mx my N) : Met l yX0_placeBehind wsX0_placeBehind ({ frames := 3, cells := 0, slots := 0, locals := 90 }) (va_Pc [.ref h0, .int (nI k), .int ax] (ct_P dC dI cA cB sz [(h0, .inr (0, [.ref qx, .ref qy, .int ht, .int cx, .int cy, .int lf, .long sq, .int ln, .int of, .int sr, .int fx, .int fy])), (qx, .inl (cA, 401, .inl mx)), (qy, .inl (cA, 401, .inl my))])) (va_Qi (fun (r : Int32) (u : Int32 × Int32) => r = (if ax = 2 then ht else if ax = 0 then (ob_p lf sq cx cy (x0, y0) k).1 else (ob_p lf sq cx cy (x0, y0) k).2)) (fun (u : Int32 × Int32) => ct_B dC dI (va_A [(h0, .inr (0, [.ref qx, .ref qy, .int ht, .int cx, .int cy, .int lf, .long sq, .int ln, .int of, .int sr, .int fx, .int fy])), (qx, .inl (cA, 401, .inl mx)), (qy, .inl (cA, 401, .inl my))] sz) [(h0, .inr (0, [.ref qx, .ref qy, .int ht, .int cx, .int cy, .int lf, .long sq, .int ln, .int of, .int sr, .int u.1, .int u.2])), (qx, .inl (cA, 401, .inl mx)), (qy, .inl (cA, 401, .inl my))]) (va_A [(h0, .inr (0, [.ref qx, .ref qy, .int ht, .int cx, .int cy, .int lf, .long sq, .int ln, .int of, .int sr, .int fx, .int fy])), (qx, .inl (cA, 401, .inl mx)), (qy, .inl (cA, 401, .inl my))] sz)) 0 0 (va_A [(h0, .inr (0, [.ref qx, .ref qy, .int ht, .int cx, .int cy, .int lf, .long sq, .int ln, .int of, .int sr, .int fx, .int fy])), (qx, .inl (cA, 401, .inl mx)), (qy, .inl (cA, 401, .inl my))] sz) := by
  refine Met.ofW (cc := cX0_placeBehind) (maxL := 3) (ret := (some .int)) (by decide +kernel) rfl ?_
  intro p e s m args below meth c s₁ B hml hv
  obtain ⟨rfl, hsz, hP, hK, hD0, hZ, hN⟩ := hv
  have hx := B.exec
  have hb := B.bytes
  have hr := B.returns
  have hts := atoms_spec (ws := wsX0_placeBehind) B.pre
  have hown : s.vm.findClass RX0 = some m.cls := findClass_of_methodNamed B.named
  have hlocks := B.notSynchronized
  have hiX0 : ∀ w ∈ u_ws RX0 TX0 12, w ∈ wsX0_placeBehind := by decide +kernel
  subst hsz
  have hD := hD0.self (sz := s.heap.size)
  generalize hAe : va_A [(h0, .inr (0, [.ref qx, .ref qy, .int ht, .int cx, .int cy, .int lf, .long sq, .int ln, .int of, .int sr, .int fx, .int fy])), (qx, .inl (cA, 401, .inl mx)), (qy, .inl (cA, 401, .inl my))] s.heap.size = A at hD hZ ⊢
  have hA : ∀ q : Nat, s.heap.size ≤ q → A q := fun q h => by rw [← hAe]; exact Or.inr h
  have hl := lv_entry ([.ref h0, .int (nI k), .int ax]) (n := 3) (Nat.le_of_ble_eq_true rfl)
  rw [lg_entry_eq]
  generalize (lg_sl ([.ref h0, .int (nI k), .int ax]) ++ List.replicate (3 - (lg_sl ([.ref h0, .int (nI k), .int ax])).length) Slot.unset).toArray = ls at hl ⊢
  have hl : lv_has ls 3 [(0, .ref h0), (1, .int (nI k)), (2, .int ax)] := hl
  generalize hHe : s.heap = H at hP ⊢
  have hS : va_S A s.heap H [] := by rw [hHe]; exact va_S.rf
  generalize ([] : List Loc) = locs at hS ⊢
  refine lv_iload_n hx hb dX0_placeBehind_0 rfl (lv_at hl 2 rfl) ?_
  refine lv_iconst (v := 2) hx hb dX0_placeBehind_1 (by decide) ?_
  refine lv_icmp_ne (tgt := 10) hx hb dX0_placeBehind_2 (by decide) (fun c_2 => ?_) (fun c_2 => ?_)
  · refine lv_aload_n hx hb dX0_placeBehind_10 rfl (lv_at hl 0 rfl) ?_
    refine lv_iload_n hx hb dX0_placeBehind_11 rfl (lv_at hl 1 rfl) ?_
    refine ct_callv (va_runV (As := [.int (nI k)]) (rest := []) ⟨hx, hb, hml, hown, hts⟩ (ar_seek l dC dI cA cB H.size h0 qx qy ht cx cy lf sq ln of sr fx fy mx my k N x0 y0 hk hM) (cwV 1 hts gX0_placeBehind_X0_seek rfl rfl rfl (by decide +kernel) ⟨Nat.le_of_ble_eq_true rfl, Nat.le_of_ble_eq_true rfl⟩) ⟨ct_blind, va_recv hK hP (ci := 0) (q0 := 0) rfl rfl, ct_pre hP hD hK hZ hN hS hA [0, 1, 2] rfl (by decide)⟩ rfl rfl hl.1 rfl (lv_room (Nat.le_of_ble_eq_true rfl)) dX0_placeBehind_12 ⟨Nat.le_of_ble_eq_true rfl, Nat.le_of_ble_eq_true rfl⟩) hP hD hS hA [0, 1, 2] [] rfl (wr := []) rfl (by decide) (by decide) (fun u9 H locs hw_1 hP hD hS => ?_)
    obtain ⟨gx_1, gy_1⟩ := u9
    have hw_1 : (gx_1, gy_1) = ob_p lf sq cx cy (x0, y0) k := hw_1
    have hP : va_P (dC, dI) vwCl [(h0, .inr (0, [.ref qx, .ref qy, .int ht, .int cx, .int cy, .int lf, .long sq, .int ln, .int of, .int sr, .int gx_1, .int gy_1])), (qx, .inl (cA, 401, .inl mx)), (qy, .inl (cA, 401, .inl my))] H := hP
    have hD : va_D A [(h0, .inr (0, [.ref qx, .ref qy, .int ht, .int cx, .int cy, .int lf, .long sq, .int ln, .int of, .int sr, .int gx_1, .int gy_1])), (qx, .inl (cA, 401, .inl mx)), (qy, .inl (cA, 401, .inl my))] := hD
    refine lv_iload_n hx hb dX0_placeBehind_15 rfl (lv_at hl 2 rfl) ?_
    refine lv_if_ne (tgt := 26) hx hb dX0_placeBehind_16 (by decide) (fun c_16 => ?_) (fun c_16 => ?_)
    · refine lv_aload_n hx hb dX0_placeBehind_26 rfl (lv_at hl 0 rfl) ?_
      refine va_get (D := (dC, dI)) (ci := 0) (v := .int gy_1) (C := RX0) (T := TX0) (N := 12) hx hb hts hiX0 hown hK hP 0 rfl rfl 11 (by decide) (hts (.fieldLink RX0 48 "TickWalks$Arc" "footY" "I") (List.mem_of_getElem? (l := wsX0_placeBehind) (i := 3) rfl)) (fun _ h9 => h9) rfl dX0_placeBehind_27 ?_
      have hP9 := hP.sub (ws' := [(h0, .inr (0, [.ref qx, .ref qy, .int ht, .int cx, .int cy, .int lf, .long sq, .int ln, .int of, .int sr, .int gx_1, .int gy_1])), (qx, .inl (cA, 401, .inl mx)), (qy, .inl (cA, 401, .inl my))]) [0, 1, 2] rfl
      have hD9 := hD.sub (ws' := [(h0, .inr (0, [.ref qx, .ref qy, .int ht, .int cx, .int cy, .int lf, .long sq, .int ln, .int of, .int sr, .int gx_1, .int gy_1])), (qx, .inl (cA, 401, .inl mx)), (qy, .inl (cA, 401, .inl my))]) [0, 1, 2] (by decide) rfl
      exact W.iret (v := gy_1) hx hb hr (fun t9 ht9 hW9 => ⟨⟨gy_1, (gx_1, gy_1), rfl, (by rw [if_neg c_2, if_neg c_16, ← hw_1]), by rw [ht9]; exact hP9, hD9⟩, hS.F ht9⟩) hS.2.2 dX0_placeBehind_30
    · refine lv_aload_n hx hb dX0_placeBehind_19 rfl (lv_at hl 0 rfl) ?_
      refine va_get (D := (dC, dI)) (ci := 0) (v := .int gx_1) (C := RX0) (T := TX0) (N := 12) hx hb hts hiX0 hown hK hP 0 rfl rfl 10 (by decide) (hts (.fieldLink RX0 45 "TickWalks$Arc" "footX" "I") (List.mem_of_getElem? (l := wsX0_placeBehind) (i := 2) rfl)) (fun _ h9 => h9) rfl dX0_placeBehind_20 ?_
      refine lv_goto (tgt := 30) hx hb dX0_placeBehind_23 (by decide) ?_
      have hP9 := hP.sub (ws' := [(h0, .inr (0, [.ref qx, .ref qy, .int ht, .int cx, .int cy, .int lf, .long sq, .int ln, .int of, .int sr, .int gx_1, .int gy_1])), (qx, .inl (cA, 401, .inl mx)), (qy, .inl (cA, 401, .inl my))]) [0, 1, 2] rfl
      have hD9 := hD.sub (ws' := [(h0, .inr (0, [.ref qx, .ref qy, .int ht, .int cx, .int cy, .int lf, .long sq, .int ln, .int of, .int sr, .int gx_1, .int gy_1])), (qx, .inl (cA, 401, .inl mx)), (qy, .inl (cA, 401, .inl my))]) [0, 1, 2] (by decide) rfl
      exact W.iret (v := gx_1) hx hb hr (fun t9 ht9 hW9 => ⟨⟨gx_1, (gx_1, gy_1), rfl, (by rw [if_neg c_2, if_pos c_16, ← hw_1]), by rw [ht9]; exact hP9, hD9⟩, hS.F ht9⟩) hS.2.2 dX0_placeBehind_30
  · refine lv_aload_n hx hb dX0_placeBehind_5 rfl (lv_at hl 0 rfl) ?_
    refine va_get (D := (dC, dI)) (ci := 0) (v := .int ht) (C := RX0) (T := TX0) (N := 12) hx hb hts hiX0 hown hK hP 0 rfl rfl 2 (by decide) (hts (.fieldLink RX0 18 "TickWalks$Arc" "height" "I") (List.mem_of_getElem? (l := wsX0_placeBehind) (i := 1) rfl)) (fun _ h9 => h9) rfl dX0_placeBehind_6 ?_
    have hP9 := hP.sub (ws' := [(h0, .inr (0, [.ref qx, .ref qy, .int ht, .int cx, .int cy, .int lf, .long sq, .int ln, .int of, .int sr, .int fx, .int fy])), (qx, .inl (cA, 401, .inl mx)), (qy, .inl (cA, 401, .inl my))]) [0, 1, 2] rfl
    have hD9 := hD.sub (ws' := [(h0, .inr (0, [.ref qx, .ref qy, .int ht, .int cx, .int cy, .int lf, .long sq, .int ln, .int of, .int sr, .int fx, .int fy])), (qx, .inl (cA, 401, .inl mx)), (qy, .inl (cA, 401, .inl my))]) [0, 1, 2] (by decide) rfl
    exact W.iret (v := ht) hx hb hr (fun t9 ht9 hW9 => ⟨⟨ht, (fx, fy), rfl, (by rw [if_pos c_2]), by rw [ht9]; exact hP9, hD9⟩, hS.F ht9⟩) hS.2.2 dX0_placeBehind_9
set_option maxHeartbeats 4000000 in
set_option maxRecDepth 100000 in
/-- Arc.length -/
theorem ar_length (l : Launch) (dC : Nat → ClassId) (dI : Nat → Nat → Nat) (cA cB : ClassId) (sz : Nat) (h0 : Nat) (qx : Nat) (qy : Nat) (ht : Int32) (cx : Int32) (cy : Int32) (lf : Int32) (sq : Int64) (ln : Int32) (of : Int32) (sr : Int32) (fx : Int32) (fy : Int32) : Met l yX0_length wsX0_length ({ frames := 0, cells := 0, slots := 0, locals := 0 }) (va_Pc [.ref h0] (ct_P dC dI cA cB sz [(h0, .inr (0, [.ref qx, .ref qy, .int ht, .int cx, .int cy, .int lf, .long sq, .int ln, .int of, .int sr, .int fx, .int fy]))])) (va_Qi (fun (r : Int32) (u : Unit) => r = ln) (fun (u : Unit) => ct_B dC dI (va_A [(h0, .inr (0, [.ref qx, .ref qy, .int ht, .int cx, .int cy, .int lf, .long sq, .int ln, .int of, .int sr, .int fx, .int fy]))] sz) [(h0, .inr (0, [.ref qx, .ref qy, .int ht, .int cx, .int cy, .int lf, .long sq, .int ln, .int of, .int sr, .int fx, .int fy]))]) (va_A [(h0, .inr (0, [.ref qx, .ref qy, .int ht, .int cx, .int cy, .int lf, .long sq, .int ln, .int of, .int sr, .int fx, .int fy]))] sz)) 0 0 (va_A [(h0, .inr (0, [.ref qx, .ref qy, .int ht, .int cx, .int cy, .int lf, .long sq, .int ln, .int of, .int sr, .int fx, .int fy]))] sz) := by
  refine Met.ofW (cc := cX0_length) (maxL := 1) (ret := (some .int)) (by decide +kernel) rfl ?_
  intro p e s m args below meth c s₁ B hml hv
  obtain ⟨rfl, hsz, hP, hK, hD0, hZ, hN⟩ := hv
  have hx := B.exec
  have hb := B.bytes
  have hr := B.returns
  have hts := atoms_spec (ws := wsX0_length) B.pre
  have hown : s.vm.findClass RX0 = some m.cls := findClass_of_methodNamed B.named
  have hlocks := B.notSynchronized
  have hiX0 : ∀ w ∈ u_ws RX0 TX0 12, w ∈ wsX0_length := by decide +kernel
  subst hsz
  have hD := hD0.self (sz := s.heap.size)
  generalize hAe : va_A [(h0, .inr (0, [.ref qx, .ref qy, .int ht, .int cx, .int cy, .int lf, .long sq, .int ln, .int of, .int sr, .int fx, .int fy]))] s.heap.size = A at hD hZ ⊢
  have hA : ∀ q : Nat, s.heap.size ≤ q → A q := fun q h => by rw [← hAe]; exact Or.inr h
  have hl := lv_entry ([.ref h0]) (n := 1) (Nat.le_of_ble_eq_true rfl)
  rw [lg_entry_eq]
  generalize (lg_sl ([.ref h0]) ++ List.replicate (1 - (lg_sl ([.ref h0])).length) Slot.unset).toArray = ls at hl ⊢
  have hl : lv_has ls 1 [(0, .ref h0)] := hl
  generalize hHe : s.heap = H at hP ⊢
  have hS : va_S A s.heap H [] := by rw [hHe]; exact va_S.rf
  generalize ([] : List Loc) = locs at hS ⊢
  refine lv_aload_n hx hb dX0_length_0 rfl (lv_at hl 0 rfl) ?_
  refine va_get (D := (dC, dI)) (ci := 0) (v := .int ln) (C := RX0) (T := TX0) (N := 12) hx hb hts hiX0 hown hK hP 0 rfl rfl 7 (by decide) (hts (.fieldLink RX0 36 "TickWalks$Arc" "length" "I") (List.mem_of_getElem? (l := wsX0_length) (i := 1) rfl)) (fun _ h9 => h9) rfl dX0_length_1 ?_
  have hP9 := hP.sub (ws' := [(h0, .inr (0, [.ref qx, .ref qy, .int ht, .int cx, .int cy, .int lf, .long sq, .int ln, .int of, .int sr, .int fx, .int fy]))]) [0] rfl
  have hD9 := hD.sub (ws' := [(h0, .inr (0, [.ref qx, .ref qy, .int ht, .int cx, .int cy, .int lf, .long sq, .int ln, .int of, .int sr, .int fx, .int fy]))]) [0] (by decide) rfl
  exact W.iret (v := ln) hx hb hr (fun t9 ht9 hW9 => ⟨⟨ln, (), rfl, rfl, by rw [ht9]; exact hP9, hD9⟩, hS.F ht9⟩) hS.2.2 dX0_length_4
set_option maxHeartbeats 4000000 in
set_option maxRecDepth 100000 in
/-- Arc.greatestOff -/
theorem ar_off (l : Launch) (dC : Nat → ClassId) (dI : Nat → Nat → Nat) (cA cB : ClassId) (sz : Nat) (h0 : Nat) (qx : Nat) (qy : Nat) (ht : Int32) (cx : Int32) (cy : Int32) (lf : Int32) (sq : Int64) (ln : Int32) (of : Int32) (sr : Int32) (fx : Int32) (fy : Int32) : Met l yX0_greatestOff wsX0_greatestOff ({ frames := 0, cells := 0, slots := 0, locals := 0 }) (va_Pc [.ref h0] (ct_P dC dI cA cB sz [(h0, .inr (0, [.ref qx, .ref qy, .int ht, .int cx, .int cy, .int lf, .long sq, .int ln, .int of, .int sr, .int fx, .int fy]))])) (va_Qi (fun (r : Int32) (u : Unit) => r = of) (fun (u : Unit) => ct_B dC dI (va_A [(h0, .inr (0, [.ref qx, .ref qy, .int ht, .int cx, .int cy, .int lf, .long sq, .int ln, .int of, .int sr, .int fx, .int fy]))] sz) [(h0, .inr (0, [.ref qx, .ref qy, .int ht, .int cx, .int cy, .int lf, .long sq, .int ln, .int of, .int sr, .int fx, .int fy]))]) (va_A [(h0, .inr (0, [.ref qx, .ref qy, .int ht, .int cx, .int cy, .int lf, .long sq, .int ln, .int of, .int sr, .int fx, .int fy]))] sz)) 0 0 (va_A [(h0, .inr (0, [.ref qx, .ref qy, .int ht, .int cx, .int cy, .int lf, .long sq, .int ln, .int of, .int sr, .int fx, .int fy]))] sz) := by
  refine Met.ofW (cc := cX0_greatestOff) (maxL := 1) (ret := (some .int)) (by decide +kernel) rfl ?_
  intro p e s m args below meth c s₁ B hml hv
  obtain ⟨rfl, hsz, hP, hK, hD0, hZ, hN⟩ := hv
  have hx := B.exec
  have hb := B.bytes
  have hr := B.returns
  have hts := atoms_spec (ws := wsX0_greatestOff) B.pre
  have hown : s.vm.findClass RX0 = some m.cls := findClass_of_methodNamed B.named
  have hlocks := B.notSynchronized
  have hiX0 : ∀ w ∈ u_ws RX0 TX0 12, w ∈ wsX0_greatestOff := by decide +kernel
  subst hsz
  have hD := hD0.self (sz := s.heap.size)
  generalize hAe : va_A [(h0, .inr (0, [.ref qx, .ref qy, .int ht, .int cx, .int cy, .int lf, .long sq, .int ln, .int of, .int sr, .int fx, .int fy]))] s.heap.size = A at hD hZ ⊢
  have hA : ∀ q : Nat, s.heap.size ≤ q → A q := fun q h => by rw [← hAe]; exact Or.inr h
  have hl := lv_entry ([.ref h0]) (n := 1) (Nat.le_of_ble_eq_true rfl)
  rw [lg_entry_eq]
  generalize (lg_sl ([.ref h0]) ++ List.replicate (1 - (lg_sl ([.ref h0])).length) Slot.unset).toArray = ls at hl ⊢
  have hl : lv_has ls 1 [(0, .ref h0)] := hl
  generalize hHe : s.heap = H at hP ⊢
  have hS : va_S A s.heap H [] := by rw [hHe]; exact va_S.rf
  generalize ([] : List Loc) = locs at hS ⊢
  refine lv_aload_n hx hb dX0_greatestOff_0 rfl (lv_at hl 0 rfl) ?_
  refine va_get (D := (dC, dI)) (ci := 0) (v := .int of) (C := RX0) (T := TX0) (N := 12) hx hb hts hiX0 hown hK hP 0 rfl rfl 8 (by decide) (hts (.fieldLink RX0 39 "TickWalks$Arc" "off" "I") (List.mem_of_getElem? (l := wsX0_greatestOff) (i := 1) rfl)) (fun _ h9 => h9) rfl dX0_greatestOff_1 ?_
  have hP9 := hP.sub (ws' := [(h0, .inr (0, [.ref qx, .ref qy, .int ht, .int cx, .int cy, .int lf, .long sq, .int ln, .int of, .int sr, .int fx, .int fy]))]) [0] rfl
  have hD9 := hD.sub (ws' := [(h0, .inr (0, [.ref qx, .ref qy, .int ht, .int cx, .int cy, .int lf, .long sq, .int ln, .int of, .int sr, .int fx, .int fy]))]) [0] (by decide) rfl
  exact W.iret (v := of) hx hb hr (fun t9 ht9 hW9 => ⟨⟨of, (), rfl, rfl, by rw [ht9]; exact hP9, hD9⟩, hS.F ht9⟩) hS.2.2 dX0_greatestOff_4
set_option maxHeartbeats 4000000 in
set_option maxRecDepth 100000 in
/-- Arc.strayTicks -/
theorem ar_strays (l : Launch) (dC : Nat → ClassId) (dI : Nat → Nat → Nat) (cA cB : ClassId) (sz : Nat) (h0 : Nat) (qx : Nat) (qy : Nat) (ht : Int32) (cx : Int32) (cy : Int32) (lf : Int32) (sq : Int64) (ln : Int32) (of : Int32) (sr : Int32) (fx : Int32) (fy : Int32) : Met l yX0_strayTicks wsX0_strayTicks ({ frames := 0, cells := 0, slots := 0, locals := 0 }) (va_Pc [.ref h0] (ct_P dC dI cA cB sz [(h0, .inr (0, [.ref qx, .ref qy, .int ht, .int cx, .int cy, .int lf, .long sq, .int ln, .int of, .int sr, .int fx, .int fy]))])) (va_Qi (fun (r : Int32) (u : Unit) => r = sr) (fun (u : Unit) => ct_B dC dI (va_A [(h0, .inr (0, [.ref qx, .ref qy, .int ht, .int cx, .int cy, .int lf, .long sq, .int ln, .int of, .int sr, .int fx, .int fy]))] sz) [(h0, .inr (0, [.ref qx, .ref qy, .int ht, .int cx, .int cy, .int lf, .long sq, .int ln, .int of, .int sr, .int fx, .int fy]))]) (va_A [(h0, .inr (0, [.ref qx, .ref qy, .int ht, .int cx, .int cy, .int lf, .long sq, .int ln, .int of, .int sr, .int fx, .int fy]))] sz)) 0 0 (va_A [(h0, .inr (0, [.ref qx, .ref qy, .int ht, .int cx, .int cy, .int lf, .long sq, .int ln, .int of, .int sr, .int fx, .int fy]))] sz) := by
  refine Met.ofW (cc := cX0_strayTicks) (maxL := 1) (ret := (some .int)) (by decide +kernel) rfl ?_
  intro p e s m args below meth c s₁ B hml hv
  obtain ⟨rfl, hsz, hP, hK, hD0, hZ, hN⟩ := hv
  have hx := B.exec
  have hb := B.bytes
  have hr := B.returns
  have hts := atoms_spec (ws := wsX0_strayTicks) B.pre
  have hown : s.vm.findClass RX0 = some m.cls := findClass_of_methodNamed B.named
  have hlocks := B.notSynchronized
  have hiX0 : ∀ w ∈ u_ws RX0 TX0 12, w ∈ wsX0_strayTicks := by decide +kernel
  subst hsz
  have hD := hD0.self (sz := s.heap.size)
  generalize hAe : va_A [(h0, .inr (0, [.ref qx, .ref qy, .int ht, .int cx, .int cy, .int lf, .long sq, .int ln, .int of, .int sr, .int fx, .int fy]))] s.heap.size = A at hD hZ ⊢
  have hA : ∀ q : Nat, s.heap.size ≤ q → A q := fun q h => by rw [← hAe]; exact Or.inr h
  have hl := lv_entry ([.ref h0]) (n := 1) (Nat.le_of_ble_eq_true rfl)
  rw [lg_entry_eq]
  generalize (lg_sl ([.ref h0]) ++ List.replicate (1 - (lg_sl ([.ref h0])).length) Slot.unset).toArray = ls at hl ⊢
  have hl : lv_has ls 1 [(0, .ref h0)] := hl
  generalize hHe : s.heap = H at hP ⊢
  have hS : va_S A s.heap H [] := by rw [hHe]; exact va_S.rf
  generalize ([] : List Loc) = locs at hS ⊢
  refine lv_aload_n hx hb dX0_strayTicks_0 rfl (lv_at hl 0 rfl) ?_
  refine va_get (D := (dC, dI)) (ci := 0) (v := .int sr) (C := RX0) (T := TX0) (N := 12) hx hb hts hiX0 hown hK hP 0 rfl rfl 9 (by decide) (hts (.fieldLink RX0 42 "TickWalks$Arc" "strays" "I") (List.mem_of_getElem? (l := wsX0_strayTicks) (i := 1) rfl)) (fun _ h9 => h9) rfl dX0_strayTicks_1 ?_
  have hP9 := hP.sub (ws' := [(h0, .inr (0, [.ref qx, .ref qy, .int ht, .int cx, .int cy, .int lf, .long sq, .int ln, .int of, .int sr, .int fx, .int fy]))]) [0] rfl
  have hD9 := hD.sub (ws' := [(h0, .inr (0, [.ref qx, .ref qy, .int ht, .int cx, .int cy, .int lf, .long sq, .int ln, .int of, .int sr, .int fx, .int fy]))]) [0] (by decide) rfl
  exact W.iret (v := sr) hx hb hr (fun t9 ht9 hW9 => ⟨⟨sr, (), rfl, rfl, by rw [ht9]; exact hP9, hD9⟩, hS.F ht9⟩) hS.2.2 dX0_strayTicks_4
end
section
theorem ct_cB {D : va_G} {cl : List vw_C} {tys : List (ClassId × FieldType)} {s : State} {c1 c2 : ClassId} (hK : va_K D cl tys s) (i j : Nat) (h1 : tys[i]? = some (c1, .byte)) (h2 : tys[j]? = some (c2, .byte)) : c1 = c2 := by
  have q1 : s.vm.findClass _ = some c1 := (hK.2 i _ h1).2
  have q2 : s.vm.findClass _ = some c2 := (hK.2 j _ h2).2
  exact Option.some.inj (q1.symm.trans q2)
/-! pure words of a line -/
def ln_p (f b ln k : Int32) : Int32 := if ln = 0 then f else f + (fd_f (2 * b.toInt64 * k.toInt64 + ln.toInt64) (2 * ln.toInt64)).toInt32
/-- behind tick k on an axis, as countStrays walks -/
def ln_q (f b ln : Int32) : Nat → Int32
  | 0 => f
  | k + 1 => ln_p f b ln (nI (k + 1))
def ln_c (fv bv : Nat → Int32) (ln : Int32) : Nat → Int32
  | 0 => 0
  | k + 1 => if ga_m (ln_q (fv 0) (bv 0) ln (k + 1) - ln_q (fv 0) (bv 0) ln k) (ln_q (fv 1) (bv 1) ln (k + 1) - ln_q (fv 1) (bv 1) ln k) (ln_q (fv 2) (bv 2) ln (k + 1) - ln_q (fv 2) (bv 2) ln k) = 1 then ln_c fv bv ln k else ln_c fv bv ln k + 1
theorem ne_2l {x : Int32} (h : ¬ x = 0) : ¬ (2 : Int64) * x.toInt64 = 0 := by
  intro g
  apply h
  have h1 := congrArg Int64.toInt g
  rw [Int64.toInt_mul, Int32.toInt_toInt64] at h1
  have h2 := Int32.toInt_lt x
  have h3 := Int32.le_toInt x
  have h4 : (2 : Int64).toInt = 2 := rfl
  have h5 : (0 : Int64).toInt = 0 := rfl
  rw [h4, h5, Int.bmod_eq_of_le (by omega) (by omega)] at h1
  exact Int32.toInt_inj.mp (by rw [show x.toInt = 0 by omega]; rfl)
end
section
theorem li_end {fv bv : Nat → Int32} {ln ct0 : Int32} {N i : Nat} (hN2 : ln = nI N ∧ N < 1000000) (hi : 1 ≤ i ∧ i ≤ N + 1) (h : ln < nI i) (hc : ct0 = ln_c fv bv ln (i - 1)) : ct0 = ln_c fv bv ln N := by
  have h1 : nI N < nI i := by rw [← hN2.1]; exact h
  have h2 := (nI_ltI (by omega) (by omega)).mp h1
  rw [hc, show i - 1 = N by omega]
set_option maxHeartbeats 4000000 in
set_option maxRecDepth 100000 in
/-- Line.walk -/
theorem li_walk (l : Launch) (dC : Nat → ClassId) (dI : Nat → Nat → Nat) (cA cB : ClassId) (sz : Nat) (h0 : Nat) (qf : Nat) (qb : Nat) (ln : Int32) (sr : Int32) (fv : Nat → Int32) (bv : Nat → Int32) (qs : Nat) (sv : Nat → Int32) (x : Int32) (y : Int32) (z : Int32) : Met l yX1_walk wsX1_walk ({ frames := 2, cells := 0, slots := 0, locals := 40 }) (va_Pc [.ref h0, .ref qs, .int x, .int y, .int z] (ct_P dC dI cA cB sz [(h0, .inr (1, [.ref qf, .ref qb, .int ln, .int sr])), (qf, .inl (cA, 3, .inl fv)), (qb, .inl (cA, 3, .inl bv)), (qs, .inl (cA, 3, .inl sv))])) (va_Qv (fun (u : (Nat → Int32) × (Nat → Int32) × Int32) => (u.1 0 = sv 0 ∧ u.1 1 = sv 1 ∧ u.1 2 = sv 2) ∧ (u.2.1 0 = x - sv 0 ∧ u.2.1 1 = y - sv 1 ∧ u.2.1 2 = z - sv 2) ∧ u.2.2 = ga_m (u.2.1 0) (u.2.1 1) (u.2.1 2)) (fun (u : (Nat → Int32) × (Nat → Int32) × Int32) => ct_B dC dI (va_A [(h0, .inr (1, [.ref qf, .ref qb, .int ln, .int sr])), (qf, .inl (cA, 3, .inl fv)), (qb, .inl (cA, 3, .inl bv)), (qs, .inl (cA, 3, .inl sv))] sz) [(h0, .inr (1, [.ref qf, .ref qb, .int u.2.2, .int (-1)])), (qf, .inl (cA, 3, .inl u.1)), (qb, .inl (cA, 3, .inl u.2.1)), (qs, .inl (cA, 3, .inl sv))]) (va_A [(h0, .inr (1, [.ref qf, .ref qb, .int ln, .int sr])), (qf, .inl (cA, 3, .inl fv)), (qb, .inl (cA, 3, .inl bv)), (qs, .inl (cA, 3, .inl sv))] sz)) 0 0 (va_A [(h0, .inr (1, [.ref qf, .ref qb, .int ln, .int sr])), (qf, .inl (cA, 3, .inl fv)), (qb, .inl (cA, 3, .inl bv)), (qs, .inl (cA, 3, .inl sv))] sz) := by
  refine Met.ofW (cc := cX1_walk) (maxL := 6) (ret := none) (by decide +kernel) rfl ?_
  intro p e s m args below meth c s₁ B hml hv
  obtain ⟨rfl, hsz, hP, hK, hD0, hZ, hN⟩ := hv
  have hx := B.exec
  have hb := B.bytes
  have hr := B.returns
  have hts := atoms_spec (ws := wsX1_walk) B.pre
  have hown : s.vm.findClass RX1 = some m.cls := findClass_of_methodNamed B.named
  have hlocks := B.notSynchronized
  have hiX1 : ∀ w ∈ u_ws RX1 TX1 4, w ∈ wsX1_walk := by decide +kernel
  subst hsz
  have hD := hD0.self (sz := s.heap.size)
  generalize hAe : va_A [(h0, .inr (1, [.ref qf, .ref qb, .int ln, .int sr])), (qf, .inl (cA, 3, .inl fv)), (qb, .inl (cA, 3, .inl bv)), (qs, .inl (cA, 3, .inl sv))] s.heap.size = A at hD hZ ⊢
  have hA : ∀ q : Nat, s.heap.size ≤ q → A q := fun q h => by rw [← hAe]; exact Or.inr h
  have hl := lv_entry ([.ref h0, .ref qs, .int x, .int y, .int z]) (n := 6) (Nat.le_of_ble_eq_true rfl)
  rw [lg_entry_eq]
  generalize (lg_sl ([.ref h0, .ref qs, .int x, .int y, .int z]) ++ List.replicate (6 - (lg_sl ([.ref h0, .ref qs, .int x, .int y, .int z])).length) Slot.unset).toArray = ls at hl ⊢
  have hl : lv_has ls 6 [(0, .ref h0), (1, .ref qs), (2, .int x), (3, .int y), (4, .int z)] := hl
  generalize hHe : s.heap = H at hP ⊢
  have hS : va_S A s.heap H [] := by rw [hHe]; exact va_S.rf
  generalize ([] : List Loc) = locs at hS ⊢
  refine lv_iconst (v := 0) hx hb dX1_walk_0 (by decide) ?_
  refine lv_istore (lv' := [(5, .int 0), (0, .ref h0), (1, .ref qs), (2, .int x), (3, .int y), (4, .int z)]) hx hb dX1_walk_1 hl (by decide) rfl (fun ls hl => ?_)
  refine ct_loop (σ := Nat × (Nat → Int32)) (fun n9 w9 H locs ls => n9 = 3 - w9.1 ∧ (w9.1 ≤ 3) ∧ (∀ j, j < w9.1 → w9.2 j = sv j) ∧ va_P (dC, dI) vwCl [(h0, .inr (1, [.ref qf, .ref qb, .int ln, .int sr])), (qf, .inl (cA, 3, .inl w9.2)), (qb, .inl (cA, 3, .inl bv)), (qs, .inl (cA, 3, .inl sv))] H ∧ va_D A [(h0, .inr (1, [.ref qf, .ref qb, .int ln, .int sr])), (qf, .inl (cA, 3, .inl w9.2)), (qb, .inl (cA, 3, .inl bv)), (qs, .inl (cA, 3, .inl sv))] ∧ va_S A s.heap H locs ∧ lv_has ls 6 [(5, .int (nI w9.1)), (0, .ref h0), (1, .ref qs), (2, .int x), (3, .int y), (4, .int z)]) (fun n9 w9 H locs ls hJ ih_3 => ?_) (3 - 0) (0, fv) _ _ _ ⟨rfl, (Nat.zero_le 3), (fun j h => absurd h (by omega)), (hP.sub [0, 1, 2, 3] rfl), (hD.sub [0, 1, 2, 3] (by decide) rfl), hS, (lv_sub hl [0, 1, 2, 3, 4, 5] rfl)⟩
  obtain ⟨i, gf⟩ := w9
  obtain ⟨hn_3, hi, hg, hP, hD, hS, hl⟩ := hJ
  have hn_3 : n9 = 3 - i := hn_3
  have hi : i ≤ 3 := hi
  have hg : ∀ j, j < i → gf j = sv j := hg
  have hP : va_P (dC, dI) vwCl [(h0, .inr (1, [.ref qf, .ref qb, .int ln, .int sr])), (qf, .inl (cA, 3, .inl gf)), (qb, .inl (cA, 3, .inl bv)), (qs, .inl (cA, 3, .inl sv))] H := hP
  have hD : va_D A [(h0, .inr (1, [.ref qf, .ref qb, .int ln, .int sr])), (qf, .inl (cA, 3, .inl gf)), (qb, .inl (cA, 3, .inl bv)), (qs, .inl (cA, 3, .inl sv))] := hD
  have hl : lv_has ls 6 [(5, .int (nI i)), (0, .ref h0), (1, .ref qs), (2, .int x), (3, .int y), (4, .int z)] := hl
  refine lv_iload hx hb dX1_walk_3 (lv_at hl 0 rfl) ?_
  refine lv_iconst (v := 3) hx hb dX1_walk_5 (by decide) ?_
  refine lv_icmp_ge (tgt := 26) hx hb dX1_walk_6 (by decide) (fun c_6 => ?_) (fun c_6 => ?_)
  · have h3 : i = 3 := by
      have h := (nI_leI (a := 3) (by omega) (by omega)).mp c_6
      omega
    subst h3
    have g0 := hg 0 (by omega)
    have g1 := hg 1 (by omega)
    have g2 := hg 2 (by omega)
    refine lv_aload_n hx hb dX1_walk_26 rfl (lv_at hl 1 rfl) ?_
    refine va_get (D := (dC, dI)) (ci := 1) (v := .ref qb) (C := RX1) (T := TX1) (N := 4) hx hb hts hiX1 hown hK hP 0 rfl rfl 1 (by decide) (hts (.fieldLink RX1 15 "TickWalks$Line" "by" "[I") (List.mem_of_getElem? (l := wsX1_walk) (i := 2) rfl)) (fun _ h9 => h9) rfl dX1_walk_27 ?_
    refine lv_iconst (v := 0) hx hb dX1_walk_30 (by decide) ?_
    refine lv_iload_n hx hb dX1_walk_31 rfl (lv_at hl 3 rfl) ?_
    refine lv_aload_n hx hb dX1_walk_32 rfl (lv_at hl 1 rfl) ?_
    refine va_get (D := (dC, dI)) (ci := 1) (v := .ref qf) (C := RX1) (T := TX1) (N := 4) hx hb hts hiX1 hown hK hP 0 rfl rfl 0 (by decide) (hts (.fieldLink RX1 9 "TickWalks$Line" "from" "[I") (List.mem_of_getElem? (l := wsX1_walk) (i := 1) rfl)) (fun _ h9 => h9) rfl dX1_walk_33 ?_
    refine lv_iconst (v := 0) hx hb dX1_walk_36 (by decide) ?_
    refine va_iald hx hb hK hP 1 0 rfl rfl (show vp_in 0 3 by unfold vp_in; decide) dX1_walk_37 ?_
    refine ct_topi (y := gf 0) (congrArg gf (show Int32.toNatClampNeg 0 = 0 by decide)) ?_
    refine lv_isub hx hb dX1_walk_38 ?_
    refine va_iast hx hb hK hP hD hS 2 0 rfl rfl (show vp_in 0 3 by unfold vp_in; decide) dX1_walk_39 (fun H locs hP hD hS => ?_)
    rw [(show Int32.toNatClampNeg 0 = 0 by decide)] at hP hD
    have hP : va_P (dC, dI) vwCl [(h0, .inr (1, [.ref qf, .ref qb, .int ln, .int sr])), (qf, .inl (cA, 3, .inl gf)), (qb, .inl (cA, 3, .inl (upd bv 0 (x - (gf 0))))), (qs, .inl (cA, 3, .inl sv))] H := hP
    have hD : va_D A [(h0, .inr (1, [.ref qf, .ref qb, .int ln, .int sr])), (qf, .inl (cA, 3, .inl gf)), (qb, .inl (cA, 3, .inl (upd bv 0 (x - (gf 0))))), (qs, .inl (cA, 3, .inl sv))] := hD
    refine lv_aload_n hx hb dX1_walk_40 rfl (lv_at hl 1 rfl) ?_
    refine va_get (D := (dC, dI)) (ci := 1) (v := .ref qb) (C := RX1) (T := TX1) (N := 4) hx hb hts hiX1 hown hK hP 0 rfl rfl 1 (by decide) (hts (.fieldLink RX1 15 "TickWalks$Line" "by" "[I") (List.mem_of_getElem? (l := wsX1_walk) (i := 2) rfl)) (fun _ h9 => h9) rfl dX1_walk_41 ?_
    refine lv_iconst (v := 1) hx hb dX1_walk_44 (by decide) ?_
    refine lv_iload_n hx hb dX1_walk_45 rfl (lv_at hl 4 rfl) ?_
    refine lv_aload_n hx hb dX1_walk_46 rfl (lv_at hl 1 rfl) ?_
    refine va_get (D := (dC, dI)) (ci := 1) (v := .ref qf) (C := RX1) (T := TX1) (N := 4) hx hb hts hiX1 hown hK hP 0 rfl rfl 0 (by decide) (hts (.fieldLink RX1 9 "TickWalks$Line" "from" "[I") (List.mem_of_getElem? (l := wsX1_walk) (i := 1) rfl)) (fun _ h9 => h9) rfl dX1_walk_47 ?_
    refine lv_iconst (v := 1) hx hb dX1_walk_50 (by decide) ?_
    refine va_iald hx hb hK hP 1 0 rfl rfl (show vp_in 1 3 by unfold vp_in; decide) dX1_walk_51 ?_
    refine ct_topi (y := gf 1) (congrArg gf (show Int32.toNatClampNeg 1 = 1 by decide)) ?_
    refine lv_isub hx hb dX1_walk_52 ?_
    refine va_iast hx hb hK hP hD hS 2 0 rfl rfl (show vp_in 1 3 by unfold vp_in; decide) dX1_walk_53 (fun H locs hP hD hS => ?_)
    rw [(show Int32.toNatClampNeg 1 = 1 by decide)] at hP hD
    have hP : va_P (dC, dI) vwCl [(h0, .inr (1, [.ref qf, .ref qb, .int ln, .int sr])), (qf, .inl (cA, 3, .inl gf)), (qb, .inl (cA, 3, .inl (upd (upd bv 0 (x - (gf 0))) 1 (y - (gf 1))))), (qs, .inl (cA, 3, .inl sv))] H := hP
    have hD : va_D A [(h0, .inr (1, [.ref qf, .ref qb, .int ln, .int sr])), (qf, .inl (cA, 3, .inl gf)), (qb, .inl (cA, 3, .inl (upd (upd bv 0 (x - (gf 0))) 1 (y - (gf 1))))), (qs, .inl (cA, 3, .inl sv))] := hD
    refine lv_aload_n hx hb dX1_walk_54 rfl (lv_at hl 1 rfl) ?_
    refine va_get (D := (dC, dI)) (ci := 1) (v := .ref qb) (C := RX1) (T := TX1) (N := 4) hx hb hts hiX1 hown hK hP 0 rfl rfl 1 (by decide) (hts (.fieldLink RX1 15 "TickWalks$Line" "by" "[I") (List.mem_of_getElem? (l := wsX1_walk) (i := 2) rfl)) (fun _ h9 => h9) rfl dX1_walk_55 ?_
    refine lv_iconst (v := 2) hx hb dX1_walk_58 (by decide) ?_
    refine lv_iload hx hb dX1_walk_59 (lv_at hl 5 rfl) ?_
    refine lv_aload_n hx hb dX1_walk_61 rfl (lv_at hl 1 rfl) ?_
    refine va_get (D := (dC, dI)) (ci := 1) (v := .ref qf) (C := RX1) (T := TX1) (N := 4) hx hb hts hiX1 hown hK hP 0 rfl rfl 0 (by decide) (hts (.fieldLink RX1 9 "TickWalks$Line" "from" "[I") (List.mem_of_getElem? (l := wsX1_walk) (i := 1) rfl)) (fun _ h9 => h9) rfl dX1_walk_62 ?_
    refine lv_iconst (v := 2) hx hb dX1_walk_65 (by decide) ?_
    refine va_iald hx hb hK hP 1 0 rfl rfl (show vp_in 2 3 by unfold vp_in; decide) dX1_walk_66 ?_
    refine ct_topi (y := gf 2) (congrArg gf (show Int32.toNatClampNeg 2 = 2 by decide)) ?_
    refine lv_isub hx hb dX1_walk_67 ?_
    refine va_iast hx hb hK hP hD hS 2 0 rfl rfl (show vp_in 2 3 by unfold vp_in; decide) dX1_walk_68 (fun H locs hP hD hS => ?_)
    rw [(show Int32.toNatClampNeg 2 = 2 by decide)] at hP hD
    have hP : va_P (dC, dI) vwCl [(h0, .inr (1, [.ref qf, .ref qb, .int ln, .int sr])), (qf, .inl (cA, 3, .inl gf)), (qb, .inl (cA, 3, .inl (upd (upd (upd bv 0 (x - (gf 0))) 1 (y - (gf 1))) 2 (z - (gf 2))))), (qs, .inl (cA, 3, .inl sv))] H := hP
    have hD : va_D A [(h0, .inr (1, [.ref qf, .ref qb, .int ln, .int sr])), (qf, .inl (cA, 3, .inl gf)), (qb, .inl (cA, 3, .inl (upd (upd (upd bv 0 (x - (gf 0))) 1 (y - (gf 1))) 2 (z - (gf 2))))), (qs, .inl (cA, 3, .inl sv))] := hD
    refine lv_aload_n hx hb dX1_walk_69 rfl (lv_at hl 1 rfl) ?_
    refine lv_aload_n hx hb dX1_walk_70 rfl (lv_at hl 1 rfl) ?_
    refine va_get (D := (dC, dI)) (ci := 1) (v := .ref qb) (C := RX1) (T := TX1) (N := 4) hx hb hts hiX1 hown hK hP 0 rfl rfl 1 (by decide) (hts (.fieldLink RX1 15 "TickWalks$Line" "by" "[I") (List.mem_of_getElem? (l := wsX1_walk) (i := 2) rfl)) (fun _ h9 => h9) rfl dX1_walk_71 ?_
    refine lv_iconst (v := 0) hx hb dX1_walk_74 (by decide) ?_
    refine va_iald hx hb hK hP 2 0 rfl rfl (show vp_in 0 3 by unfold vp_in; decide) dX1_walk_75 ?_
    refine ct_topi (y := (upd (upd (upd bv 0 (x - (gf 0))) 1 (y - (gf 1))) 2 (z - (gf 2))) 0) (congrArg (upd (upd (upd bv 0 (x - (gf 0))) 1 (y - (gf 1))) 2 (z - (gf 2))) (show Int32.toNatClampNeg 0 = 0 by decide)) ?_
    refine lv_aload_n hx hb dX1_walk_76 rfl (lv_at hl 1 rfl) ?_
    refine va_get (D := (dC, dI)) (ci := 1) (v := .ref qb) (C := RX1) (T := TX1) (N := 4) hx hb hts hiX1 hown hK hP 0 rfl rfl 1 (by decide) (hts (.fieldLink RX1 15 "TickWalks$Line" "by" "[I") (List.mem_of_getElem? (l := wsX1_walk) (i := 2) rfl)) (fun _ h9 => h9) rfl dX1_walk_77 ?_
    refine lv_iconst (v := 1) hx hb dX1_walk_80 (by decide) ?_
    refine va_iald hx hb hK hP 2 0 rfl rfl (show vp_in 1 3 by unfold vp_in; decide) dX1_walk_81 ?_
    refine ct_topi (y := (upd (upd (upd bv 0 (x - (gf 0))) 1 (y - (gf 1))) 2 (z - (gf 2))) 1) (congrArg (upd (upd (upd bv 0 (x - (gf 0))) 1 (y - (gf 1))) 2 (z - (gf 2))) (show Int32.toNatClampNeg 1 = 1 by decide)) ?_
    refine lv_aload_n hx hb dX1_walk_82 rfl (lv_at hl 1 rfl) ?_
    refine va_get (D := (dC, dI)) (ci := 1) (v := .ref qb) (C := RX1) (T := TX1) (N := 4) hx hb hts hiX1 hown hK hP 0 rfl rfl 1 (by decide) (hts (.fieldLink RX1 15 "TickWalks$Line" "by" "[I") (List.mem_of_getElem? (l := wsX1_walk) (i := 2) rfl)) (fun _ h9 => h9) rfl dX1_walk_83 ?_
    refine lv_iconst (v := 2) hx hb dX1_walk_86 (by decide) ?_
    refine va_iald hx hb hK hP 2 0 rfl rfl (show vp_in 2 3 by unfold vp_in; decide) dX1_walk_87 ?_
    refine ct_topi (y := (upd (upd (upd bv 0 (x - (gf 0))) 1 (y - (gf 1))) 2 (z - (gf 2))) 2) (congrArg (upd (upd (upd bv 0 (x - (gf 0))) 1 (y - (gf 1))) 2 (z - (gf 2))) (show Int32.toNatClampNeg 2 = 2 by decide)) ?_
    refine ct_calli (va_runSN (As := [.int ((upd (upd (upd bv 0 (x - (gf 0))) 1 (y - (gf 1))) 2 (z - (gf 2))) 0), .int ((upd (upd (upd bv 0 (x - (gf 0))) 1 (y - (gf 1))) 2 (z - (gf 2))) 1), .int ((upd (upd (upd bv 0 (x - (gf 0))) 1 (y - (gf 1))) 2 (z - (gf 2))) 2)]) (rest := [.ref h0]) ⟨hx, hb, hml, hown, hts⟩ (ct_greatest l dC dI cA cB H.size ((upd (upd (upd bv 0 (x - (gf 0))) 1 (y - (gf 1))) 2 (z - (gf 2))) 0) ((upd (upd (upd bv 0 (x - (gf 0))) 1 (y - (gf 1))) 2 (z - (gf 2))) 1) ((upd (upd (upd bv 0 (x - (gf 0))) 1 (y - (gf 1))) 2 (z - (gf 2))) 2) ) ⟨va_cnB (host := "TickWalks") 3 hts gX1_walk_X3_greatestAmount_n25 rfl rfl rfl hN.2.2.2.2.1 (hts (.initialized RX3) (List.mem_of_getElem? (l := wsX1_walk) (i := 6) rfl)) (by decide +kernel) ⟨Nat.le_of_ble_eq_true rfl, Nat.le_of_ble_eq_true rfl⟩, (hts (.static yX3_greatestAmount) (List.mem_of_getElem? (l := wsX1_walk) (i := 5) rfl)), trivial⟩ ⟨ct_blind, ct_pre hP hD hK hZ hN hS hA [] rfl (by decide)⟩ rfl rfl hl.1 rfl (lv_room (Nat.le_of_ble_eq_true rfl)) dX1_walk_88 ⟨Nat.le_of_ble_eq_true rfl, Nat.le_of_ble_eq_true rfl⟩) hP hD hS hA [] [0, 1, 2, 3] rfl (wr := [(h0, .inr (1, [.ref qf, .ref qb, .int ln, .int sr])), (qf, .inl (cA, 3, .inl gf)), (qb, .inl (cA, 3, .inl (upd (upd (upd bv 0 (x - (gf 0))) 1 (y - (gf 1))) 2 (z - (gf 2))))), (qs, .inl (cA, 3, .inl sv))]) rfl (by decide) (by decide) (fun r_1 u9 H locs hw_1 hP hD hS => ?_)
    have hw_1 : r_1 = ga_m ((upd (upd (upd bv 0 (x - (gf 0))) 1 (y - (gf 1))) 2 (z - (gf 2))) 0) ((upd (upd (upd bv 0 (x - (gf 0))) 1 (y - (gf 1))) 2 (z - (gf 2))) 1) ((upd (upd (upd bv 0 (x - (gf 0))) 1 (y - (gf 1))) 2 (z - (gf 2))) 2) := hw_1
    have hP : va_P (dC, dI) vwCl [(h0, .inr (1, [.ref qf, .ref qb, .int ln, .int sr])), (qf, .inl (cA, 3, .inl gf)), (qb, .inl (cA, 3, .inl (upd (upd (upd bv 0 (x - (gf 0))) 1 (y - (gf 1))) 2 (z - (gf 2))))), (qs, .inl (cA, 3, .inl sv))] H := hP
    have hD : va_D A [(h0, .inr (1, [.ref qf, .ref qb, .int ln, .int sr])), (qf, .inl (cA, 3, .inl gf)), (qb, .inl (cA, 3, .inl (upd (upd (upd bv 0 (x - (gf 0))) 1 (y - (gf 1))) 2 (z - (gf 2))))), (qs, .inl (cA, 3, .inl sv))] := hD
    refine va_put (D := (dC, dI)) (ci := 1) (v := .int r_1) (ty := .int) (C := RX1) (T := TX1) (N := 4) hx hb hts hiX1 tyX1 tyX1_ok nmX1 hown hK hP hD hS 0 rfl rfl 2 (by decide) (hts (.fieldLink RX1 18 "TickWalks$Line" "length" "I") (List.mem_of_getElem? (l := wsX1_walk) (i := 3) rfl)) (fun _ h9 => h9) rfl (by decide +kernel) rfl rfl (Nat.le_of_ble_eq_true rfl) dX1_walk_91 (fun H locs hP hD hS => ?_)
    have hP : va_P (dC, dI) vwCl [(h0, .inr (1, [.ref qf, .ref qb, .int r_1, .int sr])), (qf, .inl (cA, 3, .inl gf)), (qb, .inl (cA, 3, .inl (upd (upd (upd bv 0 (x - (gf 0))) 1 (y - (gf 1))) 2 (z - (gf 2))))), (qs, .inl (cA, 3, .inl sv))] H := hP
    have hD : va_D A [(h0, .inr (1, [.ref qf, .ref qb, .int r_1, .int sr])), (qf, .inl (cA, 3, .inl gf)), (qb, .inl (cA, 3, .inl (upd (upd (upd bv 0 (x - (gf 0))) 1 (y - (gf 1))) 2 (z - (gf 2))))), (qs, .inl (cA, 3, .inl sv))] := hD
    refine lv_aload_n hx hb dX1_walk_94 rfl (lv_at hl 1 rfl) ?_
    refine lv_iconst (v := -1) hx hb dX1_walk_95 (by decide) ?_
    refine va_put (D := (dC, dI)) (ci := 1) (v := .int (-1)) (ty := .int) (C := RX1) (T := TX1) (N := 4) hx hb hts hiX1 tyX1 tyX1_ok nmX1 hown hK hP hD hS 0 rfl rfl 3 (by decide) (hts (.fieldLink RX1 22 "TickWalks$Line" "strays" "I") (List.mem_of_getElem? (l := wsX1_walk) (i := 4) rfl)) (fun _ h9 => h9) rfl (by decide +kernel) rfl rfl (Nat.le_of_ble_eq_true rfl) dX1_walk_96 (fun H locs hP hD hS => ?_)
    have hP : va_P (dC, dI) vwCl [(h0, .inr (1, [.ref qf, .ref qb, .int r_1, .int (-1)])), (qf, .inl (cA, 3, .inl gf)), (qb, .inl (cA, 3, .inl (upd (upd (upd bv 0 (x - (gf 0))) 1 (y - (gf 1))) 2 (z - (gf 2))))), (qs, .inl (cA, 3, .inl sv))] H := hP
    have hD : va_D A [(h0, .inr (1, [.ref qf, .ref qb, .int r_1, .int (-1)])), (qf, .inl (cA, 3, .inl gf)), (qb, .inl (cA, 3, .inl (upd (upd (upd bv 0 (x - (gf 0))) 1 (y - (gf 1))) 2 (z - (gf 2))))), (qs, .inl (cA, 3, .inl sv))] := hD
    have hP9 := hP.sub (ws' := [(h0, .inr (1, [.ref qf, .ref qb, .int r_1, .int (-1)])), (qf, .inl (cA, 3, .inl gf)), (qb, .inl (cA, 3, .inl (upd (upd (upd bv 0 (x - (gf 0))) 1 (y - (gf 1))) 2 (z - (gf 2))))), (qs, .inl (cA, 3, .inl sv))]) [0, 1, 2, 3] rfl
    have hD9 := hD.sub (ws' := [(h0, .inr (1, [.ref qf, .ref qb, .int r_1, .int (-1)])), (qf, .inl (cA, 3, .inl gf)), (qb, .inl (cA, 3, .inl (upd (upd (upd bv 0 (x - (gf 0))) 1 (y - (gf 1))) 2 (z - (gf 2))))), (qs, .inl (cA, 3, .inl sv))]) [0, 1, 2, 3] (by decide) rfl
    exact W.vret hx hb hr (fun t9 ht9 hW9 => ⟨⟨(gf, upd (upd (upd bv 0 (x - (gf 0))) 1 (y - (gf 1))) 2 (z - (gf 2)), r_1), rfl, ⟨⟨g0, g1, g2⟩, ⟨by rw [← g0]; rfl, by rw [← g1]; rfl, by rw [← g2]; rfl⟩, hw_1⟩, by rw [ht9]; exact hP9, hD9⟩, hS.F ht9⟩) hS.2.2 dX1_walk_99
  · have hlt : i < 3 := by
      rcases Nat.lt_or_ge i 3 with h | h
      · exact h
      · exact absurd (show (3 : Int32) ≤ nI i from nI_le (a := 3) h (by omega)) c_6
    refine lv_aload_n hx hb dX1_walk_9 rfl (lv_at hl 1 rfl) ?_
    refine va_get (D := (dC, dI)) (ci := 1) (v := .ref qf) (C := RX1) (T := TX1) (N := 4) hx hb hts hiX1 hown hK hP 0 rfl rfl 0 (by decide) (hts (.fieldLink RX1 9 "TickWalks$Line" "from" "[I") (List.mem_of_getElem? (l := wsX1_walk) (i := 1) rfl)) (fun _ h9 => h9) rfl dX1_walk_10 ?_
    refine lv_iload hx hb dX1_walk_13 (lv_at hl 0 rfl) ?_
    refine lv_aload_n hx hb dX1_walk_15 rfl (lv_at hl 2 rfl) ?_
    refine lv_iload hx hb dX1_walk_16 (lv_at hl 0 rfl) ?_
    refine va_iald hx hb hK hP 3 0 rfl rfl (vp_in_nI hlt (by decide)) dX1_walk_18 ?_
    refine ct_topi (y := sv i) (congrArg sv (nI_clamp (show i < 2 ^ 31 by omega))) ?_
    refine va_iast hx hb hK hP hD hS 1 0 rfl rfl (vp_in_nI hlt (by decide)) dX1_walk_19 (fun H locs hP hD hS => ?_)
    rw [(nI_clamp (show i < 2 ^ 31 by omega))] at hP hD
    have hP : va_P (dC, dI) vwCl [(h0, .inr (1, [.ref qf, .ref qb, .int ln, .int sr])), (qf, .inl (cA, 3, .inl (upd gf i (sv i)))), (qb, .inl (cA, 3, .inl bv)), (qs, .inl (cA, 3, .inl sv))] H := hP
    have hD : va_D A [(h0, .inr (1, [.ref qf, .ref qb, .int ln, .int sr])), (qf, .inl (cA, 3, .inl (upd gf i (sv i)))), (qb, .inl (cA, 3, .inl bv)), (qs, .inl (cA, 3, .inl sv))] := hD
    refine lv_iinc (v := nI (i + 1)) (lv' := [(5, .int (nI (i + 1))), (0, .ref h0), (1, .ref qs), (2, .int x), (3, .int y), (4, .int z)]) hx hb dX1_walk_20 hl (k := 0) rfl (nI_1 i) (by decide) rfl (fun ls hl => ?_)
    refine lv_goto (tgt := 3) hx hb dX1_walk_23 (by decide) ?_
    exact ih_3 _ ((i + 1), upd gf i (sv i)) _ _ _ (by rw [hn_3]; omega) ⟨rfl, (show i + 1 ≤ 3 by omega), (fun j h => by rcases Nat.lt_or_ge j i with a | a; exact (pk_un (by omega)).trans (hg j a); rw [show j = i by omega]; exact pk_us), (hP.sub [0, 1, 2, 3] rfl), (hD.sub [0, 1, 2, 3] (by decide) rfl), hS, (lv_sub hl [0, 1, 2, 3, 4, 5] rfl)⟩
set_option maxHeartbeats 4000000 in
set_option maxRecDepth 100000 in
/-- Line.length -/
theorem li_length (l : Launch) (dC : Nat → ClassId) (dI : Nat → Nat → Nat) (cA cB : ClassId) (sz : Nat) (h0 : Nat) (qf : Nat) (qb : Nat) (ln : Int32) (sr : Int32) : Met l yX1_length wsX1_length ({ frames := 0, cells := 0, slots := 0, locals := 0 }) (va_Pc [.ref h0] (ct_P dC dI cA cB sz [(h0, .inr (1, [.ref qf, .ref qb, .int ln, .int sr]))])) (va_Qi (fun (r : Int32) (u : Unit) => r = ln) (fun (u : Unit) => ct_B dC dI (va_A [(h0, .inr (1, [.ref qf, .ref qb, .int ln, .int sr]))] sz) [(h0, .inr (1, [.ref qf, .ref qb, .int ln, .int sr]))]) (va_A [(h0, .inr (1, [.ref qf, .ref qb, .int ln, .int sr]))] sz)) 0 0 (va_A [(h0, .inr (1, [.ref qf, .ref qb, .int ln, .int sr]))] sz) := by
  refine Met.ofW (cc := cX1_length) (maxL := 1) (ret := (some .int)) (by decide +kernel) rfl ?_
  intro p e s m args below meth c s₁ B hml hv
  obtain ⟨rfl, hsz, hP, hK, hD0, hZ, hN⟩ := hv
  have hx := B.exec
  have hb := B.bytes
  have hr := B.returns
  have hts := atoms_spec (ws := wsX1_length) B.pre
  have hown : s.vm.findClass RX1 = some m.cls := findClass_of_methodNamed B.named
  have hlocks := B.notSynchronized
  have hiX1 : ∀ w ∈ u_ws RX1 TX1 4, w ∈ wsX1_length := by decide +kernel
  subst hsz
  have hD := hD0.self (sz := s.heap.size)
  generalize hAe : va_A [(h0, .inr (1, [.ref qf, .ref qb, .int ln, .int sr]))] s.heap.size = A at hD hZ ⊢
  have hA : ∀ q : Nat, s.heap.size ≤ q → A q := fun q h => by rw [← hAe]; exact Or.inr h
  have hl := lv_entry ([.ref h0]) (n := 1) (Nat.le_of_ble_eq_true rfl)
  rw [lg_entry_eq]
  generalize (lg_sl ([.ref h0]) ++ List.replicate (1 - (lg_sl ([.ref h0])).length) Slot.unset).toArray = ls at hl ⊢
  have hl : lv_has ls 1 [(0, .ref h0)] := hl
  generalize hHe : s.heap = H at hP ⊢
  have hS : va_S A s.heap H [] := by rw [hHe]; exact va_S.rf
  generalize ([] : List Loc) = locs at hS ⊢
  refine lv_aload_n hx hb dX1_length_0 rfl (lv_at hl 0 rfl) ?_
  refine va_get (D := (dC, dI)) (ci := 1) (v := .int ln) (C := RX1) (T := TX1) (N := 4) hx hb hts hiX1 hown hK hP 0 rfl rfl 2 (by decide) (hts (.fieldLink RX1 18 "TickWalks$Line" "length" "I") (List.mem_of_getElem? (l := wsX1_length) (i := 1) rfl)) (fun _ h9 => h9) rfl dX1_length_1 ?_
  have hP9 := hP.sub (ws' := [(h0, .inr (1, [.ref qf, .ref qb, .int ln, .int sr]))]) [0] rfl
  have hD9 := hD.sub (ws' := [(h0, .inr (1, [.ref qf, .ref qb, .int ln, .int sr]))]) [0] (by decide) rfl
  exact W.iret (v := ln) hx hb hr (fun t9 ht9 hW9 => ⟨⟨ln, (), rfl, rfl, by rw [ht9]; exact hP9, hD9⟩, hS.F ht9⟩) hS.2.2 dX1_length_4
set_option maxHeartbeats 4000000 in
set_option maxRecDepth 100000 in
/-- Line.greatestOff -/
theorem li_off (l : Launch) (dC : Nat → ClassId) (dI : Nat → Nat → Nat) (cA cB : ClassId) (sz : Nat) (h0 : Nat) (qf : Nat) (qb : Nat) (ln : Int32) (sr : Int32) : Met l yX1_greatestOff wsX1_greatestOff ({ frames := 0, cells := 0, slots := 0, locals := 0 }) (va_Pc [.ref h0] (ct_P dC dI cA cB sz [(h0, .inr (1, [.ref qf, .ref qb, .int ln, .int sr]))])) (va_Qi (fun (r : Int32) (u : Unit) => r = 0) (fun (u : Unit) => ct_B dC dI (va_A [(h0, .inr (1, [.ref qf, .ref qb, .int ln, .int sr]))] sz) [(h0, .inr (1, [.ref qf, .ref qb, .int ln, .int sr]))]) (va_A [(h0, .inr (1, [.ref qf, .ref qb, .int ln, .int sr]))] sz)) 0 0 (va_A [(h0, .inr (1, [.ref qf, .ref qb, .int ln, .int sr]))] sz) := by
  refine Met.ofW (cc := cX1_greatestOff) (maxL := 1) (ret := (some .int)) (by decide +kernel) rfl ?_
  intro p e s m args below meth c s₁ B hml hv
  obtain ⟨rfl, hsz, hP, hK, hD0, hZ, hN⟩ := hv
  have hx := B.exec
  have hb := B.bytes
  have hr := B.returns
  have hts := atoms_spec (ws := wsX1_greatestOff) B.pre
  have hown : s.vm.findClass RX1 = some m.cls := findClass_of_methodNamed B.named
  have hlocks := B.notSynchronized
  subst hsz
  have hD := hD0.self (sz := s.heap.size)
  generalize hAe : va_A [(h0, .inr (1, [.ref qf, .ref qb, .int ln, .int sr]))] s.heap.size = A at hD hZ ⊢
  have hA : ∀ q : Nat, s.heap.size ≤ q → A q := fun q h => by rw [← hAe]; exact Or.inr h
  have hl := lv_entry ([.ref h0]) (n := 1) (Nat.le_of_ble_eq_true rfl)
  rw [lg_entry_eq]
  generalize (lg_sl ([.ref h0]) ++ List.replicate (1 - (lg_sl ([.ref h0])).length) Slot.unset).toArray = ls at hl ⊢
  have hl : lv_has ls 1 [(0, .ref h0)] := hl
  generalize hHe : s.heap = H at hP ⊢
  have hS : va_S A s.heap H [] := by rw [hHe]; exact va_S.rf
  generalize ([] : List Loc) = locs at hS ⊢
  refine lv_iconst (v := 0) hx hb dX1_greatestOff_0 (by decide) ?_
  have hP9 := hP.sub (ws' := [(h0, .inr (1, [.ref qf, .ref qb, .int ln, .int sr]))]) [0] rfl
  have hD9 := hD.sub (ws' := [(h0, .inr (1, [.ref qf, .ref qb, .int ln, .int sr]))]) [0] (by decide) rfl
  exact W.iret (v := 0) hx hb hr (fun t9 ht9 hW9 => ⟨⟨0, (), rfl, rfl, by rw [ht9]; exact hP9, hD9⟩, hS.F ht9⟩) hS.2.2 dX1_greatestOff_1
set_option maxHeartbeats 4000000 in
set_option maxRecDepth 100000 in
/-- Line.placeBehind -/
theorem li_place (l : Launch) (dC : Nat → ClassId) (dI : Nat → Nat → Nat) (cA cB : ClassId) (sz : Nat) (h0 : Nat) (qf : Nat) (qb : Nat) (ln : Int32) (sr : Int32) (fv : Nat → Int32) (bv : Nat → Int32) (k : Int32) (a : Nat) (ha : a < 3) : Met l yX1_placeBehind wsX1_placeBehind ({ frames := 1, cells := 0, slots := 0, locals := 30 }) (va_Pc [.ref h0, .int k, .int (nI a)] (ct_P dC dI cA cB sz [(h0, .inr (1, [.ref qf, .ref qb, .int ln, .int sr])), (qf, .inl (cA, 3, .inl fv)), (qb, .inl (cA, 3, .inl bv))])) (va_Qi (fun (r : Int32) (u : Unit) => r = ln_p (fv a) (bv a) ln k) (fun (u : Unit) => ct_B dC dI (va_A [(h0, .inr (1, [.ref qf, .ref qb, .int ln, .int sr])), (qf, .inl (cA, 3, .inl fv)), (qb, .inl (cA, 3, .inl bv))] sz) [(h0, .inr (1, [.ref qf, .ref qb, .int ln, .int sr])), (qf, .inl (cA, 3, .inl fv)), (qb, .inl (cA, 3, .inl bv))]) (va_A [(h0, .inr (1, [.ref qf, .ref qb, .int ln, .int sr])), (qf, .inl (cA, 3, .inl fv)), (qb, .inl (cA, 3, .inl bv))] sz)) 0 0 (va_A [(h0, .inr (1, [.ref qf, .ref qb, .int ln, .int sr])), (qf, .inl (cA, 3, .inl fv)), (qb, .inl (cA, 3, .inl bv))] sz) := by
  refine Met.ofW (cc := cX1_placeBehind) (maxL := 5) (ret := (some .int)) (by decide +kernel) rfl ?_
  intro p e s m args below meth c s₁ B hml hv
  obtain ⟨rfl, hsz, hP, hK, hD0, hZ, hN⟩ := hv
  have hx := B.exec
  have hb := B.bytes
  have hr := B.returns
  have hts := atoms_spec (ws := wsX1_placeBehind) B.pre
  have hown : s.vm.findClass RX1 = some m.cls := findClass_of_methodNamed B.named
  have hlocks := B.notSynchronized
  have hiX1 : ∀ w ∈ u_ws RX1 TX1 4, w ∈ wsX1_placeBehind := by decide +kernel
  subst hsz
  have hD := hD0.self (sz := s.heap.size)
  generalize hAe : va_A [(h0, .inr (1, [.ref qf, .ref qb, .int ln, .int sr])), (qf, .inl (cA, 3, .inl fv)), (qb, .inl (cA, 3, .inl bv))] s.heap.size = A at hD hZ ⊢
  have hA : ∀ q : Nat, s.heap.size ≤ q → A q := fun q h => by rw [← hAe]; exact Or.inr h
  have hl := lv_entry ([.ref h0, .int k, .int (nI a)]) (n := 5) (Nat.le_of_ble_eq_true rfl)
  rw [lg_entry_eq]
  generalize (lg_sl ([.ref h0, .int k, .int (nI a)]) ++ List.replicate (5 - (lg_sl ([.ref h0, .int k, .int (nI a)])).length) Slot.unset).toArray = ls at hl ⊢
  have hl : lv_has ls 5 [(0, .ref h0), (1, .int k), (2, .int (nI a))] := hl
  generalize hHe : s.heap = H at hP ⊢
  have hS : va_S A s.heap H [] := by rw [hHe]; exact va_S.rf
  generalize ([] : List Loc) = locs at hS ⊢
  refine lv_aload_n hx hb dX1_placeBehind_0 rfl (lv_at hl 0 rfl) ?_
  refine va_get (D := (dC, dI)) (ci := 1) (v := .int ln) (C := RX1) (T := TX1) (N := 4) hx hb hts hiX1 hown hK hP 0 rfl rfl 2 (by decide) (hts (.fieldLink RX1 18 "TickWalks$Line" "length" "I") (List.mem_of_getElem? (l := wsX1_placeBehind) (i := 1) rfl)) (fun _ h9 => h9) rfl dX1_placeBehind_1 ?_
  refine lv_if_ne (tgt := 14) hx hb dX1_placeBehind_4 (by decide) (fun c_4 => ?_) (fun c_4 => ?_)
  · refine lv_aload_n hx hb dX1_placeBehind_14 rfl (lv_at hl 0 rfl) ?_
    refine va_get (D := (dC, dI)) (ci := 1) (v := .int ln) (C := RX1) (T := TX1) (N := 4) hx hb hts hiX1 hown hK hP 0 rfl rfl 2 (by decide) (hts (.fieldLink RX1 18 "TickWalks$Line" "length" "I") (List.mem_of_getElem? (l := wsX1_placeBehind) (i := 1) rfl)) (fun _ h9 => h9) rfl dX1_placeBehind_15 ?_
    refine lv_i2l hx hb dX1_placeBehind_18 rfl ?_
    refine lv_lstore_n (lv' := [(3, .long ln.toInt64), (0, .ref h0), (1, .int k), (2, .int (nI a))]) hx hb dX1_placeBehind_19 rfl hl (by decide) rfl (fun ls hl => ?_)
    refine lv_aload_n hx hb dX1_placeBehind_20 rfl (lv_at hl 1 rfl) ?_
    refine va_get (D := (dC, dI)) (ci := 1) (v := .ref qf) (C := RX1) (T := TX1) (N := 4) hx hb hts hiX1 hown hK hP 0 rfl rfl 0 (by decide) (hts (.fieldLink RX1 9 "TickWalks$Line" "from" "[I") (List.mem_of_getElem? (l := wsX1_placeBehind) (i := 2) rfl)) (fun _ h9 => h9) rfl dX1_placeBehind_21 ?_
    refine lv_iload_n hx hb dX1_placeBehind_24 rfl (lv_at hl 3 rfl) ?_
    refine va_iald hx hb hK hP 1 0 rfl rfl (vp_in_nI ha (by decide)) dX1_placeBehind_25 ?_
    refine ct_topi (y := fv a) (congrArg fv (nI_clamp (show a < 2 ^ 31 by omega))) ?_
    refine lv_ldc2 (v := 2) hx hb hown (hts (.constantLong RX1 29 (2)) (List.mem_of_getElem? (l := wsX1_placeBehind) (i := 3) rfl)) dX1_placeBehind_26 ?_
    refine lv_aload_n hx hb dX1_placeBehind_29 rfl (lv_at hl 1 rfl) ?_
    refine va_get (D := (dC, dI)) (ci := 1) (v := .ref qb) (C := RX1) (T := TX1) (N := 4) hx hb hts hiX1 hown hK hP 0 rfl rfl 1 (by decide) (hts (.fieldLink RX1 15 "TickWalks$Line" "by" "[I") (List.mem_of_getElem? (l := wsX1_placeBehind) (i := 4) rfl)) (fun _ h9 => h9) rfl dX1_placeBehind_30 ?_
    refine lv_iload_n hx hb dX1_placeBehind_33 rfl (lv_at hl 3 rfl) ?_
    refine va_iald hx hb hK hP 2 0 rfl rfl (vp_in_nI ha (by decide)) dX1_placeBehind_34 ?_
    refine ct_topi (y := bv a) (congrArg bv (nI_clamp (show a < 2 ^ 31 by omega))) ?_
    refine lv_i2l hx hb dX1_placeBehind_35 rfl ?_
    refine lv_lmul hx hb dX1_placeBehind_36 ?_
    refine lv_iload_n hx hb dX1_placeBehind_37 rfl (lv_at hl 2 rfl) ?_
    refine lv_i2l hx hb dX1_placeBehind_38 rfl ?_
    refine lv_lmul hx hb dX1_placeBehind_39 ?_
    refine lv_lload_n hx hb dX1_placeBehind_40 rfl (lv_at hl 0 rfl) ?_
    refine lv_ladd hx hb dX1_placeBehind_41 ?_
    refine lv_ldc2 (v := 2) hx hb hown (hts (.constantLong RX1 29 (2)) (List.mem_of_getElem? (l := wsX1_placeBehind) (i := 3) rfl)) dX1_placeBehind_42 ?_
    refine lv_lload_n hx hb dX1_placeBehind_45 rfl (lv_at hl 0 rfl) ?_
    refine lv_lmul hx hb dX1_placeBehind_46 ?_
    refine ct_calll (va_runS (As := [.long (((2 * ((bv a).toInt64)) * k.toInt64) + ln.toInt64), .long (2 * ln.toInt64)]) (rest := [.int (fv a)]) ⟨hx, hb, hml, hown, hts⟩ (ma_floorDiv l dC dI cA cB H.size (((2 * ((bv a).toInt64)) * k.toInt64) + ln.toInt64) (2 * ln.toInt64) (ne_2l c_4)) (va_cwS 2 hts gX1_placeBehind_J9_floorDiv_f86c9 rfl rfl rfl (by decide +kernel) ⟨Nat.le_of_ble_eq_true rfl, Nat.le_of_ble_eq_true rfl⟩) ⟨ct_blind, ct_pre hP hD hK hZ hN hS hA [] rfl (by decide)⟩ rfl rfl hl.1 rfl (lv_room (Nat.le_of_ble_eq_true rfl)) dX1_placeBehind_47 ⟨Nat.le_of_ble_eq_true rfl, Nat.le_of_ble_eq_true rfl⟩) hP hD hS hA [] [0, 1, 2] rfl (wr := [(h0, .inr (1, [.ref qf, .ref qb, .int ln, .int sr])), (qf, .inl (cA, 3, .inl fv)), (qb, .inl (cA, 3, .inl bv))]) rfl (by decide) (by decide) (fun r_1 u9 H locs hw_1 hP hD hS => ?_)
    have hw_1 : r_1 = fd_f (((2 * ((bv a).toInt64)) * k.toInt64) + ln.toInt64) (2 * ln.toInt64) := hw_1
    have hP : va_P (dC, dI) vwCl [(h0, .inr (1, [.ref qf, .ref qb, .int ln, .int sr])), (qf, .inl (cA, 3, .inl fv)), (qb, .inl (cA, 3, .inl bv))] H := hP
    have hD : va_D A [(h0, .inr (1, [.ref qf, .ref qb, .int ln, .int sr])), (qf, .inl (cA, 3, .inl fv)), (qb, .inl (cA, 3, .inl bv))] := hD
    refine lv_l2i hx hb dX1_placeBehind_50 rfl ?_
    refine lv_iadd hx hb dX1_placeBehind_51 ?_
    have hP9 := hP.sub (ws' := [(h0, .inr (1, [.ref qf, .ref qb, .int ln, .int sr])), (qf, .inl (cA, 3, .inl fv)), (qb, .inl (cA, 3, .inl bv))]) [0, 1, 2] rfl
    have hD9 := hD.sub (ws' := [(h0, .inr (1, [.ref qf, .ref qb, .int ln, .int sr])), (qf, .inl (cA, 3, .inl fv)), (qb, .inl (cA, 3, .inl bv))]) [0, 1, 2] (by decide) rfl
    exact W.iret (v := (fv a) + r_1.toInt32) hx hb hr (fun t9 ht9 hW9 => ⟨⟨(fv a) + r_1.toInt32, (), rfl, (by unfold ln_p; rw [if_neg c_4, hw_1]), by rw [ht9]; exact hP9, hD9⟩, hS.F ht9⟩) hS.2.2 dX1_placeBehind_52
  · refine lv_aload_n hx hb dX1_placeBehind_7 rfl (lv_at hl 0 rfl) ?_
    refine va_get (D := (dC, dI)) (ci := 1) (v := .ref qf) (C := RX1) (T := TX1) (N := 4) hx hb hts hiX1 hown hK hP 0 rfl rfl 0 (by decide) (hts (.fieldLink RX1 9 "TickWalks$Line" "from" "[I") (List.mem_of_getElem? (l := wsX1_placeBehind) (i := 2) rfl)) (fun _ h9 => h9) rfl dX1_placeBehind_8 ?_
    refine lv_iload_n hx hb dX1_placeBehind_11 rfl (lv_at hl 2 rfl) ?_
    refine va_iald hx hb hK hP 1 0 rfl rfl (vp_in_nI ha (by decide)) dX1_placeBehind_12 ?_
    refine ct_topi (y := fv a) (congrArg fv (nI_clamp (show a < 2 ^ 31 by omega))) ?_
    have hP9 := hP.sub (ws' := [(h0, .inr (1, [.ref qf, .ref qb, .int ln, .int sr])), (qf, .inl (cA, 3, .inl fv)), (qb, .inl (cA, 3, .inl bv))]) [0, 1, 2] rfl
    have hD9 := hD.sub (ws' := [(h0, .inr (1, [.ref qf, .ref qb, .int ln, .int sr])), (qf, .inl (cA, 3, .inl fv)), (qb, .inl (cA, 3, .inl bv))]) [0, 1, 2] (by decide) rfl
    exact W.iret (v := fv a) hx hb hr (fun t9 ht9 hW9 => ⟨⟨fv a, (), rfl, (by unfold ln_p; rw [if_pos c_4]), by rw [ht9]; exact hP9, hD9⟩, hS.F ht9⟩) hS.2.2 dX1_placeBehind_13
set_option maxHeartbeats 4000000 in
set_option maxRecDepth 100000 in
/-- Line.countStrays -/
theorem li_count (l : Launch) (dC : Nat → ClassId) (dI : Nat → Nat → Nat) (cA cB : ClassId) (sz : Nat) (h0 : Nat) (qf : Nat) (qb : Nat) (ln : Int32) (sr : Int32) (fv : Nat → Int32) (bv : Nat → Int32) (N : Nat) (hN2 : ln = nI N ∧ N < 1000000) : Met l yX1_countStrays wsX1_countStrays ({ frames := 3, cells := 0, slots := 0, locals := 70 }) (va_Pc [.ref h0] (ct_P dC dI cA cB sz [(h0, .inr (1, [.ref qf, .ref qb, .int ln, .int sr])), (qf, .inl (cA, 3, .inl fv)), (qb, .inl (cA, 3, .inl bv))])) (va_Qi (fun (r : Int32) (u : Unit) => r = ln_c fv bv ln N) (fun (u : Unit) => ct_B dC dI (va_A [(h0, .inr (1, [.ref qf, .ref qb, .int ln, .int sr])), (qf, .inl (cA, 3, .inl fv)), (qb, .inl (cA, 3, .inl bv))] sz) [(h0, .inr (1, [.ref qf, .ref qb, .int ln, .int sr])), (qf, .inl (cA, 3, .inl fv)), (qb, .inl (cA, 3, .inl bv))]) (va_A [(h0, .inr (1, [.ref qf, .ref qb, .int ln, .int sr])), (qf, .inl (cA, 3, .inl fv)), (qb, .inl (cA, 3, .inl bv))] sz)) 0 0 (va_A [(h0, .inr (1, [.ref qf, .ref qb, .int ln, .int sr])), (qf, .inl (cA, 3, .inl fv)), (qb, .inl (cA, 3, .inl bv))] sz) := by
  refine Met.ofW (cc := cX1_countStrays) (maxL := 9) (ret := (some .int)) (by decide +kernel) rfl ?_
  intro p e s m args below meth c s₁ B hml hv
  obtain ⟨rfl, hsz, hP, hK, hD0, hZ, hN⟩ := hv
  have hx := B.exec
  have hb := B.bytes
  have hr := B.returns
  have hts := atoms_spec (ws := wsX1_countStrays) B.pre
  have hown : s.vm.findClass RX1 = some m.cls := findClass_of_methodNamed B.named
  have hlocks := B.notSynchronized
  have hiX1 : ∀ w ∈ u_ws RX1 TX1 4, w ∈ wsX1_countStrays := by decide +kernel
  subst hsz
  have hD := hD0.self (sz := s.heap.size)
  generalize hAe : va_A [(h0, .inr (1, [.ref qf, .ref qb, .int ln, .int sr])), (qf, .inl (cA, 3, .inl fv)), (qb, .inl (cA, 3, .inl bv))] s.heap.size = A at hD hZ ⊢
  have hA : ∀ q : Nat, s.heap.size ≤ q → A q := fun q h => by rw [← hAe]; exact Or.inr h
  have hl := lv_entry ([.ref h0]) (n := 9) (Nat.le_of_ble_eq_true rfl)
  rw [lg_entry_eq]
  generalize (lg_sl ([.ref h0]) ++ List.replicate (9 - (lg_sl ([.ref h0])).length) Slot.unset).toArray = ls at hl ⊢
  have hl : lv_has ls 9 [(0, .ref h0)] := hl
  generalize hHe : s.heap = H at hP ⊢
  have hS : va_S A s.heap H [] := by rw [hHe]; exact va_S.rf
  generalize ([] : List Loc) = locs at hS ⊢
  refine lv_iconst (v := 0) hx hb dX1_countStrays_0 (by decide) ?_
  refine lv_istore_n (lv' := [(1, .int 0), (0, .ref h0)]) hx hb dX1_countStrays_1 rfl hl (by decide) rfl (fun ls hl => ?_)
  refine lv_aload_n hx hb dX1_countStrays_2 rfl (lv_at hl 1 rfl) ?_
  refine va_get (D := (dC, dI)) (ci := 1) (v := .ref qf) (C := RX1) (T := TX1) (N := 4) hx hb hts hiX1 hown hK hP 0 rfl rfl 0 (by decide) (hts (.fieldLink RX1 9 "TickWalks$Line" "from" "[I") (List.mem_of_getElem? (l := wsX1_countStrays) (i := 1) rfl)) (fun _ h9 => h9) rfl dX1_countStrays_3 ?_
  refine lv_iconst (v := 0) hx hb dX1_countStrays_6 (by decide) ?_
  refine va_iald hx hb hK hP 1 0 rfl rfl (show vp_in 0 3 by unfold vp_in; decide) dX1_countStrays_7 ?_
  refine ct_topi (y := fv 0) (congrArg fv (show Int32.toNatClampNeg 0 = 0 by decide)) ?_
  refine lv_istore_n (lv' := [(2, .int (fv 0)), (1, .int 0), (0, .ref h0)]) hx hb dX1_countStrays_8 rfl hl (by decide) rfl (fun ls hl => ?_)
  refine lv_aload_n hx hb dX1_countStrays_9 rfl (lv_at hl 2 rfl) ?_
  refine va_get (D := (dC, dI)) (ci := 1) (v := .ref qf) (C := RX1) (T := TX1) (N := 4) hx hb hts hiX1 hown hK hP 0 rfl rfl 0 (by decide) (hts (.fieldLink RX1 9 "TickWalks$Line" "from" "[I") (List.mem_of_getElem? (l := wsX1_countStrays) (i := 1) rfl)) (fun _ h9 => h9) rfl dX1_countStrays_10 ?_
  refine lv_iconst (v := 1) hx hb dX1_countStrays_13 (by decide) ?_
  refine va_iald hx hb hK hP 1 0 rfl rfl (show vp_in 1 3 by unfold vp_in; decide) dX1_countStrays_14 ?_
  refine ct_topi (y := fv 1) (congrArg fv (show Int32.toNatClampNeg 1 = 1 by decide)) ?_
  refine lv_istore_n (lv' := [(3, .int (fv 1)), (2, .int (fv 0)), (1, .int 0), (0, .ref h0)]) hx hb dX1_countStrays_15 rfl hl (by decide) rfl (fun ls hl => ?_)
  refine lv_aload_n hx hb dX1_countStrays_16 rfl (lv_at hl 3 rfl) ?_
  refine va_get (D := (dC, dI)) (ci := 1) (v := .ref qf) (C := RX1) (T := TX1) (N := 4) hx hb hts hiX1 hown hK hP 0 rfl rfl 0 (by decide) (hts (.fieldLink RX1 9 "TickWalks$Line" "from" "[I") (List.mem_of_getElem? (l := wsX1_countStrays) (i := 1) rfl)) (fun _ h9 => h9) rfl dX1_countStrays_17 ?_
  refine lv_iconst (v := 2) hx hb dX1_countStrays_20 (by decide) ?_
  refine va_iald hx hb hK hP 1 0 rfl rfl (show vp_in 2 3 by unfold vp_in; decide) dX1_countStrays_21 ?_
  refine ct_topi (y := fv 2) (congrArg fv (show Int32.toNatClampNeg 2 = 2 by decide)) ?_
  refine lv_istore (lv' := [(4, .int (fv 2)), (3, .int (fv 1)), (2, .int (fv 0)), (1, .int 0), (0, .ref h0)]) hx hb dX1_countStrays_22 hl (by decide) rfl (fun ls hl => ?_)
  refine lv_iconst (v := 1) hx hb dX1_countStrays_24 (by decide) ?_
  refine lv_istore (lv' := [(5, .int 1), (4, .int (fv 2)), (3, .int (fv 1)), (2, .int (fv 0)), (1, .int 0), (0, .ref h0)]) hx hb dX1_countStrays_25 hl (by decide) rfl (fun ls hl => ?_)
  refine ct_loop (σ := Nat × Int32 × Int32 × Int32 × Int32) (fun n9 w9 H locs ls => n9 = N + 1 - w9.1 ∧ (1 ≤ w9.1 ∧ w9.1 ≤ N + 1) ∧ (w9.2.1 = ln_c fv bv ln (w9.1 - 1)) ∧ (w9.2.2.1 = ln_q (fv 0) (bv 0) ln (w9.1 - 1)) ∧ (w9.2.2.2.1 = ln_q (fv 1) (bv 1) ln (w9.1 - 1)) ∧ (w9.2.2.2.2 = ln_q (fv 2) (bv 2) ln (w9.1 - 1)) ∧ va_P (dC, dI) vwCl [(h0, .inr (1, [.ref qf, .ref qb, .int ln, .int sr])), (qf, .inl (cA, 3, .inl fv)), (qb, .inl (cA, 3, .inl bv))] H ∧ va_D A [(h0, .inr (1, [.ref qf, .ref qb, .int ln, .int sr])), (qf, .inl (cA, 3, .inl fv)), (qb, .inl (cA, 3, .inl bv))] ∧ va_S A s.heap H locs ∧ lv_has ls 9 [(5, .int (nI w9.1)), (0, .ref h0), (1, .int w9.2.1), (2, .int w9.2.2.1), (3, .int w9.2.2.2.1), (4, .int w9.2.2.2.2)]) (fun n9 w9 H locs ls hJ ih_27 => ?_) (N + 1 - 1) (1, 0, fv 0, fv 1, fv 2) _ _ _ ⟨rfl, (⟨Nat.le_refl 1, by omega⟩), rfl, rfl, rfl, rfl, (hP.sub [0, 1, 2] rfl), (hD.sub [0, 1, 2] (by decide) rfl), hS, (lv_sub hl [0, 5, 4, 3, 2, 1] rfl)⟩
  obtain ⟨i, ct0, vx, vy, vz⟩ := w9
  obtain ⟨hn_27, hi, hc, hvx, hvy, hvz, hP, hD, hS, hl⟩ := hJ
  have hn_27 : n9 = N + 1 - i := hn_27
  have hi : 1 ≤ i ∧ i ≤ N + 1 := hi
  have hc : ct0 = ln_c fv bv ln (i - 1) := hc
  have hvx : vx = ln_q (fv 0) (bv 0) ln (i - 1) := hvx
  have hvy : vy = ln_q (fv 1) (bv 1) ln (i - 1) := hvy
  have hvz : vz = ln_q (fv 2) (bv 2) ln (i - 1) := hvz
  have hP : va_P (dC, dI) vwCl [(h0, .inr (1, [.ref qf, .ref qb, .int ln, .int sr])), (qf, .inl (cA, 3, .inl fv)), (qb, .inl (cA, 3, .inl bv))] H := hP
  have hD : va_D A [(h0, .inr (1, [.ref qf, .ref qb, .int ln, .int sr])), (qf, .inl (cA, 3, .inl fv)), (qb, .inl (cA, 3, .inl bv))] := hD
  have hl : lv_has ls 9 [(5, .int (nI i)), (0, .ref h0), (1, .int ct0), (2, .int vx), (3, .int vy), (4, .int vz)] := hl
  refine lv_iload hx hb dX1_countStrays_27 (lv_at hl 0 rfl) ?_
  refine lv_aload_n hx hb dX1_countStrays_29 rfl (lv_at hl 1 rfl) ?_
  refine va_get (D := (dC, dI)) (ci := 1) (v := .int ln) (C := RX1) (T := TX1) (N := 4) hx hb hts hiX1 hown hK hP 0 rfl rfl 2 (by decide) (hts (.fieldLink RX1 18 "TickWalks$Line" "length" "I") (List.mem_of_getElem? (l := wsX1_countStrays) (i := 2) rfl)) (fun _ h9 => h9) rfl dX1_countStrays_30 ?_
  refine lv_icmp_gt (tgt := 101) hx hb dX1_countStrays_33 (by decide) (fun c_33 => ?_) (fun c_33 => ?_)
  · refine lv_iload_n hx hb dX1_countStrays_101 rfl (lv_at hl 2 rfl) ?_
    have hP9 := hP.sub (ws' := [(h0, .inr (1, [.ref qf, .ref qb, .int ln, .int sr])), (qf, .inl (cA, 3, .inl fv)), (qb, .inl (cA, 3, .inl bv))]) [0, 1, 2] rfl
    have hD9 := hD.sub (ws' := [(h0, .inr (1, [.ref qf, .ref qb, .int ln, .int sr])), (qf, .inl (cA, 3, .inl fv)), (qb, .inl (cA, 3, .inl bv))]) [0, 1, 2] (by decide) rfl
    exact W.iret (v := ct0) hx hb hr (fun t9 ht9 hW9 => ⟨⟨ct0, (), rfl, li_end hN2 hi c_33 hc, by rw [ht9]; exact hP9, hD9⟩, hS.F ht9⟩) hS.2.2 dX1_countStrays_102
  · have hle : i ≤ N := by
      rcases Nat.lt_or_ge N i with h | h
      · exact absurd (show ln < nI i by rw [hN2.1]; exact nI_lt h (by omega)) c_33
      · exact h
    obtain ⟨k, rfl⟩ : ∃ k, i = k + 1 := ⟨i - 1, by omega⟩
    refine lv_aload_n hx hb dX1_countStrays_36 rfl (lv_at hl 1 rfl) ?_
    refine lv_iload hx hb dX1_countStrays_37 (lv_at hl 0 rfl) ?_
    refine lv_iconst (v := 0) hx hb dX1_countStrays_39 (by decide) ?_
    refine ct_topi (y := nI 0) rfl ?_
    refine ct_calli (va_runV (As := [.int (nI (k + 1)), .int (nI 0)]) (rest := []) ⟨hx, hb, hml, hown, hts⟩ (li_place l dC dI cA cB H.size h0 qf qb ln sr fv bv (nI (k + 1)) 0 (by omega)) (cwV 2 hts gX1_countStrays_X1_placeBehind rfl rfl rfl (by decide +kernel) ⟨Nat.le_of_ble_eq_true rfl, Nat.le_of_ble_eq_true rfl⟩) ⟨ct_blind, va_recv hK hP (ci := 1) (q0 := 0) rfl rfl, ct_pre hP hD hK hZ hN hS hA [0, 1, 2] rfl (by decide)⟩ rfl rfl hl.1 rfl (lv_room (Nat.le_of_ble_eq_true rfl)) dX1_countStrays_40 ⟨Nat.le_of_ble_eq_true rfl, Nat.le_of_ble_eq_true rfl⟩) hP hD hS hA [0, 1, 2] [] rfl (wr := []) rfl (by decide) (by decide) (fun r_1 u9 H locs hw_1 hP hD hS => ?_)
    have hw_1 : r_1 = ln_p (fv 0) (bv 0) ln (nI (k + 1)) := hw_1
    have hP : va_P (dC, dI) vwCl [(h0, .inr (1, [.ref qf, .ref qb, .int ln, .int sr])), (qf, .inl (cA, 3, .inl fv)), (qb, .inl (cA, 3, .inl bv))] H := hP
    have hD : va_D A [(h0, .inr (1, [.ref qf, .ref qb, .int ln, .int sr])), (qf, .inl (cA, 3, .inl fv)), (qb, .inl (cA, 3, .inl bv))] := hD
    refine lv_istore (lv' := [(6, .int r_1), (5, .int (nI (k + 1))), (0, .ref h0), (1, .int ct0), (2, .int vx), (3, .int vy), (4, .int vz)]) hx hb dX1_countStrays_43 hl (by decide) rfl (fun ls hl => ?_)
    refine lv_aload_n hx hb dX1_countStrays_45 rfl (lv_at hl 2 rfl) ?_
    refine lv_iload hx hb dX1_countStrays_46 (lv_at hl 1 rfl) ?_
    refine lv_iconst (v := 1) hx hb dX1_countStrays_48 (by decide) ?_
    refine ct_topi (y := nI 1) rfl ?_
    refine ct_calli (va_runV (As := [.int (nI (k + 1)), .int (nI 1)]) (rest := []) ⟨hx, hb, hml, hown, hts⟩ (li_place l dC dI cA cB H.size h0 qf qb ln sr fv bv (nI (k + 1)) 1 (by omega)) (cwV 2 hts gX1_countStrays_X1_placeBehind rfl rfl rfl (by decide +kernel) ⟨Nat.le_of_ble_eq_true rfl, Nat.le_of_ble_eq_true rfl⟩) ⟨ct_blind, va_recv hK hP (ci := 1) (q0 := 0) rfl rfl, ct_pre hP hD hK hZ hN hS hA [0, 1, 2] rfl (by decide)⟩ rfl rfl hl.1 rfl (lv_room (Nat.le_of_ble_eq_true rfl)) dX1_countStrays_49 ⟨Nat.le_of_ble_eq_true rfl, Nat.le_of_ble_eq_true rfl⟩) hP hD hS hA [0, 1, 2] [] rfl (wr := []) rfl (by decide) (by decide) (fun r_2 u9 H locs hw_2 hP hD hS => ?_)
    have hw_2 : r_2 = ln_p (fv 1) (bv 1) ln (nI (k + 1)) := hw_2
    have hP : va_P (dC, dI) vwCl [(h0, .inr (1, [.ref qf, .ref qb, .int ln, .int sr])), (qf, .inl (cA, 3, .inl fv)), (qb, .inl (cA, 3, .inl bv))] H := hP
    have hD : va_D A [(h0, .inr (1, [.ref qf, .ref qb, .int ln, .int sr])), (qf, .inl (cA, 3, .inl fv)), (qb, .inl (cA, 3, .inl bv))] := hD
    refine lv_istore (lv' := [(7, .int r_2), (6, .int r_1), (5, .int (nI (k + 1))), (0, .ref h0), (1, .int ct0), (2, .int vx), (3, .int vy), (4, .int vz)]) hx hb dX1_countStrays_52 hl (by decide) rfl (fun ls hl => ?_)
    refine lv_aload_n hx hb dX1_countStrays_54 rfl (lv_at hl 3 rfl) ?_
    refine lv_iload hx hb dX1_countStrays_55 (lv_at hl 2 rfl) ?_
    refine lv_iconst (v := 2) hx hb dX1_countStrays_57 (by decide) ?_
    refine ct_topi (y := nI 2) rfl ?_
    refine ct_calli (va_runV (As := [.int (nI (k + 1)), .int (nI 2)]) (rest := []) ⟨hx, hb, hml, hown, hts⟩ (li_place l dC dI cA cB H.size h0 qf qb ln sr fv bv (nI (k + 1)) 2 (by omega)) (cwV 2 hts gX1_countStrays_X1_placeBehind rfl rfl rfl (by decide +kernel) ⟨Nat.le_of_ble_eq_true rfl, Nat.le_of_ble_eq_true rfl⟩) ⟨ct_blind, va_recv hK hP (ci := 1) (q0 := 0) rfl rfl, ct_pre hP hD hK hZ hN hS hA [0, 1, 2] rfl (by decide)⟩ rfl rfl hl.1 rfl (lv_room (Nat.le_of_ble_eq_true rfl)) dX1_countStrays_58 ⟨Nat.le_of_ble_eq_true rfl, Nat.le_of_ble_eq_true rfl⟩) hP hD hS hA [0, 1, 2] [] rfl (wr := []) rfl (by decide) (by decide) (fun r_3 u9 H locs hw_3 hP hD hS => ?_)
    have hw_3 : r_3 = ln_p (fv 2) (bv 2) ln (nI (k + 1)) := hw_3
    have hP : va_P (dC, dI) vwCl [(h0, .inr (1, [.ref qf, .ref qb, .int ln, .int sr])), (qf, .inl (cA, 3, .inl fv)), (qb, .inl (cA, 3, .inl bv))] H := hP
    have hD : va_D A [(h0, .inr (1, [.ref qf, .ref qb, .int ln, .int sr])), (qf, .inl (cA, 3, .inl fv)), (qb, .inl (cA, 3, .inl bv))] := hD
    refine lv_istore (lv' := [(8, .int r_3), (7, .int r_2), (6, .int r_1), (5, .int (nI (k + 1))), (0, .ref h0), (1, .int ct0), (2, .int vx), (3, .int vy), (4, .int vz)]) hx hb dX1_countStrays_61 hl (by decide) rfl (fun ls hl => ?_)
    have hx2 : r_1 = ln_q (fv 0) (bv 0) ln (k + 1) := hw_1
    have hy2 : r_2 = ln_q (fv 1) (bv 1) ln (k + 1) := hw_2
    have hz2 : r_3 = ln_q (fv 2) (bv 2) ln (k + 1) := hw_3
    refine lv_iload hx hb dX1_countStrays_63 (lv_at hl 2 rfl) ?_
    refine lv_iload_n hx hb dX1_countStrays_65 rfl (lv_at hl 6 rfl) ?_
    refine lv_isub hx hb dX1_countStrays_66 ?_
    refine lv_iload hx hb dX1_countStrays_67 (lv_at hl 1 rfl) ?_
    refine lv_iload_n hx hb dX1_countStrays_69 rfl (lv_at hl 7 rfl) ?_
    refine lv_isub hx hb dX1_countStrays_70 ?_
    refine lv_iload hx hb dX1_countStrays_71 (lv_at hl 0 rfl) ?_
    refine lv_iload hx hb dX1_countStrays_73 (lv_at hl 8 rfl) ?_
    refine lv_isub hx hb dX1_countStrays_75 ?_
    refine ct_calli (va_runSN (As := [.int (r_1 - vx), .int (r_2 - vy), .int (r_3 - vz)]) (rest := []) ⟨hx, hb, hml, hown, hts⟩ (ct_isStray l dC dI cA cB H.size (r_1 - vx) (r_2 - vy) (r_3 - vz) ) ⟨va_cnB (host := "TickWalks") 3 hts gX1_countStrays_X3_isStray_n45 rfl rfl rfl hN.2.2.2.2.2.2.2.2.1 (hts (.initialized RX3) (List.mem_of_getElem? (l := wsX1_countStrays) (i := 15) rfl)) (by decide +kernel) ⟨Nat.le_of_ble_eq_true rfl, Nat.le_of_ble_eq_true rfl⟩, (hts (.static yX3_isStray) (List.mem_of_getElem? (l := wsX1_countStrays) (i := 14) rfl)), trivial⟩ ⟨ct_blind, ct_pre hP hD hK hZ hN hS hA [] rfl (by decide)⟩ rfl rfl hl.1 rfl (lv_room (Nat.le_of_ble_eq_true rfl)) dX1_countStrays_76 ⟨Nat.le_of_ble_eq_true rfl, Nat.le_of_ble_eq_true rfl⟩) hP hD hS hA [] [0, 1, 2] rfl (wr := [(h0, .inr (1, [.ref qf, .ref qb, .int ln, .int sr])), (qf, .inl (cA, 3, .inl fv)), (qb, .inl (cA, 3, .inl bv))]) rfl (by decide) (by decide) (fun r_4 u9 H locs hw_4 hP hD hS => ?_)
    have hw_4 : bo_z r_4 (¬ ga_m (r_1 - vx) (r_2 - vy) (r_3 - vz) = 1) := hw_4
    have hP : va_P (dC, dI) vwCl [(h0, .inr (1, [.ref qf, .ref qb, .int ln, .int sr])), (qf, .inl (cA, 3, .inl fv)), (qb, .inl (cA, 3, .inl bv))] H := hP
    have hD : va_D A [(h0, .inr (1, [.ref qf, .ref qb, .int ln, .int sr])), (qf, .inl (cA, 3, .inl fv)), (qb, .inl (cA, 3, .inl bv))] := hD
    refine lv_if_eq (tgt := 85) hx hb dX1_countStrays_79 (by decide) (fun c_79 => ?_) (fun c_79 => ?_)
    · have hc2 : ct0 = ln_c fv bv ln (k + 1) := by rw [ln_c, ← hx2, ← hy2, ← hz2, if_pos (by have h := Decidable.not_not.mp (hw_4.f c_79); rw [hvx, hvy, hvz] at h; exact h)]; exact hc
      refine lv_iload hx hb dX1_countStrays_85 (lv_at hl 2 rfl) ?_
      refine lv_istore_n (lv' := [(2, .int r_1), (8, .int r_3), (7, .int r_2), (6, .int r_1), (5, .int (nI (k + 1))), (0, .ref h0), (1, .int ct0), (3, .int vy), (4, .int vz)]) hx hb dX1_countStrays_87 rfl hl (by decide) rfl (fun ls hl => ?_)
      refine lv_iload hx hb dX1_countStrays_88 (lv_at hl 2 rfl) ?_
      refine lv_istore_n (lv' := [(3, .int r_2), (2, .int r_1), (8, .int r_3), (7, .int r_2), (6, .int r_1), (5, .int (nI (k + 1))), (0, .ref h0), (1, .int ct0), (4, .int vz)]) hx hb dX1_countStrays_90 rfl hl (by decide) rfl (fun ls hl => ?_)
      refine lv_iload hx hb dX1_countStrays_91 (lv_at hl 2 rfl) ?_
      refine lv_istore (lv' := [(4, .int r_3), (3, .int r_2), (2, .int r_1), (8, .int r_3), (7, .int r_2), (6, .int r_1), (5, .int (nI (k + 1))), (0, .ref h0), (1, .int ct0)]) hx hb dX1_countStrays_93 hl (by decide) rfl (fun ls hl => ?_)
      refine lv_iinc (v := nI (k + 1 + 1)) (lv' := [(5, .int (nI (k + 1 + 1))), (4, .int r_3), (3, .int r_2), (2, .int r_1), (8, .int r_3), (7, .int r_2), (6, .int r_1), (0, .ref h0), (1, .int ct0)]) hx hb dX1_countStrays_95 hl (k := 6) rfl (nI_1 (k + 1)) (by decide) rfl (fun ls hl => ?_)
      refine lv_goto (tgt := 27) hx hb dX1_countStrays_98 (by decide) ?_
      exact ih_27 _ ((k + 1 + 1), ct0, r_1, r_2, r_3) _ _ _ (by rw [hn_27]; omega) ⟨rfl, (⟨by omega, by omega⟩), hc2, hx2, hy2, hz2, (hP.sub [0, 1, 2] rfl), (hD.sub [0, 1, 2] (by decide) rfl), hS, (lv_sub hl [0, 7, 8, 3, 2, 1] rfl)⟩
    · refine lv_iinc (v := ct0 + 1) (lv' := [(1, .int (ct0 + 1)), (8, .int r_3), (7, .int r_2), (6, .int r_1), (5, .int (nI (k + 1))), (0, .ref h0), (2, .int vx), (3, .int vy), (4, .int vz)]) hx hb dX1_countStrays_82 hl (k := 5) rfl rfl (by decide) rfl (fun ls hl => ?_)
      have hc2 : ct0 + 1 = ln_c fv bv ln (k + 1) := by rw [ln_c, ← hx2, ← hy2, ← hz2, if_neg (by have h := hw_4.t c_79; rw [hvx, hvy, hvz] at h; exact h), hc]; rfl
      refine lv_iload hx hb dX1_countStrays_85 (lv_at hl 3 rfl) ?_
      refine lv_istore_n (lv' := [(2, .int r_1), (1, .int (ct0 + 1)), (8, .int r_3), (7, .int r_2), (6, .int r_1), (5, .int (nI (k + 1))), (0, .ref h0), (3, .int vy), (4, .int vz)]) hx hb dX1_countStrays_87 rfl hl (by decide) rfl (fun ls hl => ?_)
      refine lv_iload hx hb dX1_countStrays_88 (lv_at hl 3 rfl) ?_
      refine lv_istore_n (lv' := [(3, .int r_2), (2, .int r_1), (1, .int (ct0 + 1)), (8, .int r_3), (7, .int r_2), (6, .int r_1), (5, .int (nI (k + 1))), (0, .ref h0), (4, .int vz)]) hx hb dX1_countStrays_90 rfl hl (by decide) rfl (fun ls hl => ?_)
      refine lv_iload hx hb dX1_countStrays_91 (lv_at hl 3 rfl) ?_
      refine lv_istore (lv' := [(4, .int r_3), (3, .int r_2), (2, .int r_1), (1, .int (ct0 + 1)), (8, .int r_3), (7, .int r_2), (6, .int r_1), (5, .int (nI (k + 1))), (0, .ref h0)]) hx hb dX1_countStrays_93 hl (by decide) rfl (fun ls hl => ?_)
      refine lv_iinc (v := nI (k + 1 + 1)) (lv' := [(5, .int (nI (k + 1 + 1))), (4, .int r_3), (3, .int r_2), (2, .int r_1), (1, .int (ct0 + 1)), (8, .int r_3), (7, .int r_2), (6, .int r_1), (0, .ref h0)]) hx hb dX1_countStrays_95 hl (k := 7) rfl (nI_1 (k + 1)) (by decide) rfl (fun ls hl => ?_)
      refine lv_goto (tgt := 27) hx hb dX1_countStrays_98 (by decide) ?_
      exact ih_27 _ ((k + 1 + 1), ct0 + 1, r_1, r_2, r_3) _ _ _ (by rw [hn_27]; omega) ⟨rfl, (⟨by omega, by omega⟩), hc2, hx2, hy2, hz2, (hP.sub [0, 1, 2] rfl), (hD.sub [0, 1, 2] (by decide) rfl), hS, (lv_sub hl [0, 8, 4, 3, 2, 1] rfl)⟩
set_option maxHeartbeats 4000000 in
set_option maxRecDepth 100000 in
/-- Line.strayTicks -/
theorem li_strays (l : Launch) (dC : Nat → ClassId) (dI : Nat → Nat → Nat) (cA cB : ClassId) (sz : Nat) (h0 : Nat) (qf : Nat) (qb : Nat) (ln : Int32) (sr : Int32) (fv : Nat → Int32) (bv : Nat → Int32) (N : Nat) (hN2 : ln = nI N ∧ N < 1000000) : Met l yX1_strayTicks wsX1_strayTicks ({ frames := 4, cells := 0, slots := 0, locals := 98 }) (va_Pc [.ref h0] (ct_P dC dI cA cB sz [(h0, .inr (1, [.ref qf, .ref qb, .int ln, .int sr])), (qf, .inl (cA, 3, .inl fv)), (qb, .inl (cA, 3, .inl bv))])) (va_Qi (fun (r : Int32) (u : Int32) => r = u ∧ ((sr = -1 ∧ u = ln_c fv bv ln N) ∨ (¬ sr = -1 ∧ u = sr))) (fun (u : Int32) => ct_B dC dI (va_A [(h0, .inr (1, [.ref qf, .ref qb, .int ln, .int sr])), (qf, .inl (cA, 3, .inl fv)), (qb, .inl (cA, 3, .inl bv))] sz) [(h0, .inr (1, [.ref qf, .ref qb, .int ln, .int u])), (qf, .inl (cA, 3, .inl fv)), (qb, .inl (cA, 3, .inl bv))]) (va_A [(h0, .inr (1, [.ref qf, .ref qb, .int ln, .int sr])), (qf, .inl (cA, 3, .inl fv)), (qb, .inl (cA, 3, .inl bv))] sz)) 0 0 (va_A [(h0, .inr (1, [.ref qf, .ref qb, .int ln, .int sr])), (qf, .inl (cA, 3, .inl fv)), (qb, .inl (cA, 3, .inl bv))] sz) := by
  refine Met.ofW (cc := cX1_strayTicks) (maxL := 1) (ret := (some .int)) (by decide +kernel) rfl ?_
  intro p e s m args below meth c s₁ B hml hv
  obtain ⟨rfl, hsz, hP, hK, hD0, hZ, hN⟩ := hv
  have hx := B.exec
  have hb := B.bytes
  have hr := B.returns
  have hts := atoms_spec (ws := wsX1_strayTicks) B.pre
  have hown : s.vm.findClass RX1 = some m.cls := findClass_of_methodNamed B.named
  have hlocks := B.notSynchronized
  have hiX1 : ∀ w ∈ u_ws RX1 TX1 4, w ∈ wsX1_strayTicks := by decide +kernel
  subst hsz
  have hD := hD0.self (sz := s.heap.size)
  generalize hAe : va_A [(h0, .inr (1, [.ref qf, .ref qb, .int ln, .int sr])), (qf, .inl (cA, 3, .inl fv)), (qb, .inl (cA, 3, .inl bv))] s.heap.size = A at hD hZ ⊢
  have hA : ∀ q : Nat, s.heap.size ≤ q → A q := fun q h => by rw [← hAe]; exact Or.inr h
  have hl := lv_entry ([.ref h0]) (n := 1) (Nat.le_of_ble_eq_true rfl)
  rw [lg_entry_eq]
  generalize (lg_sl ([.ref h0]) ++ List.replicate (1 - (lg_sl ([.ref h0])).length) Slot.unset).toArray = ls at hl ⊢
  have hl : lv_has ls 1 [(0, .ref h0)] := hl
  generalize hHe : s.heap = H at hP ⊢
  have hS : va_S A s.heap H [] := by rw [hHe]; exact va_S.rf
  generalize ([] : List Loc) = locs at hS ⊢
  refine lv_aload_n hx hb dX1_strayTicks_0 rfl (lv_at hl 0 rfl) ?_
  refine va_get (D := (dC, dI)) (ci := 1) (v := .int sr) (C := RX1) (T := TX1) (N := 4) hx hb hts hiX1 hown hK hP 0 rfl rfl 3 (by decide) (hts (.fieldLink RX1 22 "TickWalks$Line" "strays" "I") (List.mem_of_getElem? (l := wsX1_strayTicks) (i := 1) rfl)) (fun _ h9 => h9) rfl dX1_strayTicks_1 ?_
  refine lv_iconst (v := -1) hx hb dX1_strayTicks_4 (by decide) ?_
  refine lv_icmp_ne (tgt := 16) hx hb dX1_strayTicks_5 (by decide) (fun c_5 => ?_) (fun c_5 => ?_)
  · refine lv_aload_n hx hb dX1_strayTicks_16 rfl (lv_at hl 0 rfl) ?_
    refine va_get (D := (dC, dI)) (ci := 1) (v := .int sr) (C := RX1) (T := TX1) (N := 4) hx hb hts hiX1 hown hK hP 0 rfl rfl 3 (by decide) (hts (.fieldLink RX1 22 "TickWalks$Line" "strays" "I") (List.mem_of_getElem? (l := wsX1_strayTicks) (i := 1) rfl)) (fun _ h9 => h9) rfl dX1_strayTicks_17 ?_
    have hP9 := hP.sub (ws' := [(h0, .inr (1, [.ref qf, .ref qb, .int ln, .int sr])), (qf, .inl (cA, 3, .inl fv)), (qb, .inl (cA, 3, .inl bv))]) [0, 1, 2] rfl
    have hD9 := hD.sub (ws' := [(h0, .inr (1, [.ref qf, .ref qb, .int ln, .int sr])), (qf, .inl (cA, 3, .inl fv)), (qb, .inl (cA, 3, .inl bv))]) [0, 1, 2] (by decide) rfl
    exact W.iret (v := sr) hx hb hr (fun t9 ht9 hW9 => ⟨⟨sr, (sr), rfl, ⟨rfl, Or.inr ⟨c_5, rfl⟩⟩, by rw [ht9]; exact hP9, hD9⟩, hS.F ht9⟩) hS.2.2 dX1_strayTicks_20
  · refine lv_aload_n hx hb dX1_strayTicks_8 rfl (lv_at hl 0 rfl) ?_
    refine lv_aload_n hx hb dX1_strayTicks_9 rfl (lv_at hl 0 rfl) ?_
    refine ct_calli (va_runV (As := []) (rest := [.ref h0]) ⟨hx, hb, hml, hown, hts⟩ (li_count l dC dI cA cB H.size h0 qf qb ln sr fv bv N hN2) (cwV 0 hts gX1_strayTicks_X1_countStrays rfl rfl rfl (by decide +kernel) ⟨Nat.le_of_ble_eq_true rfl, Nat.le_of_ble_eq_true rfl⟩) ⟨ct_blind, va_recv hK hP (ci := 1) (q0 := 0) rfl rfl, ct_pre hP hD hK hZ hN hS hA [0, 1, 2] rfl (by decide)⟩ rfl rfl hl.1 rfl (lv_room (Nat.le_of_ble_eq_true rfl)) dX1_strayTicks_10 ⟨Nat.le_of_ble_eq_true rfl, Nat.le_of_ble_eq_true rfl⟩) hP hD hS hA [0, 1, 2] [] rfl (wr := []) rfl (by decide) (by decide) (fun r_1 u9 H locs hw_1 hP hD hS => ?_)
    have hw_1 : r_1 = ln_c fv bv ln N := hw_1
    have hP : va_P (dC, dI) vwCl [(h0, .inr (1, [.ref qf, .ref qb, .int ln, .int sr])), (qf, .inl (cA, 3, .inl fv)), (qb, .inl (cA, 3, .inl bv))] H := hP
    have hD : va_D A [(h0, .inr (1, [.ref qf, .ref qb, .int ln, .int sr])), (qf, .inl (cA, 3, .inl fv)), (qb, .inl (cA, 3, .inl bv))] := hD
    refine va_put (D := (dC, dI)) (ci := 1) (v := .int r_1) (ty := .int) (C := RX1) (T := TX1) (N := 4) hx hb hts hiX1 tyX1 tyX1_ok nmX1 hown hK hP hD hS 0 rfl rfl 3 (by decide) (hts (.fieldLink RX1 22 "TickWalks$Line" "strays" "I") (List.mem_of_getElem? (l := wsX1_strayTicks) (i := 1) rfl)) (fun _ h9 => h9) rfl (by decide +kernel) rfl rfl (Nat.le_of_ble_eq_true rfl) dX1_strayTicks_13 (fun H locs hP hD hS => ?_)
    have hP : va_P (dC, dI) vwCl [(h0, .inr (1, [.ref qf, .ref qb, .int ln, .int r_1])), (qf, .inl (cA, 3, .inl fv)), (qb, .inl (cA, 3, .inl bv))] H := hP
    have hD : va_D A [(h0, .inr (1, [.ref qf, .ref qb, .int ln, .int r_1])), (qf, .inl (cA, 3, .inl fv)), (qb, .inl (cA, 3, .inl bv))] := hD
    refine lv_aload_n hx hb dX1_strayTicks_16 rfl (lv_at hl 0 rfl) ?_
    refine va_get (D := (dC, dI)) (ci := 1) (v := .int r_1) (C := RX1) (T := TX1) (N := 4) hx hb hts hiX1 hown hK hP 0 rfl rfl 3 (by decide) (hts (.fieldLink RX1 22 "TickWalks$Line" "strays" "I") (List.mem_of_getElem? (l := wsX1_strayTicks) (i := 1) rfl)) (fun _ h9 => h9) rfl dX1_strayTicks_17 ?_
    have hP9 := hP.sub (ws' := [(h0, .inr (1, [.ref qf, .ref qb, .int ln, .int r_1])), (qf, .inl (cA, 3, .inl fv)), (qb, .inl (cA, 3, .inl bv))]) [0, 1, 2] rfl
    have hD9 := hD.sub (ws' := [(h0, .inr (1, [.ref qf, .ref qb, .int ln, .int r_1])), (qf, .inl (cA, 3, .inl fv)), (qb, .inl (cA, 3, .inl bv))]) [0, 1, 2] (by decide) rfl
    exact W.iret (v := r_1) hx hb hr (fun t9 ht9 hW9 => ⟨⟨r_1, (r_1), rfl, ⟨rfl, Or.inl ⟨c_5, hw_1⟩⟩, by rw [ht9]; exact hP9, hD9⟩, hS.F ht9⟩) hS.2.2 dX1_strayTicks_20
end
section
set_option maxHeartbeats 4000000 in
set_option maxRecDepth 100000 in
/-- Walk.<init> -/
theorem wa_init (l : Launch) (dC : Nat → ClassId) (dI : Nat → Nat → Nat) (cA cB : ClassId) (sz : Nat) (h0 : Nat) : Met l yX2_init wsX2_init ({ frames := 1, cells := 0, slots := 0, locals := 12 }) (va_Pc [.ref h0] (ct_P dC dI cA cB sz [])) (va_Qv (fun (u : Unit) => True) (fun (u : Unit) => ct_B dC dI (va_A [] sz) []) (va_A [] sz)) 0 0 (va_A [] sz) := by
  refine Met.ofW (cc := cX2_init) (maxL := 1) (ret := none) (by decide +kernel) rfl ?_
  intro p e s m args below meth c s₁ B hml hv
  obtain ⟨rfl, hsz, hP, hK, hD0, hZ, hN⟩ := hv
  have hx := B.exec
  have hb := B.bytes
  have hr := B.returns
  have hts := atoms_spec (ws := wsX2_init) B.pre
  have hown : s.vm.findClass RX2 = some m.cls := findClass_of_methodNamed B.named
  have hlocks := B.notSynchronized
  have hin : meth.name = "<init>" := (name_of_methodNamed B.named B.method).1
  subst hsz
  have hD := hD0.self (sz := s.heap.size)
  generalize hAe : va_A [] s.heap.size = A at hD hZ ⊢
  have hA : ∀ q : Nat, s.heap.size ≤ q → A q := fun q h => by rw [← hAe]; exact Or.inr h
  have hl := lv_entry ([.ref h0]) (n := 1) (Nat.le_of_ble_eq_true rfl)
  rw [lg_entry_eq]
  generalize (lg_sl ([.ref h0]) ++ List.replicate (1 - (lg_sl ([.ref h0])).length) Slot.unset).toArray = ls at hl ⊢
  have hl : lv_has ls 1 [(0, .ref h0)] := hl
  generalize hHe : s.heap = H at hP ⊢
  have hS : va_S A s.heap H [] := by rw [hHe]; exact va_S.rf
  generalize ([] : List Loc) = locs at hS ⊢
  refine lv_aload_n hx hb dX2_init_0 rfl (lv_at hl 0 rfl) ?_
  refine W.objInit hx hb hown (hts (.methodLink RX2 1 objectInit) (List.mem_of_getElem? (l := wsX2_init) (i := 1) rfl)) (hts (.instanceMethod objectInit) (List.mem_of_getElem? (l := wsX2_init) (i := 2) rfl)) (hts (.code objectInit ⟨#[0xb1]⟩ 1 none) (List.mem_of_getElem? (l := wsX2_init) (i := 3) rfl)) rfl (by rw [hml]; exact hl.1) rfl dX2_init_1 (Nat.le_of_ble_eq_true rfl) (Nat.le_of_ble_eq_true rfl) ?_
  refine W.eq (g2 := F0 m 4 ls []) rfl ?_
  have hP9 := hP.sub (ws' := []) [] rfl
  have hD9 := hD.sub (ws' := []) [] (by decide) rfl
  exact W.vret hx hb hr (fun t9 ht9 hW9 => ⟨⟨(), rfl, trivial, by rw [ht9]; exact hP9, hD9⟩, hS.F ht9⟩) hS.2.2 dX2_init_4
set_option maxHeartbeats 4000000 in
set_option maxRecDepth 100000 in
/-- Line.<init> -/
theorem li_init (l : Launch) (dC : Nat → ClassId) (dI : Nat → Nat → Nat) (cA cB : ClassId) (sz : Nat) (h0 : Nat) : Met l yX1_init wsX1_init ({ frames := 2, cells := 2, slots := 6, locals := 32 }) (va_Pc [.ref h0] (ct_P dC dI cA cB sz [(h0, .inr (1, [.null, .null, .int 0, .int 0]))])) (va_Qv (fun (u : Nat × Nat) => True) (fun (u : Nat × Nat) => ct_B dC dI (va_A [(h0, .inr (1, [.null, .null, .int 0, .int 0]))] sz) [(h0, .inr (1, [.ref u.1, .ref u.2, .int 0, .int (-1)])), (u.1, .inl (cA, 3, .inl (fun _ => 0))), (u.2, .inl (cA, 3, .inl (fun _ => 0)))]) (va_A [(h0, .inr (1, [.null, .null, .int 0, .int 0]))] sz)) 2 6 (va_A [(h0, .inr (1, [.null, .null, .int 0, .int 0]))] sz) := by
  refine Met.ofW (cc := cX1_init) (maxL := 1) (ret := none) (by decide +kernel) rfl ?_
  intro p e s m args below meth c s₁ B hml hv
  obtain ⟨rfl, hsz, hP, hK, hD0, hZ, hN⟩ := hv
  have hx := B.exec
  have hb := B.bytes
  have hr := B.returns
  have hts := atoms_spec (ws := wsX1_init) B.pre
  have hown : s.vm.findClass RX1 = some m.cls := findClass_of_methodNamed B.named
  have hlocks := B.notSynchronized
  have hin : meth.name = "<init>" := (name_of_methodNamed B.named B.method).1
  have hiX1 : ∀ w ∈ u_ws RX1 TX1 4, w ∈ wsX1_init := by decide +kernel
  subst hsz
  have hD := hD0.self (sz := s.heap.size)
  generalize hAe : va_A [(h0, .inr (1, [.null, .null, .int 0, .int 0]))] s.heap.size = A at hD hZ ⊢
  have hA : ∀ q : Nat, s.heap.size ≤ q → A q := fun q h => by rw [← hAe]; exact Or.inr h
  have hl := lv_entry ([.ref h0]) (n := 1) (Nat.le_of_ble_eq_true rfl)
  rw [lg_entry_eq]
  generalize (lg_sl ([.ref h0]) ++ List.replicate (1 - (lg_sl ([.ref h0])).length) Slot.unset).toArray = ls at hl ⊢
  have hl : lv_has ls 1 [(0, .ref h0)] := hl
  generalize hHe : s.heap = H at hP ⊢
  have hS : va_S A s.heap H [] := by rw [hHe]; exact va_S.rf
  generalize ([] : List Loc) = locs at hS ⊢
  refine lv_aload_n hx hb dX1_init_0 rfl (lv_at hl 0 rfl) ?_
  refine ct_callv (va_runIN (As := []) (rest := []) ⟨hx, hb, hml, hown, hts⟩ (wa_init l dC dI cA cB H.size h0 ) ⟨va_cnB (host := "TickWalks") 0 hts gX1_init_X2_init_n3 rfl rfl rfl hN.2.1 (hts (.initialized RX2) (List.mem_of_getElem? (l := wsX1_init) (i := 7) rfl)) (by decide +kernel) ⟨Nat.le_of_ble_eq_true rfl, Nat.le_of_ble_eq_true rfl⟩, rfl, (hts (.instanceMethod yX2_init) (List.mem_of_getElem? (l := wsX1_init) (i := 6) rfl))⟩ ⟨ct_blind, ct_pre hP hD hK hZ hN hS hA [] rfl (by decide)⟩ rfl rfl hl.1 rfl (lv_room (Nat.le_of_ble_eq_true rfl)) dX1_init_1 ⟨Nat.le_of_ble_eq_true rfl, Nat.le_of_ble_eq_true rfl⟩) hP hD hS hA [] [0] rfl (wr := [(h0, .inr (1, [.null, .null, .int 0, .int 0]))]) rfl (by decide) (by decide) (fun u9 H locs hw_1 hP hD hS => ?_)
  have hw_1 : True := hw_1
  have hP : va_P (dC, dI) vwCl [(h0, .inr (1, [.null, .null, .int 0, .int 0]))] H := hP
  have hD : va_D A [(h0, .inr (1, [.null, .null, .int 0, .int 0]))] := hD
  refine lv_aload_n hx hb dX1_init_4 rfl (lv_at hl 0 rfl) ?_
  refine lv_iconst (v := 3) hx hb dX1_init_5 (by decide) ?_
  refine va_newa (atype := .int) (ty := .int) (n := 3) (N' := 3) (a0 := (3, .inl (fun _ => 0))) hx hb (hts (.arrayClass .int) (List.mem_of_getElem? (l := wsX1_init) (i := 1) rfl)) rfl hK hP hD hS hA (fun _ => rfl) (by decide) (by decide) (by decide) (Nat.le_of_ble_eq_true rfl) (Nat.le_of_ble_eq_true rfl) dX1_init_6 (fun qa_2 cA9 H hK9 hP hD hS => ?_)
  obtain rfl : cA = cA9 := ct_cA hK9 0 2 rfl rfl
  have hP : va_P (dC, dI) vwCl [(h0, .inr (1, [.null, .null, .int 0, .int 0])), (qa_2, .inl (cA, 3, .inl (fun _ => 0)))] H := hP
  have hD : va_D A [(h0, .inr (1, [.null, .null, .int 0, .int 0])), (qa_2, .inl (cA, 3, .inl (fun _ => 0)))] := hD
  refine va_putF (D := (dC, dI)) (ci := 1) (v := .ref qa_2) (ty := (.array .int)) (C := RX1) (T := TX1) (N := 4) hx hb hts hiX1 tyX1 tyX1_ok nmX1 hown hK hP hD hS 0 rfl rfl 0 (by decide) (hts (.fieldLink RX1 9 "TickWalks$Line" "from" "[I") (List.mem_of_getElem? (l := wsX1_init) (i := 2) rfl)) (fun _ h9 => h9) rfl hin rfl (by decide +kernel) rfl rfl (Nat.le_of_ble_eq_true rfl) dX1_init_8 (fun H locs hP hD hS => ?_)
  have hP : va_P (dC, dI) vwCl [(h0, .inr (1, [.ref qa_2, .null, .int 0, .int 0])), (qa_2, .inl (cA, 3, .inl (fun _ => 0)))] H := hP
  have hD : va_D A [(h0, .inr (1, [.ref qa_2, .null, .int 0, .int 0])), (qa_2, .inl (cA, 3, .inl (fun _ => 0)))] := hD
  refine lv_aload_n hx hb dX1_init_11 rfl (lv_at hl 0 rfl) ?_
  refine lv_iconst (v := 3) hx hb dX1_init_12 (by decide) ?_
  refine va_newa (atype := .int) (ty := .int) (n := 3) (N' := 3) (a0 := (3, .inl (fun _ => 0))) hx hb (hts (.arrayClass .int) (List.mem_of_getElem? (l := wsX1_init) (i := 1) rfl)) rfl hK hP hD hS hA (fun _ => rfl) (by decide) (by decide) (by decide) (Nat.le_of_ble_eq_true rfl) (Nat.le_of_ble_eq_true rfl) dX1_init_13 (fun qa_3 cA9 H hK9 hP hD hS => ?_)
  obtain rfl : cA = cA9 := ct_cA hK9 0 2 rfl rfl
  have hP : va_P (dC, dI) vwCl [(h0, .inr (1, [.ref qa_2, .null, .int 0, .int 0])), (qa_2, .inl (cA, 3, .inl (fun _ => 0))), (qa_3, .inl (cA, 3, .inl (fun _ => 0)))] H := hP
  have hD : va_D A [(h0, .inr (1, [.ref qa_2, .null, .int 0, .int 0])), (qa_2, .inl (cA, 3, .inl (fun _ => 0))), (qa_3, .inl (cA, 3, .inl (fun _ => 0)))] := hD
  refine va_putF (D := (dC, dI)) (ci := 1) (v := .ref qa_3) (ty := (.array .int)) (C := RX1) (T := TX1) (N := 4) hx hb hts hiX1 tyX1 tyX1_ok nmX1 hown hK hP hD hS 0 rfl rfl 1 (by decide) (hts (.fieldLink RX1 15 "TickWalks$Line" "by" "[I") (List.mem_of_getElem? (l := wsX1_init) (i := 3) rfl)) (fun _ h9 => h9) rfl hin rfl (by decide +kernel) rfl rfl (Nat.le_of_ble_eq_true rfl) dX1_init_15 (fun H locs hP hD hS => ?_)
  have hP : va_P (dC, dI) vwCl [(h0, .inr (1, [.ref qa_2, .ref qa_3, .int 0, .int 0])), (qa_2, .inl (cA, 3, .inl (fun _ => 0))), (qa_3, .inl (cA, 3, .inl (fun _ => 0)))] H := hP
  have hD : va_D A [(h0, .inr (1, [.ref qa_2, .ref qa_3, .int 0, .int 0])), (qa_2, .inl (cA, 3, .inl (fun _ => 0))), (qa_3, .inl (cA, 3, .inl (fun _ => 0)))] := hD
  refine lv_aload_n hx hb dX1_init_18 rfl (lv_at hl 0 rfl) ?_
  refine lv_iconst (v := 0) hx hb dX1_init_19 (by decide) ?_
  refine va_put (D := (dC, dI)) (ci := 1) (v := .int 0) (ty := .int) (C := RX1) (T := TX1) (N := 4) hx hb hts hiX1 tyX1 tyX1_ok nmX1 hown hK hP hD hS 0 rfl rfl 2 (by decide) (hts (.fieldLink RX1 18 "TickWalks$Line" "length" "I") (List.mem_of_getElem? (l := wsX1_init) (i := 4) rfl)) (fun _ h9 => h9) rfl (by decide +kernel) rfl rfl (Nat.le_of_ble_eq_true rfl) dX1_init_20 (fun H locs hP hD hS => ?_)
  have hP : va_P (dC, dI) vwCl [(h0, .inr (1, [.ref qa_2, .ref qa_3, .int 0, .int 0])), (qa_2, .inl (cA, 3, .inl (fun _ => 0))), (qa_3, .inl (cA, 3, .inl (fun _ => 0)))] H := hP
  have hD : va_D A [(h0, .inr (1, [.ref qa_2, .ref qa_3, .int 0, .int 0])), (qa_2, .inl (cA, 3, .inl (fun _ => 0))), (qa_3, .inl (cA, 3, .inl (fun _ => 0)))] := hD
  refine lv_aload_n hx hb dX1_init_23 rfl (lv_at hl 0 rfl) ?_
  refine lv_iconst (v := -1) hx hb dX1_init_24 (by decide) ?_
  refine va_put (D := (dC, dI)) (ci := 1) (v := .int (-1)) (ty := .int) (C := RX1) (T := TX1) (N := 4) hx hb hts hiX1 tyX1 tyX1_ok nmX1 hown hK hP hD hS 0 rfl rfl 3 (by decide) (hts (.fieldLink RX1 22 "TickWalks$Line" "strays" "I") (List.mem_of_getElem? (l := wsX1_init) (i := 5) rfl)) (fun _ h9 => h9) rfl (by decide +kernel) rfl rfl (Nat.le_of_ble_eq_true rfl) dX1_init_25 (fun H locs hP hD hS => ?_)
  have hP : va_P (dC, dI) vwCl [(h0, .inr (1, [.ref qa_2, .ref qa_3, .int 0, .int (-1)])), (qa_2, .inl (cA, 3, .inl (fun _ => 0))), (qa_3, .inl (cA, 3, .inl (fun _ => 0)))] H := hP
  have hD : va_D A [(h0, .inr (1, [.ref qa_2, .ref qa_3, .int 0, .int (-1)])), (qa_2, .inl (cA, 3, .inl (fun _ => 0))), (qa_3, .inl (cA, 3, .inl (fun _ => 0)))] := hD
  have hP9 := hP.sub (ws' := [(h0, .inr (1, [.ref qa_2, .ref qa_3, .int 0, .int (-1)])), (qa_2, .inl (cA, 3, .inl (fun _ => 0))), (qa_3, .inl (cA, 3, .inl (fun _ => 0)))]) [0, 1, 2] rfl
  have hD9 := hD.sub (ws' := [(h0, .inr (1, [.ref qa_2, .ref qa_3, .int 0, .int (-1)])), (qa_2, .inl (cA, 3, .inl (fun _ => 0))), (qa_3, .inl (cA, 3, .inl (fun _ => 0)))]) [0, 1, 2] (by decide) rfl
  refine W.widen (k := 2) (n := 6) (by omega) (by omega) ?_
  exact W.vret hx hb hr (fun t9 ht9 hW9 => ⟨⟨(qa_2, qa_3), rfl, trivial, by rw [ht9]; exact hP9, hD9⟩, hS.F ht9⟩) hS.2.2 dX1_init_28
set_option maxHeartbeats 4000000 in
set_option maxRecDepth 100000 in
/-- Arc.<init> -/
theorem ar_init (l : Launch) (dC : Nat → ClassId) (dI : Nat → Nat → Nat) (cA cB : ClassId) (sz : Nat) (h0 : Nat) : Met l yX0_init wsX0_init ({ frames := 2, cells := 2, slots := 802, locals := 32 }) (va_Pc [.ref h0] (ct_P dC dI cA cB sz [(h0, .inr (0, [.null, .null, .int 0, .int 0, .int 0, .int 0, .long 0, .int 0, .int 0, .int 0, .int 0, .int 0]))])) (va_Qv (fun (u : Nat × Nat) => True) (fun (u : Nat × Nat) => ct_B dC dI (va_A [(h0, .inr (0, [.null, .null, .int 0, .int 0, .int 0, .int 0, .long 0, .int 0, .int 0, .int 0, .int 0, .int 0]))] sz) [(h0, .inr (0, [.ref u.1, .ref u.2, .int 0, .int 0, .int 0, .int 0, .long 0, .int 0, .int 0, .int 0, .int 0, .int 0])), (u.1, .inl (cA, 401, .inl (fun _ => 0))), (u.2, .inl (cA, 401, .inl (fun _ => 0)))]) (va_A [(h0, .inr (0, [.null, .null, .int 0, .int 0, .int 0, .int 0, .long 0, .int 0, .int 0, .int 0, .int 0, .int 0]))] sz)) 2 802 (va_A [(h0, .inr (0, [.null, .null, .int 0, .int 0, .int 0, .int 0, .long 0, .int 0, .int 0, .int 0, .int 0, .int 0]))] sz) := by
  refine Met.ofW (cc := cX0_init) (maxL := 1) (ret := none) (by decide +kernel) rfl ?_
  intro p e s m args below meth c s₁ B hml hv
  obtain ⟨rfl, hsz, hP, hK, hD0, hZ, hN⟩ := hv
  have hx := B.exec
  have hb := B.bytes
  have hr := B.returns
  have hts := atoms_spec (ws := wsX0_init) B.pre
  have hown : s.vm.findClass RX0 = some m.cls := findClass_of_methodNamed B.named
  have hlocks := B.notSynchronized
  have hin : meth.name = "<init>" := (name_of_methodNamed B.named B.method).1
  have hiX0 : ∀ w ∈ u_ws RX0 TX0 12, w ∈ wsX0_init := by decide +kernel
  subst hsz
  have hD := hD0.self (sz := s.heap.size)
  generalize hAe : va_A [(h0, .inr (0, [.null, .null, .int 0, .int 0, .int 0, .int 0, .long 0, .int 0, .int 0, .int 0, .int 0, .int 0]))] s.heap.size = A at hD hZ ⊢
  have hA : ∀ q : Nat, s.heap.size ≤ q → A q := fun q h => by rw [← hAe]; exact Or.inr h
  have hl := lv_entry ([.ref h0]) (n := 1) (Nat.le_of_ble_eq_true rfl)
  rw [lg_entry_eq]
  generalize (lg_sl ([.ref h0]) ++ List.replicate (1 - (lg_sl ([.ref h0])).length) Slot.unset).toArray = ls at hl ⊢
  have hl : lv_has ls 1 [(0, .ref h0)] := hl
  generalize hHe : s.heap = H at hP ⊢
  have hS : va_S A s.heap H [] := by rw [hHe]; exact va_S.rf
  generalize ([] : List Loc) = locs at hS ⊢
  refine lv_aload_n hx hb dX0_init_0 rfl (lv_at hl 0 rfl) ?_
  refine ct_callv (va_runIN (As := []) (rest := []) ⟨hx, hb, hml, hown, hts⟩ (wa_init l dC dI cA cB H.size h0 ) ⟨va_cnB (host := "TickWalks") 0 hts gX0_init_X2_init_n3 rfl rfl rfl hN.2.2.2.1 (hts (.initialized RX2) (List.mem_of_getElem? (l := wsX0_init) (i := 15) rfl)) (by decide +kernel) ⟨Nat.le_of_ble_eq_true rfl, Nat.le_of_ble_eq_true rfl⟩, rfl, (hts (.instanceMethod yX2_init) (List.mem_of_getElem? (l := wsX0_init) (i := 14) rfl))⟩ ⟨ct_blind, ct_pre hP hD hK hZ hN hS hA [] rfl (by decide)⟩ rfl rfl hl.1 rfl (lv_room (Nat.le_of_ble_eq_true rfl)) dX0_init_1 ⟨Nat.le_of_ble_eq_true rfl, Nat.le_of_ble_eq_true rfl⟩) hP hD hS hA [] [0] rfl (wr := [(h0, .inr (0, [.null, .null, .int 0, .int 0, .int 0, .int 0, .long 0, .int 0, .int 0, .int 0, .int 0, .int 0]))]) rfl (by decide) (by decide) (fun u9 H locs hw_1 hP hD hS => ?_)
  have hw_1 : True := hw_1
  have hP : va_P (dC, dI) vwCl [(h0, .inr (0, [.null, .null, .int 0, .int 0, .int 0, .int 0, .long 0, .int 0, .int 0, .int 0, .int 0, .int 0]))] H := hP
  have hD : va_D A [(h0, .inr (0, [.null, .null, .int 0, .int 0, .int 0, .int 0, .long 0, .int 0, .int 0, .int 0, .int 0, .int 0]))] := hD
  refine lv_aload_n hx hb dX0_init_4 rfl (lv_at hl 0 rfl) ?_
  refine lv_sipush (v := 401) hx hb dX0_init_5 (by decide) ?_
  refine va_newa (atype := .int) (ty := .int) (n := 401) (N' := 401) (a0 := (401, .inl (fun _ => 0))) hx hb (hts (.arrayClass .int) (List.mem_of_getElem? (l := wsX0_init) (i := 1) rfl)) rfl hK hP hD hS hA (fun _ => rfl) (by decide) (by decide) (by decide) (Nat.le_of_ble_eq_true rfl) (Nat.le_of_ble_eq_true rfl) dX0_init_8 (fun qa_2 cA9 H hK9 hP hD hS => ?_)
  obtain rfl : cA = cA9 := ct_cA hK9 0 2 rfl rfl
  have hP : va_P (dC, dI) vwCl [(h0, .inr (0, [.null, .null, .int 0, .int 0, .int 0, .int 0, .long 0, .int 0, .int 0, .int 0, .int 0, .int 0])), (qa_2, .inl (cA, 401, .inl (fun _ => 0)))] H := hP
  have hD : va_D A [(h0, .inr (0, [.null, .null, .int 0, .int 0, .int 0, .int 0, .long 0, .int 0, .int 0, .int 0, .int 0, .int 0])), (qa_2, .inl (cA, 401, .inl (fun _ => 0)))] := hD
  refine va_putF (D := (dC, dI)) (ci := 0) (v := .ref qa_2) (ty := (.array .int)) (C := RX0) (T := TX0) (N := 12) hx hb hts hiX0 tyX0 tyX0_ok nmX0 hown hK hP hD hS 0 rfl rfl 0 (by decide) (hts (.fieldLink RX0 9 "TickWalks$Arc" "markX" "[I") (List.mem_of_getElem? (l := wsX0_init) (i := 2) rfl)) (fun _ h9 => h9) rfl hin rfl (by decide +kernel) rfl rfl (Nat.le_of_ble_eq_true rfl) dX0_init_10 (fun H locs hP hD hS => ?_)
  have hP : va_P (dC, dI) vwCl [(h0, .inr (0, [.ref qa_2, .null, .int 0, .int 0, .int 0, .int 0, .long 0, .int 0, .int 0, .int 0, .int 0, .int 0])), (qa_2, .inl (cA, 401, .inl (fun _ => 0)))] H := hP
  have hD : va_D A [(h0, .inr (0, [.ref qa_2, .null, .int 0, .int 0, .int 0, .int 0, .long 0, .int 0, .int 0, .int 0, .int 0, .int 0])), (qa_2, .inl (cA, 401, .inl (fun _ => 0)))] := hD
  refine lv_aload_n hx hb dX0_init_13 rfl (lv_at hl 0 rfl) ?_
  refine lv_sipush (v := 401) hx hb dX0_init_14 (by decide) ?_
  refine va_newa (atype := .int) (ty := .int) (n := 401) (N' := 401) (a0 := (401, .inl (fun _ => 0))) hx hb (hts (.arrayClass .int) (List.mem_of_getElem? (l := wsX0_init) (i := 1) rfl)) rfl hK hP hD hS hA (fun _ => rfl) (by decide) (by decide) (by decide) (Nat.le_of_ble_eq_true rfl) (Nat.le_of_ble_eq_true rfl) dX0_init_17 (fun qa_3 cA9 H hK9 hP hD hS => ?_)
  obtain rfl : cA = cA9 := ct_cA hK9 0 2 rfl rfl
  have hP : va_P (dC, dI) vwCl [(h0, .inr (0, [.ref qa_2, .null, .int 0, .int 0, .int 0, .int 0, .long 0, .int 0, .int 0, .int 0, .int 0, .int 0])), (qa_2, .inl (cA, 401, .inl (fun _ => 0))), (qa_3, .inl (cA, 401, .inl (fun _ => 0)))] H := hP
  have hD : va_D A [(h0, .inr (0, [.ref qa_2, .null, .int 0, .int 0, .int 0, .int 0, .long 0, .int 0, .int 0, .int 0, .int 0, .int 0])), (qa_2, .inl (cA, 401, .inl (fun _ => 0))), (qa_3, .inl (cA, 401, .inl (fun _ => 0)))] := hD
  refine va_putF (D := (dC, dI)) (ci := 0) (v := .ref qa_3) (ty := (.array .int)) (C := RX0) (T := TX0) (N := 12) hx hb hts hiX0 tyX0 tyX0_ok nmX0 hown hK hP hD hS 0 rfl rfl 1 (by decide) (hts (.fieldLink RX0 15 "TickWalks$Arc" "markY" "[I") (List.mem_of_getElem? (l := wsX0_init) (i := 3) rfl)) (fun _ h9 => h9) rfl hin rfl (by decide +kernel) rfl rfl (Nat.le_of_ble_eq_true rfl) dX0_init_19 (fun H locs hP hD hS => ?_)
  have hP : va_P (dC, dI) vwCl [(h0, .inr (0, [.ref qa_2, .ref qa_3, .int 0, .int 0, .int 0, .int 0, .long 0, .int 0, .int 0, .int 0, .int 0, .int 0])), (qa_2, .inl (cA, 401, .inl (fun _ => 0))), (qa_3, .inl (cA, 401, .inl (fun _ => 0)))] H := hP
  have hD : va_D A [(h0, .inr (0, [.ref qa_2, .ref qa_3, .int 0, .int 0, .int 0, .int 0, .long 0, .int 0, .int 0, .int 0, .int 0, .int 0])), (qa_2, .inl (cA, 401, .inl (fun _ => 0))), (qa_3, .inl (cA, 401, .inl (fun _ => 0)))] := hD
  refine lv_aload_n hx hb dX0_init_22 rfl (lv_at hl 0 rfl) ?_
  refine lv_iconst (v := 0) hx hb dX0_init_23 (by decide) ?_
  refine va_put (D := (dC, dI)) (ci := 0) (v := .int 0) (ty := .int) (C := RX0) (T := TX0) (N := 12) hx hb hts hiX0 tyX0 tyX0_ok nmX0 hown hK hP hD hS 0 rfl rfl 2 (by decide) (hts (.fieldLink RX0 18 "TickWalks$Arc" "height" "I") (List.mem_of_getElem? (l := wsX0_init) (i := 4) rfl)) (fun _ h9 => h9) rfl (by decide +kernel) rfl rfl (Nat.le_of_ble_eq_true rfl) dX0_init_24 (fun H locs hP hD hS => ?_)
  have hP : va_P (dC, dI) vwCl [(h0, .inr (0, [.ref qa_2, .ref qa_3, .int 0, .int 0, .int 0, .int 0, .long 0, .int 0, .int 0, .int 0, .int 0, .int 0])), (qa_2, .inl (cA, 401, .inl (fun _ => 0))), (qa_3, .inl (cA, 401, .inl (fun _ => 0)))] H := hP
  have hD : va_D A [(h0, .inr (0, [.ref qa_2, .ref qa_3, .int 0, .int 0, .int 0, .int 0, .long 0, .int 0, .int 0, .int 0, .int 0, .int 0])), (qa_2, .inl (cA, 401, .inl (fun _ => 0))), (qa_3, .inl (cA, 401, .inl (fun _ => 0)))] := hD
  refine lv_aload_n hx hb dX0_init_27 rfl (lv_at hl 0 rfl) ?_
  refine lv_iconst (v := 0) hx hb dX0_init_28 (by decide) ?_
  refine va_put (D := (dC, dI)) (ci := 0) (v := .int 0) (ty := .int) (C := RX0) (T := TX0) (N := 12) hx hb hts hiX0 tyX0 tyX0_ok nmX0 hown hK hP hD hS 0 rfl rfl 3 (by decide) (hts (.fieldLink RX0 22 "TickWalks$Arc" "centreX" "I") (List.mem_of_getElem? (l := wsX0_init) (i := 5) rfl)) (fun _ h9 => h9) rfl (by decide +kernel) rfl rfl (Nat.le_of_ble_eq_true rfl) dX0_init_29 (fun H locs hP hD hS => ?_)
  have hP : va_P (dC, dI) vwCl [(h0, .inr (0, [.ref qa_2, .ref qa_3, .int 0, .int 0, .int 0, .int 0, .long 0, .int 0, .int 0, .int 0, .int 0, .int 0])), (qa_2, .inl (cA, 401, .inl (fun _ => 0))), (qa_3, .inl (cA, 401, .inl (fun _ => 0)))] H := hP
  have hD : va_D A [(h0, .inr (0, [.ref qa_2, .ref qa_3, .int 0, .int 0, .int 0, .int 0, .long 0, .int 0, .int 0, .int 0, .int 0, .int 0])), (qa_2, .inl (cA, 401, .inl (fun _ => 0))), (qa_3, .inl (cA, 401, .inl (fun _ => 0)))] := hD
  refine lv_aload_n hx hb dX0_init_32 rfl (lv_at hl 0 rfl) ?_
  refine lv_iconst (v := 0) hx hb dX0_init_33 (by decide) ?_
  refine va_put (D := (dC, dI)) (ci := 0) (v := .int 0) (ty := .int) (C := RX0) (T := TX0) (N := 12) hx hb hts hiX0 tyX0 tyX0_ok nmX0 hown hK hP hD hS 0 rfl rfl 4 (by decide) (hts (.fieldLink RX0 25 "TickWalks$Arc" "centreY" "I") (List.mem_of_getElem? (l := wsX0_init) (i := 6) rfl)) (fun _ h9 => h9) rfl (by decide +kernel) rfl rfl (Nat.le_of_ble_eq_true rfl) dX0_init_34 (fun H locs hP hD hS => ?_)
  have hP : va_P (dC, dI) vwCl [(h0, .inr (0, [.ref qa_2, .ref qa_3, .int 0, .int 0, .int 0, .int 0, .long 0, .int 0, .int 0, .int 0, .int 0, .int 0])), (qa_2, .inl (cA, 401, .inl (fun _ => 0))), (qa_3, .inl (cA, 401, .inl (fun _ => 0)))] H := hP
  have hD : va_D A [(h0, .inr (0, [.ref qa_2, .ref qa_3, .int 0, .int 0, .int 0, .int 0, .long 0, .int 0, .int 0, .int 0, .int 0, .int 0])), (qa_2, .inl (cA, 401, .inl (fun _ => 0))), (qa_3, .inl (cA, 401, .inl (fun _ => 0)))] := hD
  refine lv_aload_n hx hb dX0_init_37 rfl (lv_at hl 0 rfl) ?_
  refine lv_iconst (v := 0) hx hb dX0_init_38 (by decide) ?_
  refine va_put (D := (dC, dI)) (ci := 0) (v := .int 0) (ty := .boolean) (C := RX0) (T := TX0) (N := 12) hx hb hts hiX0 tyX0 tyX0_ok nmX0 hown hK hP hD hS 0 rfl rfl 5 (by decide) (hts (.fieldLink RX0 28 "TickWalks$Arc" "left" "Z") (List.mem_of_getElem? (l := wsX0_init) (i := 7) rfl)) (fun _ h9 => h9) rfl (by decide +kernel) rfl rfl (Nat.le_of_ble_eq_true rfl) dX0_init_39 (fun H locs hP hD hS => ?_)
  have hP : va_P (dC, dI) vwCl [(h0, .inr (0, [.ref qa_2, .ref qa_3, .int 0, .int 0, .int 0, .int 0, .long 0, .int 0, .int 0, .int 0, .int 0, .int 0])), (qa_2, .inl (cA, 401, .inl (fun _ => 0))), (qa_3, .inl (cA, 401, .inl (fun _ => 0)))] H := hP
  have hD : va_D A [(h0, .inr (0, [.ref qa_2, .ref qa_3, .int 0, .int 0, .int 0, .int 0, .long 0, .int 0, .int 0, .int 0, .int 0, .int 0])), (qa_2, .inl (cA, 401, .inl (fun _ => 0))), (qa_3, .inl (cA, 401, .inl (fun _ => 0)))] := hD
  refine lv_aload_n hx hb dX0_init_42 rfl (lv_at hl 0 rfl) ?_
  refine lv_lconst (v := 0) hx hb dX0_init_43 (by decide) ?_
  refine va_put (D := (dC, dI)) (ci := 0) (v := .long 0) (ty := .long) (C := RX0) (T := TX0) (N := 12) hx hb hts hiX0 tyX0 tyX0_ok nmX0 hown hK hP hD hS 0 rfl rfl 6 (by decide) (hts (.fieldLink RX0 32 "TickWalks$Arc" "square" "J") (List.mem_of_getElem? (l := wsX0_init) (i := 8) rfl)) (fun _ h9 => h9) rfl (by decide +kernel) rfl rfl (Nat.le_of_ble_eq_true rfl) dX0_init_44 (fun H locs hP hD hS => ?_)
  have hP : va_P (dC, dI) vwCl [(h0, .inr (0, [.ref qa_2, .ref qa_3, .int 0, .int 0, .int 0, .int 0, .long 0, .int 0, .int 0, .int 0, .int 0, .int 0])), (qa_2, .inl (cA, 401, .inl (fun _ => 0))), (qa_3, .inl (cA, 401, .inl (fun _ => 0)))] H := hP
  have hD : va_D A [(h0, .inr (0, [.ref qa_2, .ref qa_3, .int 0, .int 0, .int 0, .int 0, .long 0, .int 0, .int 0, .int 0, .int 0, .int 0])), (qa_2, .inl (cA, 401, .inl (fun _ => 0))), (qa_3, .inl (cA, 401, .inl (fun _ => 0)))] := hD
  refine lv_aload_n hx hb dX0_init_47 rfl (lv_at hl 0 rfl) ?_
  refine lv_iconst (v := 0) hx hb dX0_init_48 (by decide) ?_
  refine va_put (D := (dC, dI)) (ci := 0) (v := .int 0) (ty := .int) (C := RX0) (T := TX0) (N := 12) hx hb hts hiX0 tyX0 tyX0_ok nmX0 hown hK hP hD hS 0 rfl rfl 7 (by decide) (hts (.fieldLink RX0 36 "TickWalks$Arc" "length" "I") (List.mem_of_getElem? (l := wsX0_init) (i := 9) rfl)) (fun _ h9 => h9) rfl (by decide +kernel) rfl rfl (Nat.le_of_ble_eq_true rfl) dX0_init_49 (fun H locs hP hD hS => ?_)
  have hP : va_P (dC, dI) vwCl [(h0, .inr (0, [.ref qa_2, .ref qa_3, .int 0, .int 0, .int 0, .int 0, .long 0, .int 0, .int 0, .int 0, .int 0, .int 0])), (qa_2, .inl (cA, 401, .inl (fun _ => 0))), (qa_3, .inl (cA, 401, .inl (fun _ => 0)))] H := hP
  have hD : va_D A [(h0, .inr (0, [.ref qa_2, .ref qa_3, .int 0, .int 0, .int 0, .int 0, .long 0, .int 0, .int 0, .int 0, .int 0, .int 0])), (qa_2, .inl (cA, 401, .inl (fun _ => 0))), (qa_3, .inl (cA, 401, .inl (fun _ => 0)))] := hD
  refine lv_aload_n hx hb dX0_init_52 rfl (lv_at hl 0 rfl) ?_
  refine lv_iconst (v := 0) hx hb dX0_init_53 (by decide) ?_
  refine va_put (D := (dC, dI)) (ci := 0) (v := .int 0) (ty := .int) (C := RX0) (T := TX0) (N := 12) hx hb hts hiX0 tyX0 tyX0_ok nmX0 hown hK hP hD hS 0 rfl rfl 8 (by decide) (hts (.fieldLink RX0 39 "TickWalks$Arc" "off" "I") (List.mem_of_getElem? (l := wsX0_init) (i := 10) rfl)) (fun _ h9 => h9) rfl (by decide +kernel) rfl rfl (Nat.le_of_ble_eq_true rfl) dX0_init_54 (fun H locs hP hD hS => ?_)
  have hP : va_P (dC, dI) vwCl [(h0, .inr (0, [.ref qa_2, .ref qa_3, .int 0, .int 0, .int 0, .int 0, .long 0, .int 0, .int 0, .int 0, .int 0, .int 0])), (qa_2, .inl (cA, 401, .inl (fun _ => 0))), (qa_3, .inl (cA, 401, .inl (fun _ => 0)))] H := hP
  have hD : va_D A [(h0, .inr (0, [.ref qa_2, .ref qa_3, .int 0, .int 0, .int 0, .int 0, .long 0, .int 0, .int 0, .int 0, .int 0, .int 0])), (qa_2, .inl (cA, 401, .inl (fun _ => 0))), (qa_3, .inl (cA, 401, .inl (fun _ => 0)))] := hD
  refine lv_aload_n hx hb dX0_init_57 rfl (lv_at hl 0 rfl) ?_
  refine lv_iconst (v := 0) hx hb dX0_init_58 (by decide) ?_
  refine va_put (D := (dC, dI)) (ci := 0) (v := .int 0) (ty := .int) (C := RX0) (T := TX0) (N := 12) hx hb hts hiX0 tyX0 tyX0_ok nmX0 hown hK hP hD hS 0 rfl rfl 9 (by decide) (hts (.fieldLink RX0 42 "TickWalks$Arc" "strays" "I") (List.mem_of_getElem? (l := wsX0_init) (i := 11) rfl)) (fun _ h9 => h9) rfl (by decide +kernel) rfl rfl (Nat.le_of_ble_eq_true rfl) dX0_init_59 (fun H locs hP hD hS => ?_)
  have hP : va_P (dC, dI) vwCl [(h0, .inr (0, [.ref qa_2, .ref qa_3, .int 0, .int 0, .int 0, .int 0, .long 0, .int 0, .int 0, .int 0, .int 0, .int 0])), (qa_2, .inl (cA, 401, .inl (fun _ => 0))), (qa_3, .inl (cA, 401, .inl (fun _ => 0)))] H := hP
  have hD : va_D A [(h0, .inr (0, [.ref qa_2, .ref qa_3, .int 0, .int 0, .int 0, .int 0, .long 0, .int 0, .int 0, .int 0, .int 0, .int 0])), (qa_2, .inl (cA, 401, .inl (fun _ => 0))), (qa_3, .inl (cA, 401, .inl (fun _ => 0)))] := hD
  refine lv_aload_n hx hb dX0_init_62 rfl (lv_at hl 0 rfl) ?_
  refine lv_iconst (v := 0) hx hb dX0_init_63 (by decide) ?_
  refine va_put (D := (dC, dI)) (ci := 0) (v := .int 0) (ty := .int) (C := RX0) (T := TX0) (N := 12) hx hb hts hiX0 tyX0 tyX0_ok nmX0 hown hK hP hD hS 0 rfl rfl 10 (by decide) (hts (.fieldLink RX0 45 "TickWalks$Arc" "footX" "I") (List.mem_of_getElem? (l := wsX0_init) (i := 12) rfl)) (fun _ h9 => h9) rfl (by decide +kernel) rfl rfl (Nat.le_of_ble_eq_true rfl) dX0_init_64 (fun H locs hP hD hS => ?_)
  have hP : va_P (dC, dI) vwCl [(h0, .inr (0, [.ref qa_2, .ref qa_3, .int 0, .int 0, .int 0, .int 0, .long 0, .int 0, .int 0, .int 0, .int 0, .int 0])), (qa_2, .inl (cA, 401, .inl (fun _ => 0))), (qa_3, .inl (cA, 401, .inl (fun _ => 0)))] H := hP
  have hD : va_D A [(h0, .inr (0, [.ref qa_2, .ref qa_3, .int 0, .int 0, .int 0, .int 0, .long 0, .int 0, .int 0, .int 0, .int 0, .int 0])), (qa_2, .inl (cA, 401, .inl (fun _ => 0))), (qa_3, .inl (cA, 401, .inl (fun _ => 0)))] := hD
  refine lv_aload_n hx hb dX0_init_67 rfl (lv_at hl 0 rfl) ?_
  refine lv_iconst (v := 0) hx hb dX0_init_68 (by decide) ?_
  refine va_put (D := (dC, dI)) (ci := 0) (v := .int 0) (ty := .int) (C := RX0) (T := TX0) (N := 12) hx hb hts hiX0 tyX0 tyX0_ok nmX0 hown hK hP hD hS 0 rfl rfl 11 (by decide) (hts (.fieldLink RX0 48 "TickWalks$Arc" "footY" "I") (List.mem_of_getElem? (l := wsX0_init) (i := 13) rfl)) (fun _ h9 => h9) rfl (by decide +kernel) rfl rfl (Nat.le_of_ble_eq_true rfl) dX0_init_69 (fun H locs hP hD hS => ?_)
  have hP : va_P (dC, dI) vwCl [(h0, .inr (0, [.ref qa_2, .ref qa_3, .int 0, .int 0, .int 0, .int 0, .long 0, .int 0, .int 0, .int 0, .int 0, .int 0])), (qa_2, .inl (cA, 401, .inl (fun _ => 0))), (qa_3, .inl (cA, 401, .inl (fun _ => 0)))] H := hP
  have hD : va_D A [(h0, .inr (0, [.ref qa_2, .ref qa_3, .int 0, .int 0, .int 0, .int 0, .long 0, .int 0, .int 0, .int 0, .int 0, .int 0])), (qa_2, .inl (cA, 401, .inl (fun _ => 0))), (qa_3, .inl (cA, 401, .inl (fun _ => 0)))] := hD
  have hP9 := hP.sub (ws' := [(h0, .inr (0, [.ref qa_2, .ref qa_3, .int 0, .int 0, .int 0, .int 0, .long 0, .int 0, .int 0, .int 0, .int 0, .int 0])), (qa_2, .inl (cA, 401, .inl (fun _ => 0))), (qa_3, .inl (cA, 401, .inl (fun _ => 0)))]) [0, 1, 2] rfl
  have hD9 := hD.sub (ws' := [(h0, .inr (0, [.ref qa_2, .ref qa_3, .int 0, .int 0, .int 0, .int 0, .long 0, .int 0, .int 0, .int 0, .int 0, .int 0])), (qa_2, .inl (cA, 401, .inl (fun _ => 0))), (qa_3, .inl (cA, 401, .inl (fun _ => 0)))]) [0, 1, 2] (by decide) rfl
  refine W.widen (k := 2) (n := 802) (by omega) (by omega) ?_
  exact W.vret hx hb hr (fun t9 ht9 hW9 => ⟨⟨(qa_2, qa_3), rfl, trivial, by rw [ht9]; exact hP9, hD9⟩, hS.F ht9⟩) hS.2.2 dX0_init_72
end
section
/-! pure words of the class's reads -/
def at_v (sv : Nat → Int32) (a : Int32) : Int32 := if 0 ≤ a ∧ a < 3 then sv a.toNatClampNeg else 0
theorem ax_in {a : Int32} (h : 0 ≤ a ∧ a < 3) : ∃ j, j < 3 ∧ a = nI j := by
  obtain ⟨j, hj, rfl⟩ := nI_of (Int32.not_lt.mpr h.1)
  exact ⟨j, (nI_ltI (b := 3) hj (by omega)).mp h.2, rfl⟩
/-- a line's place behind tick k on an axis, as tick() answers it -/
def tk_l (fv bv : Nat → Int32) (ln k ax : Int32) : Int32 := if (0 ≤ ax ∧ ax < 3) ∧ 0 ≤ k ∧ k ≤ ln then ln_p (fv ax.toNatClampNeg) (bv ax.toNatClampNeg) ln k else 0
def tk_a (lf : Int32) (sq : Int64) (cx cy : Int32) (q : Int32 × Int32) (ht ln k ax : Int32) : Int32 := if (0 ≤ ax ∧ ax < 3) ∧ 0 ≤ k ∧ k ≤ ln then (if ax = 2 then ht else if ax = 0 then (ob_p lf sq cx cy q k.toNatClampNeg).1 else (ob_p lf sq cx cy q k.toNatClampNeg).2) else 0
end
section
set_option maxHeartbeats 4000000 in
set_option maxRecDepth 100000 in
/-- TickWalks.standAt -/
theorem tw_stand (l : Launch) (dC : Nat → ClassId) (dI : Nat → Nat → Nat) (cA cB : ClassId) (sz : Nat) (t0 : Nat) (qs : Nat) (ql : Nat) (a1 : Nat) (a2 : Nat) (lt : Value) (sv : Nat → Int32) (x : Int32) (y : Int32) (z : Int32) : Met l yX3_standAt wsX3_standAt ({ frames := 0, cells := 0, slots := 0, locals := 0 }) (va_Pc [.ref t0, .int x, .int y, .int z] (ct_P dC dI cA cB sz [(t0, .inr (2, [.ref qs, .ref ql, .ref a1, .ref a2, lt])), (qs, .inl (cA, 3, .inl sv))])) (va_Qv (fun (u : (Nat → Int32)) => u 0 = x ∧ u 1 = y ∧ u 2 = z) (fun (u : (Nat → Int32)) => ct_B dC dI (va_A [(t0, .inr (2, [.ref qs, .ref ql, .ref a1, .ref a2, lt])), (qs, .inl (cA, 3, .inl sv))] sz) [(t0, .inr (2, [.ref qs, .ref ql, .ref a1, .ref a2, lt])), (qs, .inl (cA, 3, .inl u))]) (va_A [(t0, .inr (2, [.ref qs, .ref ql, .ref a1, .ref a2, lt])), (qs, .inl (cA, 3, .inl sv))] sz)) 0 0 (va_A [(t0, .inr (2, [.ref qs, .ref ql, .ref a1, .ref a2, lt])), (qs, .inl (cA, 3, .inl sv))] sz) := by
  refine Met.ofW (cc := cX3_standAt) (maxL := 4) (ret := none) (by decide +kernel) rfl ?_
  intro p e s m args below meth c s₁ B hml hv
  obtain ⟨rfl, hsz, hP, hK, hD0, hZ, hN⟩ := hv
  have hx := B.exec
  have hb := B.bytes
  have hr := B.returns
  have hts := atoms_spec (ws := wsX3_standAt) B.pre
  have hown : s.vm.findClass RX3 = some m.cls := findClass_of_methodNamed B.named
  have hlocks := B.notSynchronized
  have hiX3 : ∀ w ∈ u_ws RX3 TX3 5, w ∈ wsX3_standAt := by decide +kernel
  subst hsz
  have hD := hD0.self (sz := s.heap.size)
  generalize hAe : va_A [(t0, .inr (2, [.ref qs, .ref ql, .ref a1, .ref a2, lt])), (qs, .inl (cA, 3, .inl sv))] s.heap.size = A at hD hZ ⊢
  have hA : ∀ q : Nat, s.heap.size ≤ q → A q := fun q h => by rw [← hAe]; exact Or.inr h
  have hl := lv_entry ([.ref t0, .int x, .int y, .int z]) (n := 4) (Nat.le_of_ble_eq_true rfl)
  rw [lg_entry_eq]
  generalize (lg_sl ([.ref t0, .int x, .int y, .int z]) ++ List.replicate (4 - (lg_sl ([.ref t0, .int x, .int y, .int z])).length) Slot.unset).toArray = ls at hl ⊢
  have hl : lv_has ls 4 [(0, .ref t0), (1, .int x), (2, .int y), (3, .int z)] := hl
  generalize hHe : s.heap = H at hP ⊢
  have hS : va_S A s.heap H [] := by rw [hHe]; exact va_S.rf
  generalize ([] : List Loc) = locs at hS ⊢
  refine lv_aload_n hx hb dX3_standAt_0 rfl (lv_at hl 0 rfl) ?_
  refine va_get (D := (dC, dI)) (ci := 2) (v := .ref qs) (C := RX3) (T := TX3) (N := 5) hx hb hts hiX3 hown hK hP 0 rfl rfl 0 (by decide) (hts (.fieldLink RX3 9 "TickWalks" "stand" "[I") (List.mem_of_getElem? (l := wsX3_standAt) (i := 1) rfl)) (fun _ h9 => h9) rfl dX3_standAt_1 ?_
  refine lv_iconst (v := 0) hx hb dX3_standAt_4 (by decide) ?_
  refine lv_iload_n hx hb dX3_standAt_5 rfl (lv_at hl 1 rfl) ?_
  refine va_iast hx hb hK hP hD hS 1 0 rfl rfl (show vp_in 0 3 by unfold vp_in; decide) dX3_standAt_6 (fun H locs hP hD hS => ?_)
  rw [(show Int32.toNatClampNeg 0 = 0 by decide)] at hP hD
  have hP : va_P (dC, dI) vwCl [(t0, .inr (2, [.ref qs, .ref ql, .ref a1, .ref a2, lt])), (qs, .inl (cA, 3, .inl (upd sv 0 x)))] H := hP
  have hD : va_D A [(t0, .inr (2, [.ref qs, .ref ql, .ref a1, .ref a2, lt])), (qs, .inl (cA, 3, .inl (upd sv 0 x)))] := hD
  refine lv_aload_n hx hb dX3_standAt_7 rfl (lv_at hl 0 rfl) ?_
  refine va_get (D := (dC, dI)) (ci := 2) (v := .ref qs) (C := RX3) (T := TX3) (N := 5) hx hb hts hiX3 hown hK hP 0 rfl rfl 0 (by decide) (hts (.fieldLink RX3 9 "TickWalks" "stand" "[I") (List.mem_of_getElem? (l := wsX3_standAt) (i := 1) rfl)) (fun _ h9 => h9) rfl dX3_standAt_8 ?_
  refine lv_iconst (v := 1) hx hb dX3_standAt_11 (by decide) ?_
  refine lv_iload_n hx hb dX3_standAt_12 rfl (lv_at hl 2 rfl) ?_
  refine va_iast hx hb hK hP hD hS 1 0 rfl rfl (show vp_in 1 3 by unfold vp_in; decide) dX3_standAt_13 (fun H locs hP hD hS => ?_)
  rw [(show Int32.toNatClampNeg 1 = 1 by decide)] at hP hD
  have hP : va_P (dC, dI) vwCl [(t0, .inr (2, [.ref qs, .ref ql, .ref a1, .ref a2, lt])), (qs, .inl (cA, 3, .inl (upd (upd sv 0 x) 1 y)))] H := hP
  have hD : va_D A [(t0, .inr (2, [.ref qs, .ref ql, .ref a1, .ref a2, lt])), (qs, .inl (cA, 3, .inl (upd (upd sv 0 x) 1 y)))] := hD
  refine lv_aload_n hx hb dX3_standAt_14 rfl (lv_at hl 0 rfl) ?_
  refine va_get (D := (dC, dI)) (ci := 2) (v := .ref qs) (C := RX3) (T := TX3) (N := 5) hx hb hts hiX3 hown hK hP 0 rfl rfl 0 (by decide) (hts (.fieldLink RX3 9 "TickWalks" "stand" "[I") (List.mem_of_getElem? (l := wsX3_standAt) (i := 1) rfl)) (fun _ h9 => h9) rfl dX3_standAt_15 ?_
  refine lv_iconst (v := 2) hx hb dX3_standAt_18 (by decide) ?_
  refine lv_iload_n hx hb dX3_standAt_19 rfl (lv_at hl 3 rfl) ?_
  refine va_iast hx hb hK hP hD hS 1 0 rfl rfl (show vp_in 2 3 by unfold vp_in; decide) dX3_standAt_20 (fun H locs hP hD hS => ?_)
  rw [(show Int32.toNatClampNeg 2 = 2 by decide)] at hP hD
  have hP : va_P (dC, dI) vwCl [(t0, .inr (2, [.ref qs, .ref ql, .ref a1, .ref a2, lt])), (qs, .inl (cA, 3, .inl (upd (upd (upd sv 0 x) 1 y) 2 z)))] H := hP
  have hD : va_D A [(t0, .inr (2, [.ref qs, .ref ql, .ref a1, .ref a2, lt])), (qs, .inl (cA, 3, .inl (upd (upd (upd sv 0 x) 1 y) 2 z)))] := hD
  have hP9 := hP.sub (ws' := [(t0, .inr (2, [.ref qs, .ref ql, .ref a1, .ref a2, lt])), (qs, .inl (cA, 3, .inl (upd (upd (upd sv 0 x) 1 y) 2 z)))]) [0, 1] rfl
  have hD9 := hD.sub (ws' := [(t0, .inr (2, [.ref qs, .ref ql, .ref a1, .ref a2, lt])), (qs, .inl (cA, 3, .inl (upd (upd (upd sv 0 x) 1 y) 2 z)))]) [0, 1] (by decide) rfl
  exact W.vret hx hb hr (fun t9 ht9 hW9 => ⟨⟨(upd (upd (upd sv 0 x) 1 y) 2 z), rfl, ⟨rfl, rfl, rfl⟩, by rw [ht9]; exact hP9, hD9⟩, hS.F ht9⟩) hS.2.2 dX3_standAt_21
set_option maxHeartbeats 4000000 in
set_option maxRecDepth 100000 in
/-- TickWalks.place -/
theorem tw_place (l : Launch) (dC : Nat → ClassId) (dI : Nat → Nat → Nat) (cA cB : ClassId) (sz : Nat) (t0 : Nat) (qs : Nat) (ql : Nat) (a1 : Nat) (a2 : Nat) (lt : Value) (sv : Nat → Int32) (x : Int32) (y : Int32) (z : Int32) : Met l yX3_place wsX3_place ({ frames := 2, cells := 0, slots := 0, locals := 50 }) (va_Pc [.ref t0, .int x, .int y, .int z] (ct_P dC dI cA cB sz [(t0, .inr (2, [.ref qs, .ref ql, .ref a1, .ref a2, lt])), (qs, .inl (cA, 3, .inl sv))])) (va_Qi (fun (r : Int32) (u : (Nat → Int32) × Value) => (r = 1 ∧ (pl_in x ∧ pl_in y ∧ pl_in z) ∧ u.2 = .null ∧ (u.1 0 = x ∧ u.1 1 = y ∧ u.1 2 = z)) ∨ (r = 0 ∧ ¬ (pl_in x ∧ pl_in y ∧ pl_in z) ∧ u.2 = lt ∧ u.1 = sv)) (fun (u : (Nat → Int32) × Value) => ct_B dC dI (va_A [(t0, .inr (2, [.ref qs, .ref ql, .ref a1, .ref a2, lt])), (qs, .inl (cA, 3, .inl sv))] sz) [(t0, .inr (2, [.ref qs, .ref ql, .ref a1, .ref a2, u.2])), (qs, .inl (cA, 3, .inl u.1))]) (va_A [(t0, .inr (2, [.ref qs, .ref ql, .ref a1, .ref a2, lt])), (qs, .inl (cA, 3, .inl sv))] sz)) 0 0 (va_A [(t0, .inr (2, [.ref qs, .ref ql, .ref a1, .ref a2, lt])), (qs, .inl (cA, 3, .inl sv))] sz) := by
  refine Met.ofW (cc := cX3_place) (maxL := 4) (ret := (some .boolean)) (by decide +kernel) rfl ?_
  intro p e s m args below meth c s₁ B hml hv
  obtain ⟨rfl, hsz, hP, hK, hD0, hZ, hN⟩ := hv
  have hx := B.exec
  have hb := B.bytes
  have hr := B.returns
  have hts := atoms_spec (ws := wsX3_place) B.pre
  have hown : s.vm.findClass RX3 = some m.cls := findClass_of_methodNamed B.named
  have hlocks := B.notSynchronized
  have hiX3 : ∀ w ∈ u_ws RX3 TX3 5, w ∈ wsX3_place := by decide +kernel
  subst hsz
  have hD := hD0.self (sz := s.heap.size)
  generalize hAe : va_A [(t0, .inr (2, [.ref qs, .ref ql, .ref a1, .ref a2, lt])), (qs, .inl (cA, 3, .inl sv))] s.heap.size = A at hD hZ ⊢
  have hA : ∀ q : Nat, s.heap.size ≤ q → A q := fun q h => by rw [← hAe]; exact Or.inr h
  have hl := lv_entry ([.ref t0, .int x, .int y, .int z]) (n := 4) (Nat.le_of_ble_eq_true rfl)
  rw [lg_entry_eq]
  generalize (lg_sl ([.ref t0, .int x, .int y, .int z]) ++ List.replicate (4 - (lg_sl ([.ref t0, .int x, .int y, .int z])).length) Slot.unset).toArray = ls at hl ⊢
  have hl : lv_has ls 4 [(0, .ref t0), (1, .int x), (2, .int y), (3, .int z)] := hl
  generalize hHe : s.heap = H at hP ⊢
  have hS : va_S A s.heap H [] := by rw [hHe]; exact va_S.rf
  generalize ([] : List Loc) = locs at hS ⊢
  refine lv_iload_n hx hb dX3_place_0 rfl (lv_at hl 1 rfl) ?_
  refine lv_iload_n hx hb dX3_place_1 rfl (lv_at hl 2 rfl) ?_
  refine lv_iload_n hx hb dX3_place_2 rfl (lv_at hl 3 rfl) ?_
  refine ct_calli (va_runS (As := [.int x, .int y, .int z]) (rest := []) ⟨hx, hb, hml, hown, hts⟩ (ct_isPlace l dC dI cA cB H.size x y z ) (va_cwS 3 hts gX3_place_X3_isPlace rfl rfl rfl (by decide +kernel) ⟨Nat.le_of_ble_eq_true rfl, Nat.le_of_ble_eq_true rfl⟩) ⟨ct_blind, ct_pre hP hD hK hZ hN hS hA [] rfl (by decide)⟩ rfl rfl hl.1 rfl (lv_room (Nat.le_of_ble_eq_true rfl)) dX3_place_3 ⟨Nat.le_of_ble_eq_true rfl, Nat.le_of_ble_eq_true rfl⟩) hP hD hS hA [] [0, 1] rfl (wr := [(t0, .inr (2, [.ref qs, .ref ql, .ref a1, .ref a2, lt])), (qs, .inl (cA, 3, .inl sv))]) rfl (by decide) (by decide) (fun r_1 u9 H locs hw_1 hP hD hS => ?_)
  have hw_1 : bo_z r_1 (pl_in x ∧ pl_in y ∧ pl_in z) := hw_1
  have hP : va_P (dC, dI) vwCl [(t0, .inr (2, [.ref qs, .ref ql, .ref a1, .ref a2, lt])), (qs, .inl (cA, 3, .inl sv))] H := hP
  have hD : va_D A [(t0, .inr (2, [.ref qs, .ref ql, .ref a1, .ref a2, lt])), (qs, .inl (cA, 3, .inl sv))] := hD
  refine lv_if_ne (tgt := 11) hx hb dX3_place_6 (by decide) (fun c_6 => ?_) (fun c_6 => ?_)
  · refine lv_aload_n hx hb dX3_place_11 rfl (lv_at hl 0 rfl) ?_
    refine lv_iload_n hx hb dX3_place_12 rfl (lv_at hl 1 rfl) ?_
    refine lv_iload_n hx hb dX3_place_13 rfl (lv_at hl 2 rfl) ?_
    refine lv_iload_n hx hb dX3_place_14 rfl (lv_at hl 3 rfl) ?_
    refine ct_callv (va_runV (As := [.int x, .int y, .int z]) (rest := []) ⟨hx, hb, hml, hown, hts⟩ (tw_stand l dC dI cA cB H.size t0 qs ql a1 a2 lt sv x y z ) (cwV 3 hts gX3_place_X3_standAt rfl rfl rfl (by decide +kernel) ⟨Nat.le_of_ble_eq_true rfl, Nat.le_of_ble_eq_true rfl⟩) ⟨ct_blind, va_recv hK hP (ci := 2) (q0 := 0) rfl rfl, ct_pre hP hD hK hZ hN hS hA [0, 1] rfl (by decide)⟩ rfl rfl hl.1 rfl (lv_room (Nat.le_of_ble_eq_true rfl)) dX3_place_15 ⟨Nat.le_of_ble_eq_true rfl, Nat.le_of_ble_eq_true rfl⟩) hP hD hS hA [0, 1] [] rfl (wr := []) rfl (by decide) (by decide) (fun nv_2 H locs hw_2 hP hD hS => ?_)
    have hw_2 : nv_2 0 = x ∧ nv_2 1 = y ∧ nv_2 2 = z := hw_2
    have hP : va_P (dC, dI) vwCl [(t0, .inr (2, [.ref qs, .ref ql, .ref a1, .ref a2, lt])), (qs, .inl (cA, 3, .inl nv_2))] H := hP
    have hD : va_D A [(t0, .inr (2, [.ref qs, .ref ql, .ref a1, .ref a2, lt])), (qs, .inl (cA, 3, .inl nv_2))] := hD
    refine lv_aload_n hx hb dX3_place_18 rfl (lv_at hl 0 rfl) ?_
    refine lv_null hx hb dX3_place_19 ?_
    refine va_put (D := (dC, dI)) (ci := 2) (v := .null) (ty := (.object "TickWalks$Walk")) (C := RX3) (T := TX3) (N := 5) hx hb hts hiX3 tyX3 tyX3_ok nmX3 hown hK hP hD hS 0 rfl rfl 4 (by decide) (hts (.fieldLink RX3 30 "TickWalks" "latest" "LTickWalks$Walk;") (List.mem_of_getElem? (l := wsX3_place) (i := 1) rfl)) (fun _ h9 => h9) rfl (by decide +kernel) rfl rfl (Nat.le_of_ble_eq_true rfl) dX3_place_20 (fun H locs hP hD hS => ?_)
    have hP : va_P (dC, dI) vwCl [(t0, .inr (2, [.ref qs, .ref ql, .ref a1, .ref a2, .null])), (qs, .inl (cA, 3, .inl nv_2))] H := hP
    have hD : va_D A [(t0, .inr (2, [.ref qs, .ref ql, .ref a1, .ref a2, .null])), (qs, .inl (cA, 3, .inl nv_2))] := hD
    refine lv_iconst (v := 1) hx hb dX3_place_23 (by decide) ?_
    have hP9 := hP.sub (ws' := [(t0, .inr (2, [.ref qs, .ref ql, .ref a1, .ref a2, .null])), (qs, .inl (cA, 3, .inl nv_2))]) [0, 1] rfl
    have hD9 := hD.sub (ws' := [(t0, .inr (2, [.ref qs, .ref ql, .ref a1, .ref a2, .null])), (qs, .inl (cA, 3, .inl nv_2))]) [0, 1] (by decide) rfl
    exact W.zret (v := 1) hx hb hr rfl (fun t9 ht9 hW9 => ⟨⟨1, (nv_2, .null), rfl, Or.inl ⟨rfl, hw_1.t c_6, rfl, hw_2⟩, by rw [ht9]; exact hP9, hD9⟩, hS.F ht9⟩) hS.2.2 dX3_place_24
  · refine lv_iconst (v := 0) hx hb dX3_place_9 (by decide) ?_
    have hP9 := hP.sub (ws' := [(t0, .inr (2, [.ref qs, .ref ql, .ref a1, .ref a2, lt])), (qs, .inl (cA, 3, .inl sv))]) [0, 1] rfl
    have hD9 := hD.sub (ws' := [(t0, .inr (2, [.ref qs, .ref ql, .ref a1, .ref a2, lt])), (qs, .inl (cA, 3, .inl sv))]) [0, 1] (by decide) rfl
    exact W.zret (v := 0) hx hb hr rfl (fun t9 ht9 hW9 => ⟨⟨0, (sv, lt), rfl, Or.inr ⟨rfl, hw_1.f c_6, rfl, rfl⟩, by rw [ht9]; exact hP9, hD9⟩, hS.F ht9⟩) hS.2.2 dX3_place_10
set_option maxHeartbeats 4000000 in
set_option maxRecDepth 100000 in
/-- TickWalks.line -/
theorem tw_line (l : Launch) (dC : Nat → ClassId) (dI : Nat → Nat → Nat) (cA cB : ClassId) (sz : Nat) (t0 : Nat) (qs : Nat) (ql : Nat) (a1 : Nat) (a2 : Nat) (lt : Value) (sv : Nat → Int32) (qf : Nat) (qb : Nat) (ln : Int32) (sr : Int32) (fv : Nat → Int32) (bv : Nat → Int32) (x : Int32) (y : Int32) (z : Int32) : Met l yX3_line wsX3_line ({ frames := 3, cells := 0, slots := 0, locals := 70 }) (va_Pc [.ref t0, .int x, .int y, .int z] (ct_P dC dI cA cB sz [(t0, .inr (2, [.ref qs, .ref ql, .ref a1, .ref a2, lt])), (qs, .inl (cA, 3, .inl sv)), (ql, .inr (1, [.ref qf, .ref qb, .int ln, .int sr])), (qf, .inl (cA, 3, .inl fv)), (qb, .inl (cA, 3, .inl bv))])) (va_Qi (fun (r : Int32) (u : (Nat → Int32) × Value × (Nat → Int32) × (Nat → Int32) × Int32 × Int32) => (r = u.2.2.2.2.1 ∧ (pl_in x ∧ pl_in y ∧ pl_in z) ∧ u.2.1 = .ref ql ∧ u.2.2.2.2.2 = -1 ∧ (u.1 0 = x ∧ u.1 1 = y ∧ u.1 2 = z) ∧ (u.2.2.1 0 = sv 0 ∧ u.2.2.1 1 = sv 1 ∧ u.2.2.1 2 = sv 2) ∧ (u.2.2.2.1 0 = x - sv 0 ∧ u.2.2.2.1 1 = y - sv 1 ∧ u.2.2.2.1 2 = z - sv 2) ∧ u.2.2.2.2.1 = ga_m (u.2.2.2.1 0) (u.2.2.2.1 1) (u.2.2.2.1 2)) ∨ (r = -1 ∧ ¬ (pl_in x ∧ pl_in y ∧ pl_in z) ∧ u.2.1 = lt ∧ u.1 = sv ∧ u.2.2.1 = fv ∧ u.2.2.2.1 = bv ∧ u.2.2.2.2.1 = ln ∧ u.2.2.2.2.2 = sr)) (fun (u : (Nat → Int32) × Value × (Nat → Int32) × (Nat → Int32) × Int32 × Int32) => ct_B dC dI (va_A [(t0, .inr (2, [.ref qs, .ref ql, .ref a1, .ref a2, lt])), (qs, .inl (cA, 3, .inl sv)), (ql, .inr (1, [.ref qf, .ref qb, .int ln, .int sr])), (qf, .inl (cA, 3, .inl fv)), (qb, .inl (cA, 3, .inl bv))] sz) [(t0, .inr (2, [.ref qs, .ref ql, .ref a1, .ref a2, u.2.1])), (qs, .inl (cA, 3, .inl u.1)), (ql, .inr (1, [.ref qf, .ref qb, .int u.2.2.2.2.1, .int u.2.2.2.2.2])), (qf, .inl (cA, 3, .inl u.2.2.1)), (qb, .inl (cA, 3, .inl u.2.2.2.1))]) (va_A [(t0, .inr (2, [.ref qs, .ref ql, .ref a1, .ref a2, lt])), (qs, .inl (cA, 3, .inl sv)), (ql, .inr (1, [.ref qf, .ref qb, .int ln, .int sr])), (qf, .inl (cA, 3, .inl fv)), (qb, .inl (cA, 3, .inl bv))] sz)) 0 0 (va_A [(t0, .inr (2, [.ref qs, .ref ql, .ref a1, .ref a2, lt])), (qs, .inl (cA, 3, .inl sv)), (ql, .inr (1, [.ref qf, .ref qb, .int ln, .int sr])), (qf, .inl (cA, 3, .inl fv)), (qb, .inl (cA, 3, .inl bv))] sz) := by
  refine Met.ofW (cc := cX3_line) (maxL := 4) (ret := (some .int)) (by decide +kernel) rfl ?_
  intro p e s m args below meth c s₁ B hml hv
  obtain ⟨rfl, hsz, hP, hK, hD0, hZ, hN⟩ := hv
  have hx := B.exec
  have hb := B.bytes
  have hr := B.returns
  have hts := atoms_spec (ws := wsX3_line) B.pre
  have hown : s.vm.findClass RX3 = some m.cls := findClass_of_methodNamed B.named
  have hlocks := B.notSynchronized
  have hiX3 : ∀ w ∈ u_ws RX3 TX3 5, w ∈ wsX3_line := by decide +kernel
  have hiX1 : ∀ w ∈ u_ws RX1 TX1 4, w ∈ wsX3_line := by decide +kernel
  subst hsz
  have hD := hD0.self (sz := s.heap.size)
  generalize hAe : va_A [(t0, .inr (2, [.ref qs, .ref ql, .ref a1, .ref a2, lt])), (qs, .inl (cA, 3, .inl sv)), (ql, .inr (1, [.ref qf, .ref qb, .int ln, .int sr])), (qf, .inl (cA, 3, .inl fv)), (qb, .inl (cA, 3, .inl bv))] s.heap.size = A at hD hZ ⊢
  have hA : ∀ q : Nat, s.heap.size ≤ q → A q := fun q h => by rw [← hAe]; exact Or.inr h
  have hl := lv_entry ([.ref t0, .int x, .int y, .int z]) (n := 4) (Nat.le_of_ble_eq_true rfl)
  rw [lg_entry_eq]
  generalize (lg_sl ([.ref t0, .int x, .int y, .int z]) ++ List.replicate (4 - (lg_sl ([.ref t0, .int x, .int y, .int z])).length) Slot.unset).toArray = ls at hl ⊢
  have hl : lv_has ls 4 [(0, .ref t0), (1, .int x), (2, .int y), (3, .int z)] := hl
  generalize hHe : s.heap = H at hP ⊢
  have hS : va_S A s.heap H [] := by rw [hHe]; exact va_S.rf
  generalize ([] : List Loc) = locs at hS ⊢
  refine lv_iload_n hx hb dX3_line_0 rfl (lv_at hl 1 rfl) ?_
  refine lv_iload_n hx hb dX3_line_1 rfl (lv_at hl 2 rfl) ?_
  refine lv_iload_n hx hb dX3_line_2 rfl (lv_at hl 3 rfl) ?_
  refine ct_calli (va_runS (As := [.int x, .int y, .int z]) (rest := []) ⟨hx, hb, hml, hown, hts⟩ (ct_isPlace l dC dI cA cB H.size x y z ) (va_cwS 3 hts gX3_line_X3_isPlace rfl rfl rfl (by decide +kernel) ⟨Nat.le_of_ble_eq_true rfl, Nat.le_of_ble_eq_true rfl⟩) ⟨ct_blind, ct_pre hP hD hK hZ hN hS hA [] rfl (by decide)⟩ rfl rfl hl.1 rfl (lv_room (Nat.le_of_ble_eq_true rfl)) dX3_line_3 ⟨Nat.le_of_ble_eq_true rfl, Nat.le_of_ble_eq_true rfl⟩) hP hD hS hA [] [0, 1, 2, 3, 4] rfl (wr := [(t0, .inr (2, [.ref qs, .ref ql, .ref a1, .ref a2, lt])), (qs, .inl (cA, 3, .inl sv)), (ql, .inr (1, [.ref qf, .ref qb, .int ln, .int sr])), (qf, .inl (cA, 3, .inl fv)), (qb, .inl (cA, 3, .inl bv))]) rfl (by decide) (by decide) (fun r_1 u9 H locs hw_1 hP hD hS => ?_)
  have hw_1 : bo_z r_1 (pl_in x ∧ pl_in y ∧ pl_in z) := hw_1
  have hP : va_P (dC, dI) vwCl [(t0, .inr (2, [.ref qs, .ref ql, .ref a1, .ref a2, lt])), (qs, .inl (cA, 3, .inl sv)), (ql, .inr (1, [.ref qf, .ref qb, .int ln, .int sr])), (qf, .inl (cA, 3, .inl fv)), (qb, .inl (cA, 3, .inl bv))] H := hP
  have hD : va_D A [(t0, .inr (2, [.ref qs, .ref ql, .ref a1, .ref a2, lt])), (qs, .inl (cA, 3, .inl sv)), (ql, .inr (1, [.ref qf, .ref qb, .int ln, .int sr])), (qf, .inl (cA, 3, .inl fv)), (qb, .inl (cA, 3, .inl bv))] := hD
  refine lv_if_ne (tgt := 11) hx hb dX3_line_6 (by decide) (fun c_6 => ?_) (fun c_6 => ?_)
  · refine lv_aload_n hx hb dX3_line_11 rfl (lv_at hl 0 rfl) ?_
    refine va_get (D := (dC, dI)) (ci := 2) (v := .ref ql) (C := RX3) (T := TX3) (N := 5) hx hb hts hiX3 hown hK hP 0 rfl rfl 1 (by decide) (hts (.fieldLink RX3 16 "TickWalks" "latestLine" "LTickWalks$Line;") (List.mem_of_getElem? (l := wsX3_line) (i := 1) rfl)) (fun _ h9 => h9) rfl dX3_line_12 ?_
    refine lv_aload_n hx hb dX3_line_15 rfl (lv_at hl 0 rfl) ?_
    refine va_get (D := (dC, dI)) (ci := 2) (v := .ref qs) (C := RX3) (T := TX3) (N := 5) hx hb hts hiX3 hown hK hP 0 rfl rfl 0 (by decide) (hts (.fieldLink RX3 9 "TickWalks" "stand" "[I") (List.mem_of_getElem? (l := wsX3_line) (i := 2) rfl)) (fun _ h9 => h9) rfl dX3_line_16 ?_
    refine lv_iload_n hx hb dX3_line_19 rfl (lv_at hl 1 rfl) ?_
    refine lv_iload_n hx hb dX3_line_20 rfl (lv_at hl 2 rfl) ?_
    refine lv_iload_n hx hb dX3_line_21 rfl (lv_at hl 3 rfl) ?_
    refine ct_callv (va_runV (As := [.ref qs, .int x, .int y, .int z]) (rest := []) ⟨hx, hb, hml, hown, hts⟩ (li_walk l dC dI cA cB H.size ql qf qb ln sr fv bv qs sv x y z ) (cwV 4 hts gX3_line_X1_walk rfl rfl rfl (by decide +kernel) ⟨Nat.le_of_ble_eq_true rfl, Nat.le_of_ble_eq_true rfl⟩) ⟨ct_blind, va_recv hK hP (ci := 1) (q0 := 2) rfl rfl, ct_pre hP hD hK hZ hN hS hA [2, 3, 4, 1] rfl (by decide)⟩ rfl rfl hl.1 rfl (lv_room (Nat.le_of_ble_eq_true rfl)) dX3_line_22 ⟨Nat.le_of_ble_eq_true rfl, Nat.le_of_ble_eq_true rfl⟩) hP hD hS hA [2, 3, 4, 1] [0] rfl (wr := [(t0, .inr (2, [.ref qs, .ref ql, .ref a1, .ref a2, lt]))]) rfl (by decide) (by decide) (fun u9 H locs hw_2 hP hD hS => ?_)
    obtain ⟨nf_2, nb_2, nl_2⟩ := u9
    have hw_2 : (nf_2 0 = sv 0 ∧ nf_2 1 = sv 1 ∧ nf_2 2 = sv 2) ∧ (nb_2 0 = x - sv 0 ∧ nb_2 1 = y - sv 1 ∧ nb_2 2 = z - sv 2) ∧ nl_2 = ga_m (nb_2 0) (nb_2 1) (nb_2 2) := hw_2
    have hP : va_P (dC, dI) vwCl [(t0, .inr (2, [.ref qs, .ref ql, .ref a1, .ref a2, lt])), (ql, .inr (1, [.ref qf, .ref qb, .int nl_2, .int (-1)])), (qf, .inl (cA, 3, .inl nf_2)), (qb, .inl (cA, 3, .inl nb_2)), (qs, .inl (cA, 3, .inl sv))] H := hP
    have hD : va_D A [(t0, .inr (2, [.ref qs, .ref ql, .ref a1, .ref a2, lt])), (ql, .inr (1, [.ref qf, .ref qb, .int nl_2, .int (-1)])), (qf, .inl (cA, 3, .inl nf_2)), (qb, .inl (cA, 3, .inl nb_2)), (qs, .inl (cA, 3, .inl sv))] := hD
    refine lv_aload_n hx hb dX3_line_25 rfl (lv_at hl 0 rfl) ?_
    refine lv_aload_n hx hb dX3_line_26 rfl (lv_at hl 0 rfl) ?_
    refine va_get (D := (dC, dI)) (ci := 2) (v := .ref ql) (C := RX3) (T := TX3) (N := 5) hx hb hts hiX3 hown hK hP 0 rfl rfl 1 (by decide) (hts (.fieldLink RX3 16 "TickWalks" "latestLine" "LTickWalks$Line;") (List.mem_of_getElem? (l := wsX3_line) (i := 1) rfl)) (fun _ h9 => h9) rfl dX3_line_27 ?_
    refine va_put (D := (dC, dI)) (ci := 2) (v := .ref ql) (ty := (.object "TickWalks$Walk")) (C := RX3) (T := TX3) (N := 5) hx hb hts hiX3 tyX3 tyX3_ok nmX3 hown hK hP hD hS 0 rfl rfl 4 (by decide) (hts (.fieldLink RX3 30 "TickWalks" "latest" "LTickWalks$Walk;") (List.mem_of_getElem? (l := wsX3_line) (i := 3) rfl)) (fun _ h9 => h9) rfl (by decide +kernel) rfl rfl (Nat.le_of_ble_eq_true rfl) dX3_line_30 (fun H locs hP hD hS => ?_)
    have hP : va_P (dC, dI) vwCl [(t0, .inr (2, [.ref qs, .ref ql, .ref a1, .ref a2, .ref ql])), (ql, .inr (1, [.ref qf, .ref qb, .int nl_2, .int (-1)])), (qf, .inl (cA, 3, .inl nf_2)), (qb, .inl (cA, 3, .inl nb_2)), (qs, .inl (cA, 3, .inl sv))] H := hP
    have hD : va_D A [(t0, .inr (2, [.ref qs, .ref ql, .ref a1, .ref a2, .ref ql])), (ql, .inr (1, [.ref qf, .ref qb, .int nl_2, .int (-1)])), (qf, .inl (cA, 3, .inl nf_2)), (qb, .inl (cA, 3, .inl nb_2)), (qs, .inl (cA, 3, .inl sv))] := hD
    refine lv_aload_n hx hb dX3_line_33 rfl (lv_at hl 0 rfl) ?_
    refine lv_iload_n hx hb dX3_line_34 rfl (lv_at hl 1 rfl) ?_
    refine lv_iload_n hx hb dX3_line_35 rfl (lv_at hl 2 rfl) ?_
    refine lv_iload_n hx hb dX3_line_36 rfl (lv_at hl 3 rfl) ?_
    refine ct_callv (va_runV (As := [.int x, .int y, .int z]) (rest := []) ⟨hx, hb, hml, hown, hts⟩ (tw_stand l dC dI cA cB H.size t0 qs ql a1 a2 (.ref ql) sv x y z ) (cwV 3 hts gX3_line_X3_standAt rfl rfl rfl (by decide +kernel) ⟨Nat.le_of_ble_eq_true rfl, Nat.le_of_ble_eq_true rfl⟩) ⟨ct_blind, va_recv hK hP (ci := 2) (q0 := 0) rfl rfl, ct_pre hP hD hK hZ hN hS hA [0, 4] rfl (by decide)⟩ rfl rfl hl.1 rfl (lv_room (Nat.le_of_ble_eq_true rfl)) dX3_line_37 ⟨Nat.le_of_ble_eq_true rfl, Nat.le_of_ble_eq_true rfl⟩) hP hD hS hA [0, 4] [1, 2, 3] rfl (wr := [(ql, .inr (1, [.ref qf, .ref qb, .int nl_2, .int (-1)])), (qf, .inl (cA, 3, .inl nf_2)), (qb, .inl (cA, 3, .inl nb_2))]) rfl (by decide) (by decide) (fun nv_3 H locs hw_3 hP hD hS => ?_)
    have hw_3 : nv_3 0 = x ∧ nv_3 1 = y ∧ nv_3 2 = z := hw_3
    have hP : va_P (dC, dI) vwCl [(ql, .inr (1, [.ref qf, .ref qb, .int nl_2, .int (-1)])), (qf, .inl (cA, 3, .inl nf_2)), (qb, .inl (cA, 3, .inl nb_2)), (t0, .inr (2, [.ref qs, .ref ql, .ref a1, .ref a2, (.ref ql)])), (qs, .inl (cA, 3, .inl nv_3))] H := hP
    have hD : va_D A [(ql, .inr (1, [.ref qf, .ref qb, .int nl_2, .int (-1)])), (qf, .inl (cA, 3, .inl nf_2)), (qb, .inl (cA, 3, .inl nb_2)), (t0, .inr (2, [.ref qs, .ref ql, .ref a1, .ref a2, (.ref ql)])), (qs, .inl (cA, 3, .inl nv_3))] := hD
    refine lv_aload_n hx hb dX3_line_40 rfl (lv_at hl 0 rfl) ?_
    refine va_get (D := (dC, dI)) (ci := 2) (v := .ref ql) (C := RX3) (T := TX3) (N := 5) hx hb hts hiX3 hown hK hP 3 rfl rfl 1 (by decide) (hts (.fieldLink RX3 16 "TickWalks" "latestLine" "LTickWalks$Line;") (List.mem_of_getElem? (l := wsX3_line) (i := 1) rfl)) (fun _ h9 => h9) rfl dX3_line_41 ?_
    refine ct_calli (va_runV (As := []) (rest := []) ⟨hx, hb, hml, hown, hts⟩ (li_length l dC dI cA cB H.size ql qf qb nl_2 (-1) ) (cwV 0 hts gX3_line_X1_length rfl rfl rfl (by decide +kernel) ⟨Nat.le_of_ble_eq_true rfl, Nat.le_of_ble_eq_true rfl⟩) ⟨ct_blind, va_recv hK hP (ci := 1) (q0 := 0) rfl rfl, ct_pre hP hD hK hZ hN hS hA [0] rfl (by decide)⟩ rfl rfl hl.1 rfl (lv_room (Nat.le_of_ble_eq_true rfl)) dX3_line_44 ⟨Nat.le_of_ble_eq_true rfl, Nat.le_of_ble_eq_true rfl⟩) hP hD hS hA [0] [1, 2, 3, 4] rfl (wr := [(qf, .inl (cA, 3, .inl nf_2)), (qb, .inl (cA, 3, .inl nb_2)), (t0, .inr (2, [.ref qs, .ref ql, .ref a1, .ref a2, (.ref ql)])), (qs, .inl (cA, 3, .inl nv_3))]) rfl (by decide) (by decide) (fun r_4 u9 H locs hw_4 hP hD hS => ?_)
    have hw_4 : r_4 = nl_2 := hw_4
    have hP : va_P (dC, dI) vwCl [(qf, .inl (cA, 3, .inl nf_2)), (qb, .inl (cA, 3, .inl nb_2)), (t0, .inr (2, [.ref qs, .ref ql, .ref a1, .ref a2, (.ref ql)])), (qs, .inl (cA, 3, .inl nv_3)), (ql, .inr (1, [.ref qf, .ref qb, .int nl_2, .int (-1)]))] H := hP
    have hD : va_D A [(qf, .inl (cA, 3, .inl nf_2)), (qb, .inl (cA, 3, .inl nb_2)), (t0, .inr (2, [.ref qs, .ref ql, .ref a1, .ref a2, (.ref ql)])), (qs, .inl (cA, 3, .inl nv_3)), (ql, .inr (1, [.ref qf, .ref qb, .int nl_2, .int (-1)]))] := hD
    have hP9 := hP.sub (ws' := [(t0, .inr (2, [.ref qs, .ref ql, .ref a1, .ref a2, (.ref ql)])), (qs, .inl (cA, 3, .inl nv_3)), (ql, .inr (1, [.ref qf, .ref qb, .int nl_2, .int (-1)])), (qf, .inl (cA, 3, .inl nf_2)), (qb, .inl (cA, 3, .inl nb_2))]) [2, 3, 4, 0, 1] rfl
    have hD9 := hD.sub (ws' := [(t0, .inr (2, [.ref qs, .ref ql, .ref a1, .ref a2, (.ref ql)])), (qs, .inl (cA, 3, .inl nv_3)), (ql, .inr (1, [.ref qf, .ref qb, .int nl_2, .int (-1)])), (qf, .inl (cA, 3, .inl nf_2)), (qb, .inl (cA, 3, .inl nb_2))]) [2, 3, 4, 0, 1] (by decide) rfl
    exact W.iret (v := r_4) hx hb hr (fun t9 ht9 hW9 => ⟨⟨r_4, (nv_3, (.ref ql), nf_2, nb_2, nl_2, (-1)), rfl, Or.inl ⟨hw_4, hw_1.t c_6, rfl, rfl, hw_3, hw_2.1, hw_2.2.1, hw_2.2.2⟩, by rw [ht9]; exact hP9, hD9⟩, hS.F ht9⟩) hS.2.2 dX3_line_47
  · refine lv_iconst (v := -1) hx hb dX3_line_9 (by decide) ?_
    have hP9 := hP.sub (ws' := [(t0, .inr (2, [.ref qs, .ref ql, .ref a1, .ref a2, lt])), (qs, .inl (cA, 3, .inl sv)), (ql, .inr (1, [.ref qf, .ref qb, .int ln, .int sr])), (qf, .inl (cA, 3, .inl fv)), (qb, .inl (cA, 3, .inl bv))]) [0, 1, 2, 3, 4] rfl
    have hD9 := hD.sub (ws' := [(t0, .inr (2, [.ref qs, .ref ql, .ref a1, .ref a2, lt])), (qs, .inl (cA, 3, .inl sv)), (ql, .inr (1, [.ref qf, .ref qb, .int ln, .int sr])), (qf, .inl (cA, 3, .inl fv)), (qb, .inl (cA, 3, .inl bv))]) [0, 1, 2, 3, 4] (by decide) rfl
    exact W.iret (v := -1) hx hb hr (fun t9 ht9 hW9 => ⟨⟨-1, (sv, lt, fv, bv, ln, sr), rfl, Or.inr ⟨rfl, hw_1.f c_6, rfl, rfl, rfl, rfl, rfl, rfl⟩, by rw [ht9]; exact hP9, hD9⟩, hS.F ht9⟩) hS.2.2 dX3_line_10
set_option maxHeartbeats 4000000 in
set_option maxRecDepth 100000 in
/-- TickWalks.arc -/
theorem tw_arc (l : Launch) (dC : Nat → ClassId) (dI : Nat → Nat → Nat) (cA cB : ClassId) (sz : Nat) (t0 : Nat) (qs : Nat) (ql : Nat) (a1 : Nat) (a2 : Nat) (lt : Value) (sv : Nat → Int32) (qx1 : Nat) (qy1 : Nat) (ht1 : Int32) (cx1 : Int32) (cy1 : Int32) (lf1 : Int32) (sq1 : Int64) (ln1 : Int32) (of1 : Int32) (sr1 : Int32) (fx1 : Int32) (fy1 : Int32) (mx1 : Nat → Int32) (my1 : Nat → Int32) (qx2 : Nat) (qy2 : Nat) (ht2 : Int32) (cx2 : Int32) (cy2 : Int32) (lf2 : Int32) (sq2 : Int64) (ln2 : Int32) (of2 : Int32) (sr2 : Int32) (fx2 : Int32) (fy2 : Int32) (mx2 : Nat → Int32) (my2 : Nat → Int32) (x : Int32) (y : Int32) (cx : Int32) (cy : Int32) (al : Int32) (hal : al = 0 ∨ al = 1) (hsz2 : pl_in (sv 2)) : Met l yX3_arc wsX3_arc ({ frames := 5, cells := 0, slots := 0, locals := 120 }) (va_Pc [.ref t0, .int x, .int y, .int cx, .int cy, .int al] (ct_P dC dI cA cB sz [(t0, .inr (2, [.ref qs, .ref ql, .ref a1, .ref a2, lt])), (qs, .inl (cA, 3, .inl sv)), (a1, .inr (0, [.ref qx1, .ref qy1, .int ht1, .int cx1, .int cy1, .int lf1, .long sq1, .int ln1, .int of1, .int sr1, .int fx1, .int fy1])), (qx1, .inl (cA, 401, .inl mx1)), (qy1, .inl (cA, 401, .inl my1)), (a2, .inr (0, [.ref qx2, .ref qy2, .int ht2, .int cx2, .int cy2, .int lf2, .long sq2, .int ln2, .int of2, .int sr2, .int fx2, .int fy2])), (qx2, .inl (cA, 401, .inl mx2)), (qy2, .inl (cA, 401, .inl my2))])) (va_Qi (fun (r : Int32) (u : Nat × Nat × Value × (Nat → Int32) × Nat × Nat × Int32 × Int32 × Int32 × Int32 × Int64 × Int32 × Int32 × Int32 × Int32 × Int32 × (Nat → Int32) × (Nat → Int32) × Nat × Nat × Int32 × Int32 × Int32 × Int32 × Int64 × Int32 × Int32 × Int32 × Int32 × Int32 × (Nat → Int32) × (Nat → Int32)) => (r = u.2.2.2.2.2.2.2.2.2.2.2.1 ∧ (pl_in x ∧ pl_in y) ∧ (ce_in cx ∧ ce_in cy) ∧ u.2.2.1 = .ref u.1 ∧ (u.2.2.2.1 0 = x ∧ u.2.2.2.1 1 = y ∧ u.2.2.2.1 2 = sv 2) ∧ (u.2.2.2.2.2.2.1 = sv 2 ∧ u.2.2.2.2.2.2.2.1 = cx ∧ u.2.2.2.2.2.2.2.2.1 = cy ∧ u.2.2.2.2.2.2.2.2.2.1 = al ∧ u.2.2.2.2.2.2.2.2.2.2.1 = (sq_c (sv 0) cx (sv 1) cy)) ∧ (1 ≤ u.2.2.2.2.2.2.2.2.2.2.1 ∧ u.2.2.2.2.2.2.2.2.2.2.1 ≤ 25000000) ∧ u.2.2.2.2.2.2.2.2.2.2.2.2.2.1 = 0 ∧ ∃ n, ob_H al u.2.2.2.2.2.2.2.2.2.2.1 cx cy (sv 0, sv 1) (x, y) n ∧ u.2.2.2.2.2.2.2.2.2.2.2.1 = nI n ∧ u.2.2.2.2.2.2.2.2.2.2.2.2.1 = ob_o al u.2.2.2.2.2.2.2.2.2.2.1 cx cy (sv 0, sv 1) n ∧ ob_M al u.2.2.2.2.2.2.2.2.2.2.1 cx cy (sv 0, sv 1) u.2.2.2.2.2.2.2.2.2.2.2.2.2.2.2.2.1 u.2.2.2.2.2.2.2.2.2.2.2.2.2.2.2.2.2.1 n) ∨ (r = -1 ∧ ¬ ((pl_in x ∧ pl_in y) ∧ (ce_in cx ∧ ce_in cy) ∧ (1 ≤ (sq_c (sv 0) cx (sv 1) cy) ∧ (sq_c (sv 0) cx (sv 1) cy) ≤ 25000000) ∧ ∃ n, ob_H al (sq_c (sv 0) cx (sv 1) cy) cx cy (sv 0, sv 1) (x, y) n) ∧ u.2.2.1 = lt ∧ u.2.2.2.1 = sv ∧ u.1 = a1 ∧ (u.2.2.2.2.2.2.1 = ht1 ∧ u.2.2.2.2.2.2.2.1 = cx1 ∧ u.2.2.2.2.2.2.2.2.1 = cy1 ∧ u.2.2.2.2.2.2.2.2.2.1 = lf1 ∧ u.2.2.2.2.2.2.2.2.2.2.1 = sq1 ∧ u.2.2.2.2.2.2.2.2.2.2.2.1 = ln1 ∧ u.2.2.2.2.2.2.2.2.2.2.2.2.1 = of1 ∧ u.2.2.2.2.2.2.2.2.2.2.2.2.2.1 = sr1 ∧ u.2.2.2.2.2.2.2.2.2.2.2.2.2.2.2.2.1 = mx1 ∧ u.2.2.2.2.2.2.2.2.2.2.2.2.2.2.2.2.2.1 = my1))) (fun (u : Nat × Nat × Value × (Nat → Int32) × Nat × Nat × Int32 × Int32 × Int32 × Int32 × Int64 × Int32 × Int32 × Int32 × Int32 × Int32 × (Nat → Int32) × (Nat → Int32) × Nat × Nat × Int32 × Int32 × Int32 × Int32 × Int64 × Int32 × Int32 × Int32 × Int32 × Int32 × (Nat → Int32) × (Nat → Int32)) => ct_B dC dI (va_A [(t0, .inr (2, [.ref qs, .ref ql, .ref a1, .ref a2, lt])), (qs, .inl (cA, 3, .inl sv)), (a1, .inr (0, [.ref qx1, .ref qy1, .int ht1, .int cx1, .int cy1, .int lf1, .long sq1, .int ln1, .int of1, .int sr1, .int fx1, .int fy1])), (qx1, .inl (cA, 401, .inl mx1)), (qy1, .inl (cA, 401, .inl my1)), (a2, .inr (0, [.ref qx2, .ref qy2, .int ht2, .int cx2, .int cy2, .int lf2, .long sq2, .int ln2, .int of2, .int sr2, .int fx2, .int fy2])), (qx2, .inl (cA, 401, .inl mx2)), (qy2, .inl (cA, 401, .inl my2))] sz) [(t0, .inr (2, [.ref qs, .ref ql, .ref u.1, .ref u.2.1, u.2.2.1])), (qs, .inl (cA, 3, .inl u.2.2.2.1)), (u.1, .inr (0, [.ref u.2.2.2.2.1, .ref u.2.2.2.2.2.1, .int u.2.2.2.2.2.2.1, .int u.2.2.2.2.2.2.2.1, .int u.2.2.2.2.2.2.2.2.1, .int u.2.2.2.2.2.2.2.2.2.1, .long u.2.2.2.2.2.2.2.2.2.2.1, .int u.2.2.2.2.2.2.2.2.2.2.2.1, .int u.2.2.2.2.2.2.2.2.2.2.2.2.1, .int u.2.2.2.2.2.2.2.2.2.2.2.2.2.1, .int u.2.2.2.2.2.2.2.2.2.2.2.2.2.2.1, .int u.2.2.2.2.2.2.2.2.2.2.2.2.2.2.2.1])), (u.2.2.2.2.1, .inl (cA, 401, .inl u.2.2.2.2.2.2.2.2.2.2.2.2.2.2.2.2.1)), (u.2.2.2.2.2.1, .inl (cA, 401, .inl u.2.2.2.2.2.2.2.2.2.2.2.2.2.2.2.2.2.1)), (u.2.1, .inr (0, [.ref u.2.2.2.2.2.2.2.2.2.2.2.2.2.2.2.2.2.2.1, .ref u.2.2.2.2.2.2.2.2.2.2.2.2.2.2.2.2.2.2.2.1, .int u.2.2.2.2.2.2.2.2.2.2.2.2.2.2.2.2.2.2.2.2.1, .int u.2.2.2.2.2.2.2.2.2.2.2.2.2.2.2.2.2.2.2.2.2.1, .int u.2.2.2.2.2.2.2.2.2.2.2.2.2.2.2.2.2.2.2.2.2.2.1, .int u.2.2.2.2.2.2.2.2.2.2.2.2.2.2.2.2.2.2.2.2.2.2.2.1, .long u.2.2.2.2.2.2.2.2.2.2.2.2.2.2.2.2.2.2.2.2.2.2.2.2.1, .int u.2.2.2.2.2.2.2.2.2.2.2.2.2.2.2.2.2.2.2.2.2.2.2.2.2.1, .int u.2.2.2.2.2.2.2.2.2.2.2.2.2.2.2.2.2.2.2.2.2.2.2.2.2.2.1, .int u.2.2.2.2.2.2.2.2.2.2.2.2.2.2.2.2.2.2.2.2.2.2.2.2.2.2.2.1, .int u.2.2.2.2.2.2.2.2.2.2.2.2.2.2.2.2.2.2.2.2.2.2.2.2.2.2.2.2.1, .int u.2.2.2.2.2.2.2.2.2.2.2.2.2.2.2.2.2.2.2.2.2.2.2.2.2.2.2.2.2.1])), (u.2.2.2.2.2.2.2.2.2.2.2.2.2.2.2.2.2.2.1, .inl (cA, 401, .inl u.2.2.2.2.2.2.2.2.2.2.2.2.2.2.2.2.2.2.2.2.2.2.2.2.2.2.2.2.2.2.1)), (u.2.2.2.2.2.2.2.2.2.2.2.2.2.2.2.2.2.2.2.1, .inl (cA, 401, .inl u.2.2.2.2.2.2.2.2.2.2.2.2.2.2.2.2.2.2.2.2.2.2.2.2.2.2.2.2.2.2.2))]) (va_A [(t0, .inr (2, [.ref qs, .ref ql, .ref a1, .ref a2, lt])), (qs, .inl (cA, 3, .inl sv)), (a1, .inr (0, [.ref qx1, .ref qy1, .int ht1, .int cx1, .int cy1, .int lf1, .long sq1, .int ln1, .int of1, .int sr1, .int fx1, .int fy1])), (qx1, .inl (cA, 401, .inl mx1)), (qy1, .inl (cA, 401, .inl my1)), (a2, .inr (0, [.ref qx2, .ref qy2, .int ht2, .int cx2, .int cy2, .int lf2, .long sq2, .int ln2, .int of2, .int sr2, .int fx2, .int fy2])), (qx2, .inl (cA, 401, .inl mx2)), (qy2, .inl (cA, 401, .inl my2))] sz)) 0 0 (va_A [(t0, .inr (2, [.ref qs, .ref ql, .ref a1, .ref a2, lt])), (qs, .inl (cA, 3, .inl sv)), (a1, .inr (0, [.ref qx1, .ref qy1, .int ht1, .int cx1, .int cy1, .int lf1, .long sq1, .int ln1, .int of1, .int sr1, .int fx1, .int fy1])), (qx1, .inl (cA, 401, .inl mx1)), (qy1, .inl (cA, 401, .inl my1)), (a2, .inr (0, [.ref qx2, .ref qy2, .int ht2, .int cx2, .int cy2, .int lf2, .long sq2, .int ln2, .int of2, .int sr2, .int fx2, .int fy2])), (qx2, .inl (cA, 401, .inl mx2)), (qy2, .inl (cA, 401, .inl my2))] sz) := by
  refine Met.ofW (cc := cX3_arc) (maxL := 7) (ret := (some .int)) (by decide +kernel) rfl ?_
  intro p e s m args below meth c s₁ B hml hv
  obtain ⟨rfl, hsz, hP, hK, hD0, hZ, hN⟩ := hv
  have hx := B.exec
  have hb := B.bytes
  have hr := B.returns
  have hts := atoms_spec (ws := wsX3_arc) B.pre
  have hown : s.vm.findClass RX3 = some m.cls := findClass_of_methodNamed B.named
  have hlocks := B.notSynchronized
  have hiX3 : ∀ w ∈ u_ws RX3 TX3 5, w ∈ wsX3_arc := by decide +kernel
  have hiX0 : ∀ w ∈ u_ws RX0 TX0 12, w ∈ wsX3_arc := by decide +kernel
  subst hsz
  have hD := hD0.self (sz := s.heap.size)
  generalize hAe : va_A [(t0, .inr (2, [.ref qs, .ref ql, .ref a1, .ref a2, lt])), (qs, .inl (cA, 3, .inl sv)), (a1, .inr (0, [.ref qx1, .ref qy1, .int ht1, .int cx1, .int cy1, .int lf1, .long sq1, .int ln1, .int of1, .int sr1, .int fx1, .int fy1])), (qx1, .inl (cA, 401, .inl mx1)), (qy1, .inl (cA, 401, .inl my1)), (a2, .inr (0, [.ref qx2, .ref qy2, .int ht2, .int cx2, .int cy2, .int lf2, .long sq2, .int ln2, .int of2, .int sr2, .int fx2, .int fy2])), (qx2, .inl (cA, 401, .inl mx2)), (qy2, .inl (cA, 401, .inl my2))] s.heap.size = A at hD hZ ⊢
  have hA : ∀ q : Nat, s.heap.size ≤ q → A q := fun q h => by rw [← hAe]; exact Or.inr h
  have hl := lv_entry ([.ref t0, .int x, .int y, .int cx, .int cy, .int al]) (n := 7) (Nat.le_of_ble_eq_true rfl)
  rw [lg_entry_eq]
  generalize (lg_sl ([.ref t0, .int x, .int y, .int cx, .int cy, .int al]) ++ List.replicate (7 - (lg_sl ([.ref t0, .int x, .int y, .int cx, .int cy, .int al])).length) Slot.unset).toArray = ls at hl ⊢
  have hl : lv_has ls 7 [(0, .ref t0), (1, .int x), (2, .int y), (3, .int cx), (4, .int cy), (5, .int al)] := hl
  generalize hHe : s.heap = H at hP ⊢
  have hS : va_S A s.heap H [] := by rw [hHe]; exact va_S.rf
  generalize ([] : List Loc) = locs at hS ⊢
  refine lv_iload_n hx hb dX3_arc_0 rfl (lv_at hl 1 rfl) ?_
  refine lv_iload_n hx hb dX3_arc_1 rfl (lv_at hl 2 rfl) ?_
  refine lv_aload_n hx hb dX3_arc_2 rfl (lv_at hl 0 rfl) ?_
  refine va_get (D := (dC, dI)) (ci := 2) (v := .ref qs) (C := RX3) (T := TX3) (N := 5) hx hb hts hiX3 hown hK hP 0 rfl rfl 0 (by decide) (hts (.fieldLink RX3 9 "TickWalks" "stand" "[I") (List.mem_of_getElem? (l := wsX3_arc) (i := 1) rfl)) (fun _ h9 => h9) rfl dX3_arc_3 ?_
  refine lv_iconst (v := 2) hx hb dX3_arc_6 (by decide) ?_
  refine va_iald hx hb hK hP 1 0 rfl rfl (show vp_in 2 3 by unfold vp_in; decide) dX3_arc_7 ?_
  refine ct_topi (y := sv 2) (congrArg sv (show Int32.toNatClampNeg 2 = 2 by decide)) ?_
  refine ct_calli (va_runS (As := [.int x, .int y, .int (sv 2)]) (rest := []) ⟨hx, hb, hml, hown, hts⟩ (ct_isPlace l dC dI cA cB H.size x y (sv 2) ) (va_cwS 3 hts gX3_arc_X3_isPlace rfl rfl rfl (by decide +kernel) ⟨Nat.le_of_ble_eq_true rfl, Nat.le_of_ble_eq_true rfl⟩) ⟨ct_blind, ct_pre hP hD hK hZ hN hS hA [] rfl (by decide)⟩ rfl rfl hl.1 rfl (lv_room (Nat.le_of_ble_eq_true rfl)) dX3_arc_8 ⟨Nat.le_of_ble_eq_true rfl, Nat.le_of_ble_eq_true rfl⟩) hP hD hS hA [] [0, 1, 2, 3, 4, 5, 6, 7] rfl (wr := [(t0, .inr (2, [.ref qs, .ref ql, .ref a1, .ref a2, lt])), (qs, .inl (cA, 3, .inl sv)), (a1, .inr (0, [.ref qx1, .ref qy1, .int ht1, .int cx1, .int cy1, .int lf1, .long sq1, .int ln1, .int of1, .int sr1, .int fx1, .int fy1])), (qx1, .inl (cA, 401, .inl mx1)), (qy1, .inl (cA, 401, .inl my1)), (a2, .inr (0, [.ref qx2, .ref qy2, .int ht2, .int cx2, .int cy2, .int lf2, .long sq2, .int ln2, .int of2, .int sr2, .int fx2, .int fy2])), (qx2, .inl (cA, 401, .inl mx2)), (qy2, .inl (cA, 401, .inl my2))]) rfl (by decide) (by decide) (fun r_1 u9 H locs hw_1 hP hD hS => ?_)
  have hw_1 : bo_z r_1 (pl_in x ∧ pl_in y ∧ pl_in (sv 2)) := hw_1
  have hP : va_P (dC, dI) vwCl [(t0, .inr (2, [.ref qs, .ref ql, .ref a1, .ref a2, lt])), (qs, .inl (cA, 3, .inl sv)), (a1, .inr (0, [.ref qx1, .ref qy1, .int ht1, .int cx1, .int cy1, .int lf1, .long sq1, .int ln1, .int of1, .int sr1, .int fx1, .int fy1])), (qx1, .inl (cA, 401, .inl mx1)), (qy1, .inl (cA, 401, .inl my1)), (a2, .inr (0, [.ref qx2, .ref qy2, .int ht2, .int cx2, .int cy2, .int lf2, .long sq2, .int ln2, .int of2, .int sr2, .int fx2, .int fy2])), (qx2, .inl (cA, 401, .inl mx2)), (qy2, .inl (cA, 401, .inl my2))] H := hP
  have hD : va_D A [(t0, .inr (2, [.ref qs, .ref ql, .ref a1, .ref a2, lt])), (qs, .inl (cA, 3, .inl sv)), (a1, .inr (0, [.ref qx1, .ref qy1, .int ht1, .int cx1, .int cy1, .int lf1, .long sq1, .int ln1, .int of1, .int sr1, .int fx1, .int fy1])), (qx1, .inl (cA, 401, .inl mx1)), (qy1, .inl (cA, 401, .inl my1)), (a2, .inr (0, [.ref qx2, .ref qy2, .int ht2, .int cx2, .int cy2, .int lf2, .long sq2, .int ln2, .int of2, .int sr2, .int fx2, .int fy2])), (qx2, .inl (cA, 401, .inl mx2)), (qy2, .inl (cA, 401, .inl my2))] := hD
  refine lv_if_eq (tgt := 33) hx hb dX3_arc_11 (by decide) (fun c_11 => ?_) (fun c_11 => ?_)
  · refine lv_iconst (v := -1) hx hb dX3_arc_33 (by decide) ?_
    have hP9 := hP.sub (ws' := [(t0, .inr (2, [.ref qs, .ref ql, .ref a1, .ref a2, lt])), (qs, .inl (cA, 3, .inl sv)), (a1, .inr (0, [.ref qx1, .ref qy1, .int ht1, .int cx1, .int cy1, .int lf1, .long sq1, .int ln1, .int of1, .int sr1, .int fx1, .int fy1])), (qx1, .inl (cA, 401, .inl mx1)), (qy1, .inl (cA, 401, .inl my1)), (a2, .inr (0, [.ref qx2, .ref qy2, .int ht2, .int cx2, .int cy2, .int lf2, .long sq2, .int ln2, .int of2, .int sr2, .int fx2, .int fy2])), (qx2, .inl (cA, 401, .inl mx2)), (qy2, .inl (cA, 401, .inl my2))]) [0, 1, 2, 3, 4, 5, 6, 7] rfl
    have hD9 := hD.sub (ws' := [(t0, .inr (2, [.ref qs, .ref ql, .ref a1, .ref a2, lt])), (qs, .inl (cA, 3, .inl sv)), (a1, .inr (0, [.ref qx1, .ref qy1, .int ht1, .int cx1, .int cy1, .int lf1, .long sq1, .int ln1, .int of1, .int sr1, .int fx1, .int fy1])), (qx1, .inl (cA, 401, .inl mx1)), (qy1, .inl (cA, 401, .inl my1)), (a2, .inr (0, [.ref qx2, .ref qy2, .int ht2, .int cx2, .int cy2, .int lf2, .long sq2, .int ln2, .int of2, .int sr2, .int fx2, .int fy2])), (qx2, .inl (cA, 401, .inl mx2)), (qy2, .inl (cA, 401, .inl my2))]) [0, 1, 2, 3, 4, 5, 6, 7] (by decide) rfl
    exact W.iret (v := -1) hx hb hr (fun t9 ht9 hW9 => ⟨⟨-1, (a1, a2, lt, sv, qx1, qy1, ht1, cx1, cy1, lf1, sq1, ln1, of1, sr1, fx1, fy1, mx1, my1, qx2, qy2, ht2, cx2, cy2, lf2, sq2, ln2, of2, sr2, fx2, fy2, mx2, my2), rfl, Or.inr ⟨rfl, fun h => hw_1.f c_11 ⟨h.1.1, h.1.2, hsz2⟩, rfl, rfl, rfl, ⟨rfl, rfl, rfl, rfl, rfl, rfl, rfl, rfl, rfl, rfl⟩⟩, by rw [ht9]; exact hP9, hD9⟩, hS.F ht9⟩) hS.2.2 dX3_arc_34
  · refine lv_iload_n hx hb dX3_arc_14 rfl (lv_at hl 3 rfl) ?_
    refine lv_ldc (v := 40000) hx hb hown (hts (.constant RX3 50 (40000)) (List.mem_of_getElem? (l := wsX3_arc) (i := 2) rfl)) dX3_arc_15 ?_
    refine ct_calli (va_runS (As := [.int cx, .int 40000]) (rest := []) ⟨hx, hb, hml, hown, hts⟩ (ct_isWithin l dC dI cA cB H.size cx 40000 ) (va_cwS 2 hts gX3_arc_X3_isWithin rfl rfl rfl (by decide +kernel) ⟨Nat.le_of_ble_eq_true rfl, Nat.le_of_ble_eq_true rfl⟩) ⟨ct_blind, ct_pre hP hD hK hZ hN hS hA [] rfl (by decide)⟩ rfl rfl hl.1 rfl (lv_room (Nat.le_of_ble_eq_true rfl)) dX3_arc_17 ⟨Nat.le_of_ble_eq_true rfl, Nat.le_of_ble_eq_true rfl⟩) hP hD hS hA [] [0, 1, 2, 3, 4, 5, 6, 7] rfl (wr := [(t0, .inr (2, [.ref qs, .ref ql, .ref a1, .ref a2, lt])), (qs, .inl (cA, 3, .inl sv)), (a1, .inr (0, [.ref qx1, .ref qy1, .int ht1, .int cx1, .int cy1, .int lf1, .long sq1, .int ln1, .int of1, .int sr1, .int fx1, .int fy1])), (qx1, .inl (cA, 401, .inl mx1)), (qy1, .inl (cA, 401, .inl my1)), (a2, .inr (0, [.ref qx2, .ref qy2, .int ht2, .int cx2, .int cy2, .int lf2, .long sq2, .int ln2, .int of2, .int sr2, .int fx2, .int fy2])), (qx2, .inl (cA, 401, .inl mx2)), (qy2, .inl (cA, 401, .inl my2))]) rfl (by decide) (by decide) (fun r_2 u9 H locs hw_2 hP hD hS => ?_)
    have hw_2 : bo_z r_2 (-40000 ≤ cx ∧ cx ≤ 40000) := hw_2
    have hP : va_P (dC, dI) vwCl [(t0, .inr (2, [.ref qs, .ref ql, .ref a1, .ref a2, lt])), (qs, .inl (cA, 3, .inl sv)), (a1, .inr (0, [.ref qx1, .ref qy1, .int ht1, .int cx1, .int cy1, .int lf1, .long sq1, .int ln1, .int of1, .int sr1, .int fx1, .int fy1])), (qx1, .inl (cA, 401, .inl mx1)), (qy1, .inl (cA, 401, .inl my1)), (a2, .inr (0, [.ref qx2, .ref qy2, .int ht2, .int cx2, .int cy2, .int lf2, .long sq2, .int ln2, .int of2, .int sr2, .int fx2, .int fy2])), (qx2, .inl (cA, 401, .inl mx2)), (qy2, .inl (cA, 401, .inl my2))] H := hP
    have hD : va_D A [(t0, .inr (2, [.ref qs, .ref ql, .ref a1, .ref a2, lt])), (qs, .inl (cA, 3, .inl sv)), (a1, .inr (0, [.ref qx1, .ref qy1, .int ht1, .int cx1, .int cy1, .int lf1, .long sq1, .int ln1, .int of1, .int sr1, .int fx1, .int fy1])), (qx1, .inl (cA, 401, .inl mx1)), (qy1, .inl (cA, 401, .inl my1)), (a2, .inr (0, [.ref qx2, .ref qy2, .int ht2, .int cx2, .int cy2, .int lf2, .long sq2, .int ln2, .int of2, .int sr2, .int fx2, .int fy2])), (qx2, .inl (cA, 401, .inl mx2)), (qy2, .inl (cA, 401, .inl my2))] := hD
    refine lv_if_eq (tgt := 33) hx hb dX3_arc_20 (by decide) (fun c_20 => ?_) (fun c_20 => ?_)
    · refine lv_iconst (v := -1) hx hb dX3_arc_33 (by decide) ?_
      have hP9 := hP.sub (ws' := [(t0, .inr (2, [.ref qs, .ref ql, .ref a1, .ref a2, lt])), (qs, .inl (cA, 3, .inl sv)), (a1, .inr (0, [.ref qx1, .ref qy1, .int ht1, .int cx1, .int cy1, .int lf1, .long sq1, .int ln1, .int of1, .int sr1, .int fx1, .int fy1])), (qx1, .inl (cA, 401, .inl mx1)), (qy1, .inl (cA, 401, .inl my1)), (a2, .inr (0, [.ref qx2, .ref qy2, .int ht2, .int cx2, .int cy2, .int lf2, .long sq2, .int ln2, .int of2, .int sr2, .int fx2, .int fy2])), (qx2, .inl (cA, 401, .inl mx2)), (qy2, .inl (cA, 401, .inl my2))]) [0, 1, 2, 3, 4, 5, 6, 7] rfl
      have hD9 := hD.sub (ws' := [(t0, .inr (2, [.ref qs, .ref ql, .ref a1, .ref a2, lt])), (qs, .inl (cA, 3, .inl sv)), (a1, .inr (0, [.ref qx1, .ref qy1, .int ht1, .int cx1, .int cy1, .int lf1, .long sq1, .int ln1, .int of1, .int sr1, .int fx1, .int fy1])), (qx1, .inl (cA, 401, .inl mx1)), (qy1, .inl (cA, 401, .inl my1)), (a2, .inr (0, [.ref qx2, .ref qy2, .int ht2, .int cx2, .int cy2, .int lf2, .long sq2, .int ln2, .int of2, .int sr2, .int fx2, .int fy2])), (qx2, .inl (cA, 401, .inl mx2)), (qy2, .inl (cA, 401, .inl my2))]) [0, 1, 2, 3, 4, 5, 6, 7] (by decide) rfl
      exact W.iret (v := -1) hx hb hr (fun t9 ht9 hW9 => ⟨⟨-1, (a1, a2, lt, sv, qx1, qy1, ht1, cx1, cy1, lf1, sq1, ln1, of1, sr1, fx1, fy1, mx1, my1, qx2, qy2, ht2, cx2, cy2, lf2, sq2, ln2, of2, sr2, fx2, fy2, mx2, my2), rfl, Or.inr ⟨rfl, fun h => hw_2.f c_20 h.2.1.1, rfl, rfl, rfl, ⟨rfl, rfl, rfl, rfl, rfl, rfl, rfl, rfl, rfl, rfl⟩⟩, by rw [ht9]; exact hP9, hD9⟩, hS.F ht9⟩) hS.2.2 dX3_arc_34
    · refine lv_iload hx hb dX3_arc_23 (lv_at hl 4 rfl) ?_
      refine lv_ldc (v := 40000) hx hb hown (hts (.constant RX3 50 (40000)) (List.mem_of_getElem? (l := wsX3_arc) (i := 2) rfl)) dX3_arc_25 ?_
      refine ct_calli (va_runS (As := [.int cy, .int 40000]) (rest := []) ⟨hx, hb, hml, hown, hts⟩ (ct_isWithin l dC dI cA cB H.size cy 40000 ) (va_cwS 2 hts gX3_arc_X3_isWithin rfl rfl rfl (by decide +kernel) ⟨Nat.le_of_ble_eq_true rfl, Nat.le_of_ble_eq_true rfl⟩) ⟨ct_blind, ct_pre hP hD hK hZ hN hS hA [] rfl (by decide)⟩ rfl rfl hl.1 rfl (lv_room (Nat.le_of_ble_eq_true rfl)) dX3_arc_27 ⟨Nat.le_of_ble_eq_true rfl, Nat.le_of_ble_eq_true rfl⟩) hP hD hS hA [] [0, 1, 2, 3, 4, 5, 6, 7] rfl (wr := [(t0, .inr (2, [.ref qs, .ref ql, .ref a1, .ref a2, lt])), (qs, .inl (cA, 3, .inl sv)), (a1, .inr (0, [.ref qx1, .ref qy1, .int ht1, .int cx1, .int cy1, .int lf1, .long sq1, .int ln1, .int of1, .int sr1, .int fx1, .int fy1])), (qx1, .inl (cA, 401, .inl mx1)), (qy1, .inl (cA, 401, .inl my1)), (a2, .inr (0, [.ref qx2, .ref qy2, .int ht2, .int cx2, .int cy2, .int lf2, .long sq2, .int ln2, .int of2, .int sr2, .int fx2, .int fy2])), (qx2, .inl (cA, 401, .inl mx2)), (qy2, .inl (cA, 401, .inl my2))]) rfl (by decide) (by decide) (fun r_3 u9 H locs hw_3 hP hD hS => ?_)
      have hw_3 : bo_z r_3 (-40000 ≤ cy ∧ cy ≤ 40000) := hw_3
      have hP : va_P (dC, dI) vwCl [(t0, .inr (2, [.ref qs, .ref ql, .ref a1, .ref a2, lt])), (qs, .inl (cA, 3, .inl sv)), (a1, .inr (0, [.ref qx1, .ref qy1, .int ht1, .int cx1, .int cy1, .int lf1, .long sq1, .int ln1, .int of1, .int sr1, .int fx1, .int fy1])), (qx1, .inl (cA, 401, .inl mx1)), (qy1, .inl (cA, 401, .inl my1)), (a2, .inr (0, [.ref qx2, .ref qy2, .int ht2, .int cx2, .int cy2, .int lf2, .long sq2, .int ln2, .int of2, .int sr2, .int fx2, .int fy2])), (qx2, .inl (cA, 401, .inl mx2)), (qy2, .inl (cA, 401, .inl my2))] H := hP
      have hD : va_D A [(t0, .inr (2, [.ref qs, .ref ql, .ref a1, .ref a2, lt])), (qs, .inl (cA, 3, .inl sv)), (a1, .inr (0, [.ref qx1, .ref qy1, .int ht1, .int cx1, .int cy1, .int lf1, .long sq1, .int ln1, .int of1, .int sr1, .int fx1, .int fy1])), (qx1, .inl (cA, 401, .inl mx1)), (qy1, .inl (cA, 401, .inl my1)), (a2, .inr (0, [.ref qx2, .ref qy2, .int ht2, .int cx2, .int cy2, .int lf2, .long sq2, .int ln2, .int of2, .int sr2, .int fx2, .int fy2])), (qx2, .inl (cA, 401, .inl mx2)), (qy2, .inl (cA, 401, .inl my2))] := hD
      refine lv_if_ne (tgt := 35) hx hb dX3_arc_30 (by decide) (fun c_30 => ?_) (fun c_30 => ?_)
      · refine lv_aload_n hx hb dX3_arc_35 rfl (lv_at hl 0 rfl) ?_
        refine va_get (D := (dC, dI)) (ci := 2) (v := .ref a2) (C := RX3) (T := TX3) (N := 5) hx hb hts hiX3 hown hK hP 0 rfl rfl 3 (by decide) (hts (.fieldLink RX3 27 "TickWalks" "triedArc" "LTickWalks$Arc;") (List.mem_of_getElem? (l := wsX3_arc) (i := 3) rfl)) (fun _ h9 => h9) rfl dX3_arc_36 ?_
        refine lv_aload_n hx hb dX3_arc_39 rfl (lv_at hl 0 rfl) ?_
        refine va_get (D := (dC, dI)) (ci := 2) (v := .ref qs) (C := RX3) (T := TX3) (N := 5) hx hb hts hiX3 hown hK hP 0 rfl rfl 0 (by decide) (hts (.fieldLink RX3 9 "TickWalks" "stand" "[I") (List.mem_of_getElem? (l := wsX3_arc) (i := 1) rfl)) (fun _ h9 => h9) rfl dX3_arc_40 ?_
        refine lv_iload_n hx hb dX3_arc_43 rfl (lv_at hl 3 rfl) ?_
        refine lv_iload hx hb dX3_arc_44 (lv_at hl 4 rfl) ?_
        refine lv_iload hx hb dX3_arc_46 (lv_at hl 5 rfl) ?_
        refine ct_callv (va_runV (As := [.ref qs, .int cx, .int cy, .int al]) (rest := []) ⟨hx, hb, hml, hown, hts⟩ (ar_begin l dC dI cA cB H.size a2 qx2 qy2 ht2 cx2 cy2 lf2 sq2 ln2 of2 sr2 fx2 fy2 mx2 my2 qs sv cx cy al hal) (cwV 4 hts gX3_arc_X0_begin rfl rfl rfl (by decide +kernel) ⟨Nat.le_of_ble_eq_true rfl, Nat.le_of_ble_eq_true rfl⟩) ⟨ct_blind, va_recv hK hP (ci := 0) (q0 := 5) rfl rfl, ct_pre hP hD hK hZ hN hS hA [5, 6, 7, 1] rfl (by decide)⟩ rfl rfl hl.1 rfl (lv_room (Nat.le_of_ble_eq_true rfl)) dX3_arc_48 ⟨Nat.le_of_ble_eq_true rfl, Nat.le_of_ble_eq_true rfl⟩) hP hD hS hA [5, 6, 7, 1] [0, 2, 3, 4] rfl (wr := [(t0, .inr (2, [.ref qs, .ref ql, .ref a1, .ref a2, lt])), (a1, .inr (0, [.ref qx1, .ref qy1, .int ht1, .int cx1, .int cy1, .int lf1, .long sq1, .int ln1, .int of1, .int sr1, .int fx1, .int fy1])), (qx1, .inl (cA, 401, .inl mx1)), (qy1, .inl (cA, 401, .inl my1))]) rfl (by decide) (by decide) (fun u9 H locs hw_4 hP hD hS => ?_)
        obtain ⟨nx_4, ny_4, nq_4⟩ := u9
        have hw_4 : nx_4 = upd mx2 0 (sv 0) ∧ ny_4 = upd my2 0 (sv 1) ∧ nq_4 = sq_c (sv 0) cx (sv 1) cy := hw_4
        have hP : va_P (dC, dI) vwCl [(t0, .inr (2, [.ref qs, .ref ql, .ref a1, .ref a2, lt])), (a1, .inr (0, [.ref qx1, .ref qy1, .int ht1, .int cx1, .int cy1, .int lf1, .long sq1, .int ln1, .int of1, .int sr1, .int fx1, .int fy1])), (qx1, .inl (cA, 401, .inl mx1)), (qy1, .inl (cA, 401, .inl my1)), (a2, .inr (0, [.ref qx2, .ref qy2, .int (sv 2), .int cx, .int cy, .int al, .long nq_4, .int 0, .int 0, .int 0, .int (sv 0), .int (sv 1)])), (qx2, .inl (cA, 401, .inl nx_4)), (qy2, .inl (cA, 401, .inl ny_4)), (qs, .inl (cA, 3, .inl sv))] H := hP
        have hD : va_D A [(t0, .inr (2, [.ref qs, .ref ql, .ref a1, .ref a2, lt])), (a1, .inr (0, [.ref qx1, .ref qy1, .int ht1, .int cx1, .int cy1, .int lf1, .long sq1, .int ln1, .int of1, .int sr1, .int fx1, .int fy1])), (qx1, .inl (cA, 401, .inl mx1)), (qy1, .inl (cA, 401, .inl my1)), (a2, .inr (0, [.ref qx2, .ref qy2, .int (sv 2), .int cx, .int cy, .int al, .long nq_4, .int 0, .int 0, .int 0, .int (sv 0), .int (sv 1)])), (qx2, .inl (cA, 401, .inl nx_4)), (qy2, .inl (cA, 401, .inl ny_4)), (qs, .inl (cA, 3, .inl sv))] := hD
        refine lv_aload_n hx hb dX3_arc_51 rfl (lv_at hl 0 rfl) ?_
        refine va_get (D := (dC, dI)) (ci := 2) (v := .ref a2) (C := RX3) (T := TX3) (N := 5) hx hb hts hiX3 hown hK hP 0 rfl rfl 3 (by decide) (hts (.fieldLink RX3 27 "TickWalks" "triedArc" "LTickWalks$Arc;") (List.mem_of_getElem? (l := wsX3_arc) (i := 3) rfl)) (fun _ h9 => h9) rfl dX3_arc_52 ?_
        refine lv_iload_n hx hb dX3_arc_55 rfl (lv_at hl 1 rfl) ?_
        refine lv_iload_n hx hb dX3_arc_56 rfl (lv_at hl 2 rfl) ?_
        refine ct_calli (va_runV (As := [.int x, .int y]) (rest := []) ⟨hx, hb, hml, hown, hts⟩ (ar_walk l dC dI cA cB H.size a2 qx2 qy2 (sv 2) cx cy al nq_4 0 0 0 (sv 0) (sv 1) nx_4 ny_4 x y (⟨by rw [hw_4.1]; exact pk_us, by rw [hw_4.2.1]; exact pk_us⟩) rfl rfl) (cwV 2 hts gX3_arc_X0_walk rfl rfl rfl (by decide +kernel) ⟨Nat.le_of_ble_eq_true rfl, Nat.le_of_ble_eq_true rfl⟩) ⟨ct_blind, va_recv hK hP (ci := 0) (q0 := 4) rfl rfl, ct_pre hP hD hK hZ hN hS hA [4, 5, 6] rfl (by decide)⟩ rfl rfl hl.1 rfl (lv_room (Nat.le_of_ble_eq_true rfl)) dX3_arc_57 ⟨Nat.le_of_ble_eq_true rfl, Nat.le_of_ble_eq_true rfl⟩) hP hD hS hA [4, 5, 6] [0, 1, 2, 3, 7] rfl (wr := [(t0, .inr (2, [.ref qs, .ref ql, .ref a1, .ref a2, lt])), (a1, .inr (0, [.ref qx1, .ref qy1, .int ht1, .int cx1, .int cy1, .int lf1, .long sq1, .int ln1, .int of1, .int sr1, .int fx1, .int fy1])), (qx1, .inl (cA, 401, .inl mx1)), (qy1, .inl (cA, 401, .inl my1)), (qs, .inl (cA, 3, .inl sv))]) rfl (by decide) (by decide) (fun r_5 u9 H locs hw_5 hP hD hS => ?_)
        obtain ⟨nx_5, ny_5, nl_5, no_5, ns_5, gx_5, gy_5⟩ := u9
        have hw_5 : wk_P al nq_4 cx cy ((sv 0), (sv 1)) (x, y) r_5 nx_5 ny_5 nl_5 no_5 ns_5 := hw_5
        have hP : va_P (dC, dI) vwCl [(t0, .inr (2, [.ref qs, .ref ql, .ref a1, .ref a2, lt])), (a1, .inr (0, [.ref qx1, .ref qy1, .int ht1, .int cx1, .int cy1, .int lf1, .long sq1, .int ln1, .int of1, .int sr1, .int fx1, .int fy1])), (qx1, .inl (cA, 401, .inl mx1)), (qy1, .inl (cA, 401, .inl my1)), (qs, .inl (cA, 3, .inl sv)), (a2, .inr (0, [.ref qx2, .ref qy2, .int (sv 2), .int cx, .int cy, .int al, .long nq_4, .int nl_5, .int no_5, .int ns_5, .int gx_5, .int gy_5])), (qx2, .inl (cA, 401, .inl nx_5)), (qy2, .inl (cA, 401, .inl ny_5))] H := hP
        have hD : va_D A [(t0, .inr (2, [.ref qs, .ref ql, .ref a1, .ref a2, lt])), (a1, .inr (0, [.ref qx1, .ref qy1, .int ht1, .int cx1, .int cy1, .int lf1, .long sq1, .int ln1, .int of1, .int sr1, .int fx1, .int fy1])), (qx1, .inl (cA, 401, .inl mx1)), (qy1, .inl (cA, 401, .inl my1)), (qs, .inl (cA, 3, .inl sv)), (a2, .inr (0, [.ref qx2, .ref qy2, .int (sv 2), .int cx, .int cy, .int al, .long nq_4, .int nl_5, .int no_5, .int ns_5, .int gx_5, .int gy_5])), (qx2, .inl (cA, 401, .inl nx_5)), (qy2, .inl (cA, 401, .inl ny_5))] := hD
        refine lv_if_ne (tgt := 65) hx hb dX3_arc_60 (by decide) (fun c_60 => ?_) (fun c_60 => ?_)
        · obtain ⟨-, hsq, n, hH, hnl, hno, hns, hMM⟩ := hw_5.resolve_right (fun g => c_60 g.1)
          refine lv_aload_n hx hb dX3_arc_65 rfl (lv_at hl 0 rfl) ?_
          refine va_get (D := (dC, dI)) (ci := 2) (v := .ref a2) (C := RX3) (T := TX3) (N := 5) hx hb hts hiX3 hown hK hP 0 rfl rfl 3 (by decide) (hts (.fieldLink RX3 27 "TickWalks" "triedArc" "LTickWalks$Arc;") (List.mem_of_getElem? (l := wsX3_arc) (i := 3) rfl)) (fun _ h9 => h9) rfl dX3_arc_66 ?_
          refine lv_astore (lv' := [(6, .ref a2), (0, .ref t0), (1, .int x), (2, .int y), (3, .int cx), (4, .int cy), (5, .int al)]) hx hb dX3_arc_69 hl (by decide) rfl (fun ls hl => ?_)
          refine lv_aload_n hx hb dX3_arc_71 rfl (lv_at hl 1 rfl) ?_
          refine lv_aload_n hx hb dX3_arc_72 rfl (lv_at hl 1 rfl) ?_
          refine va_get (D := (dC, dI)) (ci := 2) (v := .ref a1) (C := RX3) (T := TX3) (N := 5) hx hb hts hiX3 hown hK hP 0 rfl rfl 2 (by decide) (hts (.fieldLink RX3 23 "TickWalks" "latestArc" "LTickWalks$Arc;") (List.mem_of_getElem? (l := wsX3_arc) (i := 4) rfl)) (fun _ h9 => h9) rfl dX3_arc_73 ?_
          refine va_put (D := (dC, dI)) (ci := 2) (v := .ref a1) (ty := (.object "TickWalks$Arc")) (C := RX3) (T := TX3) (N := 5) hx hb hts hiX3 tyX3 tyX3_ok nmX3 hown hK hP hD hS 0 rfl rfl 3 (by decide) (hts (.fieldLink RX3 27 "TickWalks" "triedArc" "LTickWalks$Arc;") (List.mem_of_getElem? (l := wsX3_arc) (i := 3) rfl)) (fun _ h9 => h9) rfl (by decide +kernel) rfl rfl (Nat.le_of_ble_eq_true rfl) dX3_arc_76 (fun H locs hP hD hS => ?_)
          have hP : va_P (dC, dI) vwCl [(t0, .inr (2, [.ref qs, .ref ql, .ref a1, .ref a1, lt])), (a1, .inr (0, [.ref qx1, .ref qy1, .int ht1, .int cx1, .int cy1, .int lf1, .long sq1, .int ln1, .int of1, .int sr1, .int fx1, .int fy1])), (qx1, .inl (cA, 401, .inl mx1)), (qy1, .inl (cA, 401, .inl my1)), (qs, .inl (cA, 3, .inl sv)), (a2, .inr (0, [.ref qx2, .ref qy2, .int (sv 2), .int cx, .int cy, .int al, .long nq_4, .int nl_5, .int no_5, .int ns_5, .int gx_5, .int gy_5])), (qx2, .inl (cA, 401, .inl nx_5)), (qy2, .inl (cA, 401, .inl ny_5))] H := hP
          have hD : va_D A [(t0, .inr (2, [.ref qs, .ref ql, .ref a1, .ref a1, lt])), (a1, .inr (0, [.ref qx1, .ref qy1, .int ht1, .int cx1, .int cy1, .int lf1, .long sq1, .int ln1, .int of1, .int sr1, .int fx1, .int fy1])), (qx1, .inl (cA, 401, .inl mx1)), (qy1, .inl (cA, 401, .inl my1)), (qs, .inl (cA, 3, .inl sv)), (a2, .inr (0, [.ref qx2, .ref qy2, .int (sv 2), .int cx, .int cy, .int al, .long nq_4, .int nl_5, .int no_5, .int ns_5, .int gx_5, .int gy_5])), (qx2, .inl (cA, 401, .inl nx_5)), (qy2, .inl (cA, 401, .inl ny_5))] := hD
          refine lv_aload_n hx hb dX3_arc_79 rfl (lv_at hl 1 rfl) ?_
          refine lv_aload hx hb dX3_arc_80 (lv_at hl 0 rfl) ?_
          refine va_put (D := (dC, dI)) (ci := 2) (v := .ref a2) (ty := (.object "TickWalks$Arc")) (C := RX3) (T := TX3) (N := 5) hx hb hts hiX3 tyX3 tyX3_ok nmX3 hown hK hP hD hS 0 rfl rfl 2 (by decide) (hts (.fieldLink RX3 23 "TickWalks" "latestArc" "LTickWalks$Arc;") (List.mem_of_getElem? (l := wsX3_arc) (i := 4) rfl)) (fun _ h9 => h9) rfl (by decide +kernel) rfl rfl (Nat.le_of_ble_eq_true rfl) dX3_arc_82 (fun H locs hP hD hS => ?_)
          have hP : va_P (dC, dI) vwCl [(t0, .inr (2, [.ref qs, .ref ql, .ref a2, .ref a1, lt])), (a1, .inr (0, [.ref qx1, .ref qy1, .int ht1, .int cx1, .int cy1, .int lf1, .long sq1, .int ln1, .int of1, .int sr1, .int fx1, .int fy1])), (qx1, .inl (cA, 401, .inl mx1)), (qy1, .inl (cA, 401, .inl my1)), (qs, .inl (cA, 3, .inl sv)), (a2, .inr (0, [.ref qx2, .ref qy2, .int (sv 2), .int cx, .int cy, .int al, .long nq_4, .int nl_5, .int no_5, .int ns_5, .int gx_5, .int gy_5])), (qx2, .inl (cA, 401, .inl nx_5)), (qy2, .inl (cA, 401, .inl ny_5))] H := hP
          have hD : va_D A [(t0, .inr (2, [.ref qs, .ref ql, .ref a2, .ref a1, lt])), (a1, .inr (0, [.ref qx1, .ref qy1, .int ht1, .int cx1, .int cy1, .int lf1, .long sq1, .int ln1, .int of1, .int sr1, .int fx1, .int fy1])), (qx1, .inl (cA, 401, .inl mx1)), (qy1, .inl (cA, 401, .inl my1)), (qs, .inl (cA, 3, .inl sv)), (a2, .inr (0, [.ref qx2, .ref qy2, .int (sv 2), .int cx, .int cy, .int al, .long nq_4, .int nl_5, .int no_5, .int ns_5, .int gx_5, .int gy_5])), (qx2, .inl (cA, 401, .inl nx_5)), (qy2, .inl (cA, 401, .inl ny_5))] := hD
          refine lv_aload_n hx hb dX3_arc_85 rfl (lv_at hl 1 rfl) ?_
          refine lv_aload hx hb dX3_arc_86 (lv_at hl 0 rfl) ?_
          refine va_put (D := (dC, dI)) (ci := 2) (v := .ref a2) (ty := (.object "TickWalks$Walk")) (C := RX3) (T := TX3) (N := 5) hx hb hts hiX3 tyX3 tyX3_ok nmX3 hown hK hP hD hS 0 rfl rfl 4 (by decide) (hts (.fieldLink RX3 30 "TickWalks" "latest" "LTickWalks$Walk;") (List.mem_of_getElem? (l := wsX3_arc) (i := 5) rfl)) (fun _ h9 => h9) rfl (by decide +kernel) rfl rfl (Nat.le_of_ble_eq_true rfl) dX3_arc_88 (fun H locs hP hD hS => ?_)
          have hP : va_P (dC, dI) vwCl [(t0, .inr (2, [.ref qs, .ref ql, .ref a2, .ref a1, .ref a2])), (a1, .inr (0, [.ref qx1, .ref qy1, .int ht1, .int cx1, .int cy1, .int lf1, .long sq1, .int ln1, .int of1, .int sr1, .int fx1, .int fy1])), (qx1, .inl (cA, 401, .inl mx1)), (qy1, .inl (cA, 401, .inl my1)), (qs, .inl (cA, 3, .inl sv)), (a2, .inr (0, [.ref qx2, .ref qy2, .int (sv 2), .int cx, .int cy, .int al, .long nq_4, .int nl_5, .int no_5, .int ns_5, .int gx_5, .int gy_5])), (qx2, .inl (cA, 401, .inl nx_5)), (qy2, .inl (cA, 401, .inl ny_5))] H := hP
          have hD : va_D A [(t0, .inr (2, [.ref qs, .ref ql, .ref a2, .ref a1, .ref a2])), (a1, .inr (0, [.ref qx1, .ref qy1, .int ht1, .int cx1, .int cy1, .int lf1, .long sq1, .int ln1, .int of1, .int sr1, .int fx1, .int fy1])), (qx1, .inl (cA, 401, .inl mx1)), (qy1, .inl (cA, 401, .inl my1)), (qs, .inl (cA, 3, .inl sv)), (a2, .inr (0, [.ref qx2, .ref qy2, .int (sv 2), .int cx, .int cy, .int al, .long nq_4, .int nl_5, .int no_5, .int ns_5, .int gx_5, .int gy_5])), (qx2, .inl (cA, 401, .inl nx_5)), (qy2, .inl (cA, 401, .inl ny_5))] := hD
          refine lv_aload_n hx hb dX3_arc_91 rfl (lv_at hl 1 rfl) ?_
          refine lv_iload_n hx hb dX3_arc_92 rfl (lv_at hl 2 rfl) ?_
          refine lv_iload_n hx hb dX3_arc_93 rfl (lv_at hl 3 rfl) ?_
          refine lv_aload_n hx hb dX3_arc_94 rfl (lv_at hl 1 rfl) ?_
          refine va_get (D := (dC, dI)) (ci := 2) (v := .ref qs) (C := RX3) (T := TX3) (N := 5) hx hb hts hiX3 hown hK hP 0 rfl rfl 0 (by decide) (hts (.fieldLink RX3 9 "TickWalks" "stand" "[I") (List.mem_of_getElem? (l := wsX3_arc) (i := 1) rfl)) (fun _ h9 => h9) rfl dX3_arc_95 ?_
          refine lv_iconst (v := 2) hx hb dX3_arc_98 (by decide) ?_
          refine va_iald hx hb hK hP 4 0 rfl rfl (show vp_in 2 3 by unfold vp_in; decide) dX3_arc_99 ?_
          refine ct_topi (y := sv 2) (congrArg sv (show Int32.toNatClampNeg 2 = 2 by decide)) ?_
          refine ct_callv (va_runV (As := [.int x, .int y, .int (sv 2)]) (rest := []) ⟨hx, hb, hml, hown, hts⟩ (tw_stand l dC dI cA cB H.size t0 qs ql a2 a1 (.ref a2) sv x y (sv 2) ) (cwV 3 hts gX3_arc_X3_standAt rfl rfl rfl (by decide +kernel) ⟨Nat.le_of_ble_eq_true rfl, Nat.le_of_ble_eq_true rfl⟩) ⟨ct_blind, va_recv hK hP (ci := 2) (q0 := 0) rfl rfl, ct_pre hP hD hK hZ hN hS hA [0, 4] rfl (by decide)⟩ rfl rfl hl.1 rfl (lv_room (Nat.le_of_ble_eq_true rfl)) dX3_arc_100 ⟨Nat.le_of_ble_eq_true rfl, Nat.le_of_ble_eq_true rfl⟩) hP hD hS hA [0, 4] [1, 2, 3, 5, 6, 7] rfl (wr := [(a1, .inr (0, [.ref qx1, .ref qy1, .int ht1, .int cx1, .int cy1, .int lf1, .long sq1, .int ln1, .int of1, .int sr1, .int fx1, .int fy1])), (qx1, .inl (cA, 401, .inl mx1)), (qy1, .inl (cA, 401, .inl my1)), (a2, .inr (0, [.ref qx2, .ref qy2, .int (sv 2), .int cx, .int cy, .int al, .long nq_4, .int nl_5, .int no_5, .int ns_5, .int gx_5, .int gy_5])), (qx2, .inl (cA, 401, .inl nx_5)), (qy2, .inl (cA, 401, .inl ny_5))]) rfl (by decide) (by decide) (fun nv_6 H locs hw_6 hP hD hS => ?_)
          have hw_6 : nv_6 0 = x ∧ nv_6 1 = y ∧ nv_6 2 = (sv 2) := hw_6
          have hP : va_P (dC, dI) vwCl [(a1, .inr (0, [.ref qx1, .ref qy1, .int ht1, .int cx1, .int cy1, .int lf1, .long sq1, .int ln1, .int of1, .int sr1, .int fx1, .int fy1])), (qx1, .inl (cA, 401, .inl mx1)), (qy1, .inl (cA, 401, .inl my1)), (a2, .inr (0, [.ref qx2, .ref qy2, .int (sv 2), .int cx, .int cy, .int al, .long nq_4, .int nl_5, .int no_5, .int ns_5, .int gx_5, .int gy_5])), (qx2, .inl (cA, 401, .inl nx_5)), (qy2, .inl (cA, 401, .inl ny_5)), (t0, .inr (2, [.ref qs, .ref ql, .ref a2, .ref a1, (.ref a2)])), (qs, .inl (cA, 3, .inl nv_6))] H := hP
          have hD : va_D A [(a1, .inr (0, [.ref qx1, .ref qy1, .int ht1, .int cx1, .int cy1, .int lf1, .long sq1, .int ln1, .int of1, .int sr1, .int fx1, .int fy1])), (qx1, .inl (cA, 401, .inl mx1)), (qy1, .inl (cA, 401, .inl my1)), (a2, .inr (0, [.ref qx2, .ref qy2, .int (sv 2), .int cx, .int cy, .int al, .long nq_4, .int nl_5, .int no_5, .int ns_5, .int gx_5, .int gy_5])), (qx2, .inl (cA, 401, .inl nx_5)), (qy2, .inl (cA, 401, .inl ny_5)), (t0, .inr (2, [.ref qs, .ref ql, .ref a2, .ref a1, (.ref a2)])), (qs, .inl (cA, 3, .inl nv_6))] := hD
          refine lv_aload hx hb dX3_arc_103 (lv_at hl 0 rfl) ?_
          refine ct_calli (va_runV (As := []) (rest := []) ⟨hx, hb, hml, hown, hts⟩ (ar_length l dC dI cA cB H.size a2 qx2 qy2 (sv 2) cx cy al nq_4 nl_5 no_5 ns_5 gx_5 gy_5 ) (cwV 0 hts gX3_arc_X0_length rfl rfl rfl (by decide +kernel) ⟨Nat.le_of_ble_eq_true rfl, Nat.le_of_ble_eq_true rfl⟩) ⟨ct_blind, va_recv hK hP (ci := 0) (q0 := 3) rfl rfl, ct_pre hP hD hK hZ hN hS hA [3] rfl (by decide)⟩ rfl rfl hl.1 rfl (lv_room (Nat.le_of_ble_eq_true rfl)) dX3_arc_105 ⟨Nat.le_of_ble_eq_true rfl, Nat.le_of_ble_eq_true rfl⟩) hP hD hS hA [3] [0, 1, 2, 4, 5, 6, 7] rfl (wr := [(a1, .inr (0, [.ref qx1, .ref qy1, .int ht1, .int cx1, .int cy1, .int lf1, .long sq1, .int ln1, .int of1, .int sr1, .int fx1, .int fy1])), (qx1, .inl (cA, 401, .inl mx1)), (qy1, .inl (cA, 401, .inl my1)), (qx2, .inl (cA, 401, .inl nx_5)), (qy2, .inl (cA, 401, .inl ny_5)), (t0, .inr (2, [.ref qs, .ref ql, .ref a2, .ref a1, (.ref a2)])), (qs, .inl (cA, 3, .inl nv_6))]) rfl (by decide) (by decide) (fun r_7 u9 H locs hw_7 hP hD hS => ?_)
          have hw_7 : r_7 = nl_5 := hw_7
          have hP : va_P (dC, dI) vwCl [(a1, .inr (0, [.ref qx1, .ref qy1, .int ht1, .int cx1, .int cy1, .int lf1, .long sq1, .int ln1, .int of1, .int sr1, .int fx1, .int fy1])), (qx1, .inl (cA, 401, .inl mx1)), (qy1, .inl (cA, 401, .inl my1)), (qx2, .inl (cA, 401, .inl nx_5)), (qy2, .inl (cA, 401, .inl ny_5)), (t0, .inr (2, [.ref qs, .ref ql, .ref a2, .ref a1, (.ref a2)])), (qs, .inl (cA, 3, .inl nv_6)), (a2, .inr (0, [.ref qx2, .ref qy2, .int (sv 2), .int cx, .int cy, .int al, .long nq_4, .int nl_5, .int no_5, .int ns_5, .int gx_5, .int gy_5]))] H := hP
          have hD : va_D A [(a1, .inr (0, [.ref qx1, .ref qy1, .int ht1, .int cx1, .int cy1, .int lf1, .long sq1, .int ln1, .int of1, .int sr1, .int fx1, .int fy1])), (qx1, .inl (cA, 401, .inl mx1)), (qy1, .inl (cA, 401, .inl my1)), (qx2, .inl (cA, 401, .inl nx_5)), (qy2, .inl (cA, 401, .inl ny_5)), (t0, .inr (2, [.ref qs, .ref ql, .ref a2, .ref a1, (.ref a2)])), (qs, .inl (cA, 3, .inl nv_6)), (a2, .inr (0, [.ref qx2, .ref qy2, .int (sv 2), .int cx, .int cy, .int al, .long nq_4, .int nl_5, .int no_5, .int ns_5, .int gx_5, .int gy_5]))] := hD
          have hP9 := hP.sub (ws' := [(t0, .inr (2, [.ref qs, .ref ql, .ref a2, .ref a1, (.ref a2)])), (qs, .inl (cA, 3, .inl nv_6)), (a2, .inr (0, [.ref qx2, .ref qy2, .int (sv 2), .int cx, .int cy, .int al, .long nq_4, .int nl_5, .int no_5, .int ns_5, .int gx_5, .int gy_5])), (qx2, .inl (cA, 401, .inl nx_5)), (qy2, .inl (cA, 401, .inl ny_5)), (a1, .inr (0, [.ref qx1, .ref qy1, .int ht1, .int cx1, .int cy1, .int lf1, .long sq1, .int ln1, .int of1, .int sr1, .int fx1, .int fy1])), (qx1, .inl (cA, 401, .inl mx1)), (qy1, .inl (cA, 401, .inl my1))]) [5, 6, 7, 3, 4, 0, 1, 2] rfl
          have hD9 := hD.sub (ws' := [(t0, .inr (2, [.ref qs, .ref ql, .ref a2, .ref a1, (.ref a2)])), (qs, .inl (cA, 3, .inl nv_6)), (a2, .inr (0, [.ref qx2, .ref qy2, .int (sv 2), .int cx, .int cy, .int al, .long nq_4, .int nl_5, .int no_5, .int ns_5, .int gx_5, .int gy_5])), (qx2, .inl (cA, 401, .inl nx_5)), (qy2, .inl (cA, 401, .inl ny_5)), (a1, .inr (0, [.ref qx1, .ref qy1, .int ht1, .int cx1, .int cy1, .int lf1, .long sq1, .int ln1, .int of1, .int sr1, .int fx1, .int fy1])), (qx1, .inl (cA, 401, .inl mx1)), (qy1, .inl (cA, 401, .inl my1))]) [5, 6, 7, 3, 4, 0, 1, 2] (by decide) rfl
          exact W.iret (v := r_7) hx hb hr (fun t9 ht9 hW9 => ⟨⟨r_7, (a2, a1, (.ref a2), nv_6, qx2, qy2, (sv 2), cx, cy, al, nq_4, nl_5, no_5, ns_5, gx_5, gy_5, nx_5, ny_5, qx1, qy1, ht1, cx1, cy1, lf1, sq1, ln1, of1, sr1, fx1, fy1, mx1, my1), rfl, Or.inl ⟨hw_7, ⟨(hw_1.t c_11).1, (hw_1.t c_11).2.1⟩, ⟨hw_2.t c_20, hw_3.t c_30⟩, rfl, hw_6, ⟨rfl, rfl, rfl, rfl, hw_4.2.2⟩, hsq, hns, n, hH, hnl, hno, hMM⟩, by rw [ht9]; exact hP9, hD9⟩, hS.F ht9⟩) hS.2.2 dX3_arc_108
        · refine lv_iconst (v := -1) hx hb dX3_arc_63 (by decide) ?_
          have hP9 := hP.sub (ws' := [(t0, .inr (2, [.ref qs, .ref ql, .ref a1, .ref a2, lt])), (qs, .inl (cA, 3, .inl sv)), (a1, .inr (0, [.ref qx1, .ref qy1, .int ht1, .int cx1, .int cy1, .int lf1, .long sq1, .int ln1, .int of1, .int sr1, .int fx1, .int fy1])), (qx1, .inl (cA, 401, .inl mx1)), (qy1, .inl (cA, 401, .inl my1)), (a2, .inr (0, [.ref qx2, .ref qy2, .int (sv 2), .int cx, .int cy, .int al, .long nq_4, .int nl_5, .int no_5, .int ns_5, .int gx_5, .int gy_5])), (qx2, .inl (cA, 401, .inl nx_5)), (qy2, .inl (cA, 401, .inl ny_5))]) [0, 4, 1, 2, 3, 5, 6, 7] rfl
          have hD9 := hD.sub (ws' := [(t0, .inr (2, [.ref qs, .ref ql, .ref a1, .ref a2, lt])), (qs, .inl (cA, 3, .inl sv)), (a1, .inr (0, [.ref qx1, .ref qy1, .int ht1, .int cx1, .int cy1, .int lf1, .long sq1, .int ln1, .int of1, .int sr1, .int fx1, .int fy1])), (qx1, .inl (cA, 401, .inl mx1)), (qy1, .inl (cA, 401, .inl my1)), (a2, .inr (0, [.ref qx2, .ref qy2, .int (sv 2), .int cx, .int cy, .int al, .long nq_4, .int nl_5, .int no_5, .int ns_5, .int gx_5, .int gy_5])), (qx2, .inl (cA, 401, .inl nx_5)), (qy2, .inl (cA, 401, .inl ny_5))]) [0, 4, 1, 2, 3, 5, 6, 7] (by decide) rfl
          exact W.iret (v := -1) hx hb hr (fun t9 ht9 hW9 => ⟨⟨-1, (a1, a2, lt, sv, qx1, qy1, ht1, cx1, cy1, lf1, sq1, ln1, of1, sr1, fx1, fy1, mx1, my1, qx2, qy2, (sv 2), cx, cy, al, nq_4, nl_5, no_5, ns_5, gx_5, gy_5, nx_5, ny_5), rfl, Or.inr ⟨rfl, (fun h => by rcases hw_5 with g | g; exact absurd (g.1.symm.trans c_60) (by decide); rw [hw_4.2.2] at g; rcases g.2 with g2 | g2; exact g2 h.2.2.1; obtain ⟨n, hn⟩ := h.2.2.2; exact g2 n hn), rfl, rfl, rfl, ⟨rfl, rfl, rfl, rfl, rfl, rfl, rfl, rfl, rfl, rfl⟩⟩, by rw [ht9]; exact hP9, hD9⟩, hS.F ht9⟩) hS.2.2 dX3_arc_64
      · refine lv_iconst (v := -1) hx hb dX3_arc_33 (by decide) ?_
        have hP9 := hP.sub (ws' := [(t0, .inr (2, [.ref qs, .ref ql, .ref a1, .ref a2, lt])), (qs, .inl (cA, 3, .inl sv)), (a1, .inr (0, [.ref qx1, .ref qy1, .int ht1, .int cx1, .int cy1, .int lf1, .long sq1, .int ln1, .int of1, .int sr1, .int fx1, .int fy1])), (qx1, .inl (cA, 401, .inl mx1)), (qy1, .inl (cA, 401, .inl my1)), (a2, .inr (0, [.ref qx2, .ref qy2, .int ht2, .int cx2, .int cy2, .int lf2, .long sq2, .int ln2, .int of2, .int sr2, .int fx2, .int fy2])), (qx2, .inl (cA, 401, .inl mx2)), (qy2, .inl (cA, 401, .inl my2))]) [0, 1, 2, 3, 4, 5, 6, 7] rfl
        have hD9 := hD.sub (ws' := [(t0, .inr (2, [.ref qs, .ref ql, .ref a1, .ref a2, lt])), (qs, .inl (cA, 3, .inl sv)), (a1, .inr (0, [.ref qx1, .ref qy1, .int ht1, .int cx1, .int cy1, .int lf1, .long sq1, .int ln1, .int of1, .int sr1, .int fx1, .int fy1])), (qx1, .inl (cA, 401, .inl mx1)), (qy1, .inl (cA, 401, .inl my1)), (a2, .inr (0, [.ref qx2, .ref qy2, .int ht2, .int cx2, .int cy2, .int lf2, .long sq2, .int ln2, .int of2, .int sr2, .int fx2, .int fy2])), (qx2, .inl (cA, 401, .inl mx2)), (qy2, .inl (cA, 401, .inl my2))]) [0, 1, 2, 3, 4, 5, 6, 7] (by decide) rfl
        exact W.iret (v := -1) hx hb hr (fun t9 ht9 hW9 => ⟨⟨-1, (a1, a2, lt, sv, qx1, qy1, ht1, cx1, cy1, lf1, sq1, ln1, of1, sr1, fx1, fy1, mx1, my1, qx2, qy2, ht2, cx2, cy2, lf2, sq2, ln2, of2, sr2, fx2, fy2, mx2, my2), rfl, Or.inr ⟨rfl, fun h => hw_3.f c_30 h.2.1.2, rfl, rfl, rfl, ⟨rfl, rfl, rfl, rfl, rfl, rfl, rfl, rfl, rfl, rfl⟩⟩, by rw [ht9]; exact hP9, hD9⟩, hS.F ht9⟩) hS.2.2 dX3_arc_34
set_option maxHeartbeats 4000000 in
set_option maxRecDepth 100000 in
/-- TickWalks.at -/
theorem tw_at (l : Launch) (dC : Nat → ClassId) (dI : Nat → Nat → Nat) (cA cB : ClassId) (sz : Nat) (t0 : Nat) (qs : Nat) (ql : Nat) (a1 : Nat) (a2 : Nat) (lt : Value) (sv : Nat → Int32) (a : Int32) : Met l yX3_at wsX3_at ({ frames := 1, cells := 0, slots := 0, locals := 21 }) (va_Pc [.ref t0, .int a] (ct_P dC dI cA cB sz [(t0, .inr (2, [.ref qs, .ref ql, .ref a1, .ref a2, lt])), (qs, .inl (cA, 3, .inl sv))])) (va_Qi (fun (r : Int32) (u : Unit) => r = at_v sv a) (fun (u : Unit) => ct_B dC dI (va_A [(t0, .inr (2, [.ref qs, .ref ql, .ref a1, .ref a2, lt])), (qs, .inl (cA, 3, .inl sv))] sz) [(t0, .inr (2, [.ref qs, .ref ql, .ref a1, .ref a2, lt])), (qs, .inl (cA, 3, .inl sv))]) (va_A [(t0, .inr (2, [.ref qs, .ref ql, .ref a1, .ref a2, lt])), (qs, .inl (cA, 3, .inl sv))] sz)) 0 0 (va_A [(t0, .inr (2, [.ref qs, .ref ql, .ref a1, .ref a2, lt])), (qs, .inl (cA, 3, .inl sv))] sz) := by
  refine Met.ofW (cc := cX3_at) (maxL := 2) (ret := (some .int)) (by decide +kernel) rfl ?_
  intro p e s m args below meth c s₁ B hml hv
  obtain ⟨rfl, hsz, hP, hK, hD0, hZ, hN⟩ := hv
  have hx := B.exec
  have hb := B.bytes
  have hr := B.returns
  have hts := atoms_spec (ws := wsX3_at) B.pre
  have hown : s.vm.findClass RX3 = some m.cls := findClass_of_methodNamed B.named
  have hlocks := B.notSynchronized
  have hiX3 : ∀ w ∈ u_ws RX3 TX3 5, w ∈ wsX3_at := by decide +kernel
  subst hsz
  have hD := hD0.self (sz := s.heap.size)
  generalize hAe : va_A [(t0, .inr (2, [.ref qs, .ref ql, .ref a1, .ref a2, lt])), (qs, .inl (cA, 3, .inl sv))] s.heap.size = A at hD hZ ⊢
  have hA : ∀ q : Nat, s.heap.size ≤ q → A q := fun q h => by rw [← hAe]; exact Or.inr h
  have hl := lv_entry ([.ref t0, .int a]) (n := 2) (Nat.le_of_ble_eq_true rfl)
  rw [lg_entry_eq]
  generalize (lg_sl ([.ref t0, .int a]) ++ List.replicate (2 - (lg_sl ([.ref t0, .int a])).length) Slot.unset).toArray = ls at hl ⊢
  have hl : lv_has ls 2 [(0, .ref t0), (1, .int a)] := hl
  generalize hHe : s.heap = H at hP ⊢
  have hS : va_S A s.heap H [] := by rw [hHe]; exact va_S.rf
  generalize ([] : List Loc) = locs at hS ⊢
  refine lv_iload_n hx hb dX3_at_0 rfl (lv_at hl 1 rfl) ?_
  refine ct_calli (va_runS (As := [.int a]) (rest := []) ⟨hx, hb, hml, hown, hts⟩ (ct_isAxis l dC dI cA cB H.size a ) (va_cwS 1 hts gX3_at_X3_isAxis rfl rfl rfl (by decide +kernel) ⟨Nat.le_of_ble_eq_true rfl, Nat.le_of_ble_eq_true rfl⟩) ⟨ct_blind, ct_pre hP hD hK hZ hN hS hA [] rfl (by decide)⟩ rfl rfl hl.1 rfl (lv_room (Nat.le_of_ble_eq_true rfl)) dX3_at_1 ⟨Nat.le_of_ble_eq_true rfl, Nat.le_of_ble_eq_true rfl⟩) hP hD hS hA [] [0, 1] rfl (wr := [(t0, .inr (2, [.ref qs, .ref ql, .ref a1, .ref a2, lt])), (qs, .inl (cA, 3, .inl sv))]) rfl (by decide) (by decide) (fun r_1 u9 H locs hw_1 hP hD hS => ?_)
  have hw_1 : bo_z r_1 (0 ≤ a ∧ a < 3) := hw_1
  have hP : va_P (dC, dI) vwCl [(t0, .inr (2, [.ref qs, .ref ql, .ref a1, .ref a2, lt])), (qs, .inl (cA, 3, .inl sv))] H := hP
  have hD : va_D A [(t0, .inr (2, [.ref qs, .ref ql, .ref a1, .ref a2, lt])), (qs, .inl (cA, 3, .inl sv))] := hD
  refine lv_if_eq (tgt := 16) hx hb dX3_at_4 (by decide) (fun c_4 => ?_) (fun c_4 => ?_)
  · refine lv_iconst (v := 0) hx hb dX3_at_16 (by decide) ?_
    have hP9 := hP.sub (ws' := [(t0, .inr (2, [.ref qs, .ref ql, .ref a1, .ref a2, lt])), (qs, .inl (cA, 3, .inl sv))]) [0, 1] rfl
    have hD9 := hD.sub (ws' := [(t0, .inr (2, [.ref qs, .ref ql, .ref a1, .ref a2, lt])), (qs, .inl (cA, 3, .inl sv))]) [0, 1] (by decide) rfl
    exact W.iret (v := 0) hx hb hr (fun t9 ht9 hW9 => ⟨⟨0, (), rfl, (by unfold at_v; rw [if_neg (hw_1.f c_4)]), by rw [ht9]; exact hP9, hD9⟩, hS.F ht9⟩) hS.2.2 dX3_at_17
  · refine lv_aload_n hx hb dX3_at_7 rfl (lv_at hl 0 rfl) ?_
    refine va_get (D := (dC, dI)) (ci := 2) (v := .ref qs) (C := RX3) (T := TX3) (N := 5) hx hb hts hiX3 hown hK hP 0 rfl rfl 0 (by decide) (hts (.fieldLink RX3 9 "TickWalks" "stand" "[I") (List.mem_of_getElem? (l := wsX3_at) (i := 1) rfl)) (fun _ h9 => h9) rfl dX3_at_8 ?_
    refine lv_iload_n hx hb dX3_at_11 rfl (lv_at hl 1 rfl) ?_
    refine va_iald hx hb hK hP 1 0 rfl rfl (by obtain ⟨j, hj, e⟩ := ax_in (hw_1.t c_4); rw [e]; exact vp_in_nI hj (by decide)) dX3_at_12 ?_
    refine ct_topi (y := sv a.toNatClampNeg) (congrArg sv rfl) ?_
    refine lv_goto (tgt := 17) hx hb dX3_at_13 (by decide) ?_
    have hP9 := hP.sub (ws' := [(t0, .inr (2, [.ref qs, .ref ql, .ref a1, .ref a2, lt])), (qs, .inl (cA, 3, .inl sv))]) [0, 1] rfl
    have hD9 := hD.sub (ws' := [(t0, .inr (2, [.ref qs, .ref ql, .ref a1, .ref a2, lt])), (qs, .inl (cA, 3, .inl sv))]) [0, 1] (by decide) rfl
    exact W.iret (v := sv a.toNatClampNeg) hx hb hr (fun t9 ht9 hW9 => ⟨⟨sv a.toNatClampNeg, (), rfl, (by unfold at_v; rw [if_pos (hw_1.t c_4)]), by rw [ht9]; exact hP9, hD9⟩, hS.F ht9⟩) hS.2.2 dX3_at_17
set_option maxHeartbeats 4000000 in
set_option maxRecDepth 100000 in
/-- TickWalks.ticks, nothing walked -/
theorem tw_ticks_n (l : Launch) (dC : Nat → ClassId) (dI : Nat → Nat → Nat) (cA cB : ClassId) (sz : Nat) (t0 : Nat) (qs : Nat) (ql : Nat) (a1 : Nat) (a2 : Nat) : Met l yX3_ticks wsX3_ticks ({ frames := 0, cells := 0, slots := 0, locals := 0 }) (va_Pc [.ref t0] (ct_P dC dI cA cB sz [(t0, .inr (2, [.ref qs, .ref ql, .ref a1, .ref a2, .null]))])) (va_Qi (fun (r : Int32) (u : Unit) => r = 0) (fun (u : Unit) => ct_B dC dI (va_A [(t0, .inr (2, [.ref qs, .ref ql, .ref a1, .ref a2, .null]))] sz) [(t0, .inr (2, [.ref qs, .ref ql, .ref a1, .ref a2, .null]))]) (va_A [(t0, .inr (2, [.ref qs, .ref ql, .ref a1, .ref a2, .null]))] sz)) 0 0 (va_A [(t0, .inr (2, [.ref qs, .ref ql, .ref a1, .ref a2, .null]))] sz) := by
  refine Met.ofW (cc := cX3_ticks) (maxL := 1) (ret := (some .int)) (by decide +kernel) rfl ?_
  intro p e s m args below meth c s₁ B hml hv
  obtain ⟨rfl, hsz, hP, hK, hD0, hZ, hN⟩ := hv
  have hx := B.exec
  have hb := B.bytes
  have hr := B.returns
  have hts := atoms_spec (ws := wsX3_ticks) B.pre
  have hown : s.vm.findClass RX3 = some m.cls := findClass_of_methodNamed B.named
  have hlocks := B.notSynchronized
  have hiX3 : ∀ w ∈ u_ws RX3 TX3 5, w ∈ wsX3_ticks := by decide +kernel
  subst hsz
  have hD := hD0.self (sz := s.heap.size)
  generalize hAe : va_A [(t0, .inr (2, [.ref qs, .ref ql, .ref a1, .ref a2, .null]))] s.heap.size = A at hD hZ ⊢
  have hA : ∀ q : Nat, s.heap.size ≤ q → A q := fun q h => by rw [← hAe]; exact Or.inr h
  have hl := lv_entry ([.ref t0]) (n := 1) (Nat.le_of_ble_eq_true rfl)
  rw [lg_entry_eq]
  generalize (lg_sl ([.ref t0]) ++ List.replicate (1 - (lg_sl ([.ref t0])).length) Slot.unset).toArray = ls at hl ⊢
  have hl : lv_has ls 1 [(0, .ref t0)] := hl
  generalize hHe : s.heap = H at hP ⊢
  have hS : va_S A s.heap H [] := by rw [hHe]; exact va_S.rf
  generalize ([] : List Loc) = locs at hS ⊢
  refine lv_aload_n hx hb dX3_ticks_0 rfl (lv_at hl 0 rfl) ?_
  refine va_get (D := (dC, dI)) (ci := 2) (v := .null) (C := RX3) (T := TX3) (N := 5) hx hb hts hiX3 hown hK hP 0 rfl rfl 4 (by decide) (hts (.fieldLink RX3 30 "TickWalks" "latest" "LTickWalks$Walk;") (List.mem_of_getElem? (l := wsX3_ticks) (i := 1) rfl)) (fun _ h9 => h9) rfl dX3_ticks_1 ?_
  refine lv_ifnonnullN hx hb dX3_ticks_4 ?_
  refine lv_iconst (v := 0) hx hb dX3_ticks_7 (by decide) ?_
  refine lv_goto (tgt := 18) hx hb dX3_ticks_8 (by decide) ?_
  have hP9 := hP.sub (ws' := [(t0, .inr (2, [.ref qs, .ref ql, .ref a1, .ref a2, .null]))]) [0] rfl
  have hD9 := hD.sub (ws' := [(t0, .inr (2, [.ref qs, .ref ql, .ref a1, .ref a2, .null]))]) [0] (by decide) rfl
  exact W.iret (v := 0) hx hb hr (fun t9 ht9 hW9 => ⟨⟨0, (), rfl, rfl, by rw [ht9]; exact hP9, hD9⟩, hS.F ht9⟩) hS.2.2 dX3_ticks_18
set_option maxHeartbeats 4000000 in
set_option maxRecDepth 100000 in
/-- TickWalks.ticks, a line -/
theorem tw_ticks_l (l : Launch) (dC : Nat → ClassId) (dI : Nat → Nat → Nat) (cA cB : ClassId) (sz : Nat) (t0 : Nat) (qs : Nat) (ql : Nat) (a1 : Nat) (a2 : Nat) (qf : Nat) (qb : Nat) (ln : Int32) (sr : Int32) : Met l yX3_ticks wsX3_ticks ({ frames := 1, cells := 0, slots := 0, locals := 20 }) (va_Pc [.ref t0] (ct_P dC dI cA cB sz [(t0, .inr (2, [.ref qs, .ref ql, .ref a1, .ref a2, .ref ql])), (ql, .inr (1, [.ref qf, .ref qb, .int ln, .int sr]))])) (va_Qi (fun (r : Int32) (u : Unit) => r = ln) (fun (u : Unit) => ct_B dC dI (va_A [(t0, .inr (2, [.ref qs, .ref ql, .ref a1, .ref a2, .ref ql])), (ql, .inr (1, [.ref qf, .ref qb, .int ln, .int sr]))] sz) [(t0, .inr (2, [.ref qs, .ref ql, .ref a1, .ref a2, .ref ql])), (ql, .inr (1, [.ref qf, .ref qb, .int ln, .int sr]))]) (va_A [(t0, .inr (2, [.ref qs, .ref ql, .ref a1, .ref a2, .ref ql])), (ql, .inr (1, [.ref qf, .ref qb, .int ln, .int sr]))] sz)) 0 0 (va_A [(t0, .inr (2, [.ref qs, .ref ql, .ref a1, .ref a2, .ref ql])), (ql, .inr (1, [.ref qf, .ref qb, .int ln, .int sr]))] sz) := by
  refine Met.ofW (cc := cX3_ticks) (maxL := 1) (ret := (some .int)) (by decide +kernel) rfl ?_
  intro p e s m args below meth c s₁ B hml hv
  obtain ⟨rfl, hsz, hP, hK, hD0, hZ, hN⟩ := hv
  have hx := B.exec
  have hb := B.bytes
  have hr := B.returns
  have hts := atoms_spec (ws := wsX3_ticks) B.pre
  have hown : s.vm.findClass RX3 = some m.cls := findClass_of_methodNamed B.named
  have hlocks := B.notSynchronized
  have hiX3 : ∀ w ∈ u_ws RX3 TX3 5, w ∈ wsX3_ticks := by decide +kernel
  subst hsz
  have hD := hD0.self (sz := s.heap.size)
  generalize hAe : va_A [(t0, .inr (2, [.ref qs, .ref ql, .ref a1, .ref a2, .ref ql])), (ql, .inr (1, [.ref qf, .ref qb, .int ln, .int sr]))] s.heap.size = A at hD hZ ⊢
  have hA : ∀ q : Nat, s.heap.size ≤ q → A q := fun q h => by rw [← hAe]; exact Or.inr h
  have hl := lv_entry ([.ref t0]) (n := 1) (Nat.le_of_ble_eq_true rfl)
  rw [lg_entry_eq]
  generalize (lg_sl ([.ref t0]) ++ List.replicate (1 - (lg_sl ([.ref t0])).length) Slot.unset).toArray = ls at hl ⊢
  have hl : lv_has ls 1 [(0, .ref t0)] := hl
  generalize hHe : s.heap = H at hP ⊢
  have hS : va_S A s.heap H [] := by rw [hHe]; exact va_S.rf
  generalize ([] : List Loc) = locs at hS ⊢
  refine lv_aload_n hx hb dX3_ticks_0 rfl (lv_at hl 0 rfl) ?_
  refine va_get (D := (dC, dI)) (ci := 2) (v := .ref ql) (C := RX3) (T := TX3) (N := 5) hx hb hts hiX3 hown hK hP 0 rfl rfl 4 (by decide) (hts (.fieldLink RX3 30 "TickWalks" "latest" "LTickWalks$Walk;") (List.mem_of_getElem? (l := wsX3_ticks) (i := 1) rfl)) (fun _ h9 => h9) rfl dX3_ticks_1 ?_
  refine lv_ifnonnull (tgt := 11) hx hb dX3_ticks_4 (by decide) ?_
  refine lv_aload_n hx hb dX3_ticks_11 rfl (lv_at hl 0 rfl) ?_
  refine va_get (D := (dC, dI)) (ci := 2) (v := .ref ql) (C := RX3) (T := TX3) (N := 5) hx hb hts hiX3 hown hK hP 0 rfl rfl 4 (by decide) (hts (.fieldLink RX3 30 "TickWalks" "latest" "LTickWalks$Walk;") (List.mem_of_getElem? (l := wsX3_ticks) (i := 1) rfl)) (fun _ h9 => h9) rfl dX3_ticks_12 ?_
  refine ct_calli (va_runU (As := []) (rest := []) ⟨hx, hb, hml, hown, hts⟩ (li_length l dC dI cA cB H.size ql qf qb ln sr ) (va_cwA 0 hts gX3_ticks_X1_length_u66X1 rfl rfl rfl hN.2.2.2.2.2.2.2.2.2.1 (by decide +kernel) ⟨Nat.le_of_ble_eq_true rfl, Nat.le_of_ble_eq_true rfl⟩) ⟨ct_blind, va_recv hK hP (ci := 1) (q0 := 1) rfl rfl, ct_pre hP hD hK hZ hN hS hA [1] rfl (by decide)⟩ rfl rfl hl.1 rfl (lv_room (Nat.le_of_ble_eq_true rfl)) dX3_ticks_15 ⟨Nat.le_of_ble_eq_true rfl, Nat.le_of_ble_eq_true rfl⟩) hP hD hS hA [1] [0] rfl (wr := [(t0, .inr (2, [.ref qs, .ref ql, .ref a1, .ref a2, .ref ql]))]) rfl (by decide) (by decide) (fun r_1 u9 H locs hw_1 hP hD hS => ?_)
  have hw_1 : r_1 = ln := hw_1
  have hP : va_P (dC, dI) vwCl [(t0, .inr (2, [.ref qs, .ref ql, .ref a1, .ref a2, .ref ql])), (ql, .inr (1, [.ref qf, .ref qb, .int ln, .int sr]))] H := hP
  have hD : va_D A [(t0, .inr (2, [.ref qs, .ref ql, .ref a1, .ref a2, .ref ql])), (ql, .inr (1, [.ref qf, .ref qb, .int ln, .int sr]))] := hD
  have hP9 := hP.sub (ws' := [(t0, .inr (2, [.ref qs, .ref ql, .ref a1, .ref a2, .ref ql])), (ql, .inr (1, [.ref qf, .ref qb, .int ln, .int sr]))]) [0, 1] rfl
  have hD9 := hD.sub (ws' := [(t0, .inr (2, [.ref qs, .ref ql, .ref a1, .ref a2, .ref ql])), (ql, .inr (1, [.ref qf, .ref qb, .int ln, .int sr]))]) [0, 1] (by decide) rfl
  exact W.iret (v := r_1) hx hb hr (fun t9 ht9 hW9 => ⟨⟨r_1, (), rfl, hw_1, by rw [ht9]; exact hP9, hD9⟩, hS.F ht9⟩) hS.2.2 dX3_ticks_18
set_option maxHeartbeats 4000000 in
set_option maxRecDepth 100000 in
/-- TickWalks.ticks, an arc -/
theorem tw_ticks_a (l : Launch) (dC : Nat → ClassId) (dI : Nat → Nat → Nat) (cA cB : ClassId) (sz : Nat) (t0 : Nat) (qs : Nat) (ql : Nat) (a1 : Nat) (a2 : Nat) (qx1 : Nat) (qy1 : Nat) (ht1 : Int32) (cx1 : Int32) (cy1 : Int32) (lf1 : Int32) (sq1 : Int64) (ln1 : Int32) (of1 : Int32) (sr1 : Int32) (fx1 : Int32) (fy1 : Int32) : Met l yX3_ticks wsX3_ticks ({ frames := 1, cells := 0, slots := 0, locals := 20 }) (va_Pc [.ref t0] (ct_P dC dI cA cB sz [(t0, .inr (2, [.ref qs, .ref ql, .ref a1, .ref a2, .ref a1])), (a1, .inr (0, [.ref qx1, .ref qy1, .int ht1, .int cx1, .int cy1, .int lf1, .long sq1, .int ln1, .int of1, .int sr1, .int fx1, .int fy1]))])) (va_Qi (fun (r : Int32) (u : Unit) => r = ln1) (fun (u : Unit) => ct_B dC dI (va_A [(t0, .inr (2, [.ref qs, .ref ql, .ref a1, .ref a2, .ref a1])), (a1, .inr (0, [.ref qx1, .ref qy1, .int ht1, .int cx1, .int cy1, .int lf1, .long sq1, .int ln1, .int of1, .int sr1, .int fx1, .int fy1]))] sz) [(t0, .inr (2, [.ref qs, .ref ql, .ref a1, .ref a2, .ref a1])), (a1, .inr (0, [.ref qx1, .ref qy1, .int ht1, .int cx1, .int cy1, .int lf1, .long sq1, .int ln1, .int of1, .int sr1, .int fx1, .int fy1]))]) (va_A [(t0, .inr (2, [.ref qs, .ref ql, .ref a1, .ref a2, .ref a1])), (a1, .inr (0, [.ref qx1, .ref qy1, .int ht1, .int cx1, .int cy1, .int lf1, .long sq1, .int ln1, .int of1, .int sr1, .int fx1, .int fy1]))] sz)) 0 0 (va_A [(t0, .inr (2, [.ref qs, .ref ql, .ref a1, .ref a2, .ref a1])), (a1, .inr (0, [.ref qx1, .ref qy1, .int ht1, .int cx1, .int cy1, .int lf1, .long sq1, .int ln1, .int of1, .int sr1, .int fx1, .int fy1]))] sz) := by
  refine Met.ofW (cc := cX3_ticks) (maxL := 1) (ret := (some .int)) (by decide +kernel) rfl ?_
  intro p e s m args below meth c s₁ B hml hv
  obtain ⟨rfl, hsz, hP, hK, hD0, hZ, hN⟩ := hv
  have hx := B.exec
  have hb := B.bytes
  have hr := B.returns
  have hts := atoms_spec (ws := wsX3_ticks) B.pre
  have hown : s.vm.findClass RX3 = some m.cls := findClass_of_methodNamed B.named
  have hlocks := B.notSynchronized
  have hiX3 : ∀ w ∈ u_ws RX3 TX3 5, w ∈ wsX3_ticks := by decide +kernel
  subst hsz
  have hD := hD0.self (sz := s.heap.size)
  generalize hAe : va_A [(t0, .inr (2, [.ref qs, .ref ql, .ref a1, .ref a2, .ref a1])), (a1, .inr (0, [.ref qx1, .ref qy1, .int ht1, .int cx1, .int cy1, .int lf1, .long sq1, .int ln1, .int of1, .int sr1, .int fx1, .int fy1]))] s.heap.size = A at hD hZ ⊢
  have hA : ∀ q : Nat, s.heap.size ≤ q → A q := fun q h => by rw [← hAe]; exact Or.inr h
  have hl := lv_entry ([.ref t0]) (n := 1) (Nat.le_of_ble_eq_true rfl)
  rw [lg_entry_eq]
  generalize (lg_sl ([.ref t0]) ++ List.replicate (1 - (lg_sl ([.ref t0])).length) Slot.unset).toArray = ls at hl ⊢
  have hl : lv_has ls 1 [(0, .ref t0)] := hl
  generalize hHe : s.heap = H at hP ⊢
  have hS : va_S A s.heap H [] := by rw [hHe]; exact va_S.rf
  generalize ([] : List Loc) = locs at hS ⊢
  refine lv_aload_n hx hb dX3_ticks_0 rfl (lv_at hl 0 rfl) ?_
  refine va_get (D := (dC, dI)) (ci := 2) (v := .ref a1) (C := RX3) (T := TX3) (N := 5) hx hb hts hiX3 hown hK hP 0 rfl rfl 4 (by decide) (hts (.fieldLink RX3 30 "TickWalks" "latest" "LTickWalks$Walk;") (List.mem_of_getElem? (l := wsX3_ticks) (i := 1) rfl)) (fun _ h9 => h9) rfl dX3_ticks_1 ?_
  refine lv_ifnonnull (tgt := 11) hx hb dX3_ticks_4 (by decide) ?_
  refine lv_aload_n hx hb dX3_ticks_11 rfl (lv_at hl 0 rfl) ?_
  refine va_get (D := (dC, dI)) (ci := 2) (v := .ref a1) (C := RX3) (T := TX3) (N := 5) hx hb hts hiX3 hown hK hP 0 rfl rfl 4 (by decide) (hts (.fieldLink RX3 30 "TickWalks" "latest" "LTickWalks$Walk;") (List.mem_of_getElem? (l := wsX3_ticks) (i := 1) rfl)) (fun _ h9 => h9) rfl dX3_ticks_12 ?_
  refine ct_calli (va_runU (As := []) (rest := []) ⟨hx, hb, hml, hown, hts⟩ (ar_length l dC dI cA cB H.size a1 qx1 qy1 ht1 cx1 cy1 lf1 sq1 ln1 of1 sr1 fx1 fy1 ) (va_cwA 0 hts gX3_ticks_X0_length_u66X0 rfl rfl rfl hN.2.2.2.2.2.2.2.2.2.1 (by decide +kernel) ⟨Nat.le_of_ble_eq_true rfl, Nat.le_of_ble_eq_true rfl⟩) ⟨ct_blind, va_recv hK hP (ci := 0) (q0 := 1) rfl rfl, ct_pre hP hD hK hZ hN hS hA [1] rfl (by decide)⟩ rfl rfl hl.1 rfl (lv_room (Nat.le_of_ble_eq_true rfl)) dX3_ticks_15 ⟨Nat.le_of_ble_eq_true rfl, Nat.le_of_ble_eq_true rfl⟩) hP hD hS hA [1] [0] rfl (wr := [(t0, .inr (2, [.ref qs, .ref ql, .ref a1, .ref a2, .ref a1]))]) rfl (by decide) (by decide) (fun r_1 u9 H locs hw_1 hP hD hS => ?_)
  have hw_1 : r_1 = ln1 := hw_1
  have hP : va_P (dC, dI) vwCl [(t0, .inr (2, [.ref qs, .ref ql, .ref a1, .ref a2, .ref a1])), (a1, .inr (0, [.ref qx1, .ref qy1, .int ht1, .int cx1, .int cy1, .int lf1, .long sq1, .int ln1, .int of1, .int sr1, .int fx1, .int fy1]))] H := hP
  have hD : va_D A [(t0, .inr (2, [.ref qs, .ref ql, .ref a1, .ref a2, .ref a1])), (a1, .inr (0, [.ref qx1, .ref qy1, .int ht1, .int cx1, .int cy1, .int lf1, .long sq1, .int ln1, .int of1, .int sr1, .int fx1, .int fy1]))] := hD
  have hP9 := hP.sub (ws' := [(t0, .inr (2, [.ref qs, .ref ql, .ref a1, .ref a2, .ref a1])), (a1, .inr (0, [.ref qx1, .ref qy1, .int ht1, .int cx1, .int cy1, .int lf1, .long sq1, .int ln1, .int of1, .int sr1, .int fx1, .int fy1]))]) [0, 1] rfl
  have hD9 := hD.sub (ws' := [(t0, .inr (2, [.ref qs, .ref ql, .ref a1, .ref a2, .ref a1])), (a1, .inr (0, [.ref qx1, .ref qy1, .int ht1, .int cx1, .int cy1, .int lf1, .long sq1, .int ln1, .int of1, .int sr1, .int fx1, .int fy1]))]) [0, 1] (by decide) rfl
  exact W.iret (v := r_1) hx hb hr (fun t9 ht9 hW9 => ⟨⟨r_1, (), rfl, hw_1, by rw [ht9]; exact hP9, hD9⟩, hS.F ht9⟩) hS.2.2 dX3_ticks_18
set_option maxHeartbeats 4000000 in
set_option maxRecDepth 100000 in
/-- TickWalks.off, nothing walked -/
theorem tw_off_n (l : Launch) (dC : Nat → ClassId) (dI : Nat → Nat → Nat) (cA cB : ClassId) (sz : Nat) (t0 : Nat) (qs : Nat) (ql : Nat) (a1 : Nat) (a2 : Nat) : Met l yX3_off wsX3_off ({ frames := 0, cells := 0, slots := 0, locals := 0 }) (va_Pc [.ref t0] (ct_P dC dI cA cB sz [(t0, .inr (2, [.ref qs, .ref ql, .ref a1, .ref a2, .null]))])) (va_Qi (fun (r : Int32) (u : Unit) => r = 0) (fun (u : Unit) => ct_B dC dI (va_A [(t0, .inr (2, [.ref qs, .ref ql, .ref a1, .ref a2, .null]))] sz) [(t0, .inr (2, [.ref qs, .ref ql, .ref a1, .ref a2, .null]))]) (va_A [(t0, .inr (2, [.ref qs, .ref ql, .ref a1, .ref a2, .null]))] sz)) 0 0 (va_A [(t0, .inr (2, [.ref qs, .ref ql, .ref a1, .ref a2, .null]))] sz) := by
  refine Met.ofW (cc := cX3_off) (maxL := 1) (ret := (some .int)) (by decide +kernel) rfl ?_
  intro p e s m args below meth c s₁ B hml hv
  obtain ⟨rfl, hsz, hP, hK, hD0, hZ, hN⟩ := hv
  have hx := B.exec
  have hb := B.bytes
  have hr := B.returns
  have hts := atoms_spec (ws := wsX3_off) B.pre
  have hown : s.vm.findClass RX3 = some m.cls := findClass_of_methodNamed B.named
  have hlocks := B.notSynchronized
  have hiX3 : ∀ w ∈ u_ws RX3 TX3 5, w ∈ wsX3_off := by decide +kernel
  subst hsz
  have hD := hD0.self (sz := s.heap.size)
  generalize hAe : va_A [(t0, .inr (2, [.ref qs, .ref ql, .ref a1, .ref a2, .null]))] s.heap.size = A at hD hZ ⊢
  have hA : ∀ q : Nat, s.heap.size ≤ q → A q := fun q h => by rw [← hAe]; exact Or.inr h
  have hl := lv_entry ([.ref t0]) (n := 1) (Nat.le_of_ble_eq_true rfl)
  rw [lg_entry_eq]
  generalize (lg_sl ([.ref t0]) ++ List.replicate (1 - (lg_sl ([.ref t0])).length) Slot.unset).toArray = ls at hl ⊢
  have hl : lv_has ls 1 [(0, .ref t0)] := hl
  generalize hHe : s.heap = H at hP ⊢
  have hS : va_S A s.heap H [] := by rw [hHe]; exact va_S.rf
  generalize ([] : List Loc) = locs at hS ⊢
  refine lv_aload_n hx hb dX3_off_0 rfl (lv_at hl 0 rfl) ?_
  refine va_get (D := (dC, dI)) (ci := 2) (v := .null) (C := RX3) (T := TX3) (N := 5) hx hb hts hiX3 hown hK hP 0 rfl rfl 4 (by decide) (hts (.fieldLink RX3 30 "TickWalks" "latest" "LTickWalks$Walk;") (List.mem_of_getElem? (l := wsX3_off) (i := 1) rfl)) (fun _ h9 => h9) rfl dX3_off_1 ?_
  refine lv_ifnonnullN hx hb dX3_off_4 ?_
  refine lv_iconst (v := 0) hx hb dX3_off_7 (by decide) ?_
  refine lv_goto (tgt := 18) hx hb dX3_off_8 (by decide) ?_
  have hP9 := hP.sub (ws' := [(t0, .inr (2, [.ref qs, .ref ql, .ref a1, .ref a2, .null]))]) [0] rfl
  have hD9 := hD.sub (ws' := [(t0, .inr (2, [.ref qs, .ref ql, .ref a1, .ref a2, .null]))]) [0] (by decide) rfl
  exact W.iret (v := 0) hx hb hr (fun t9 ht9 hW9 => ⟨⟨0, (), rfl, rfl, by rw [ht9]; exact hP9, hD9⟩, hS.F ht9⟩) hS.2.2 dX3_off_18
set_option maxHeartbeats 4000000 in
set_option maxRecDepth 100000 in
/-- TickWalks.off, a line -/
theorem tw_off_l (l : Launch) (dC : Nat → ClassId) (dI : Nat → Nat → Nat) (cA cB : ClassId) (sz : Nat) (t0 : Nat) (qs : Nat) (ql : Nat) (a1 : Nat) (a2 : Nat) (qf : Nat) (qb : Nat) (ln : Int32) (sr : Int32) : Met l yX3_off wsX3_off ({ frames := 1, cells := 0, slots := 0, locals := 20 }) (va_Pc [.ref t0] (ct_P dC dI cA cB sz [(t0, .inr (2, [.ref qs, .ref ql, .ref a1, .ref a2, .ref ql])), (ql, .inr (1, [.ref qf, .ref qb, .int ln, .int sr]))])) (va_Qi (fun (r : Int32) (u : Unit) => r = 0) (fun (u : Unit) => ct_B dC dI (va_A [(t0, .inr (2, [.ref qs, .ref ql, .ref a1, .ref a2, .ref ql])), (ql, .inr (1, [.ref qf, .ref qb, .int ln, .int sr]))] sz) [(t0, .inr (2, [.ref qs, .ref ql, .ref a1, .ref a2, .ref ql])), (ql, .inr (1, [.ref qf, .ref qb, .int ln, .int sr]))]) (va_A [(t0, .inr (2, [.ref qs, .ref ql, .ref a1, .ref a2, .ref ql])), (ql, .inr (1, [.ref qf, .ref qb, .int ln, .int sr]))] sz)) 0 0 (va_A [(t0, .inr (2, [.ref qs, .ref ql, .ref a1, .ref a2, .ref ql])), (ql, .inr (1, [.ref qf, .ref qb, .int ln, .int sr]))] sz) := by
  refine Met.ofW (cc := cX3_off) (maxL := 1) (ret := (some .int)) (by decide +kernel) rfl ?_
  intro p e s m args below meth c s₁ B hml hv
  obtain ⟨rfl, hsz, hP, hK, hD0, hZ, hN⟩ := hv
  have hx := B.exec
  have hb := B.bytes
  have hr := B.returns
  have hts := atoms_spec (ws := wsX3_off) B.pre
  have hown : s.vm.findClass RX3 = some m.cls := findClass_of_methodNamed B.named
  have hlocks := B.notSynchronized
  have hiX3 : ∀ w ∈ u_ws RX3 TX3 5, w ∈ wsX3_off := by decide +kernel
  subst hsz
  have hD := hD0.self (sz := s.heap.size)
  generalize hAe : va_A [(t0, .inr (2, [.ref qs, .ref ql, .ref a1, .ref a2, .ref ql])), (ql, .inr (1, [.ref qf, .ref qb, .int ln, .int sr]))] s.heap.size = A at hD hZ ⊢
  have hA : ∀ q : Nat, s.heap.size ≤ q → A q := fun q h => by rw [← hAe]; exact Or.inr h
  have hl := lv_entry ([.ref t0]) (n := 1) (Nat.le_of_ble_eq_true rfl)
  rw [lg_entry_eq]
  generalize (lg_sl ([.ref t0]) ++ List.replicate (1 - (lg_sl ([.ref t0])).length) Slot.unset).toArray = ls at hl ⊢
  have hl : lv_has ls 1 [(0, .ref t0)] := hl
  generalize hHe : s.heap = H at hP ⊢
  have hS : va_S A s.heap H [] := by rw [hHe]; exact va_S.rf
  generalize ([] : List Loc) = locs at hS ⊢
  refine lv_aload_n hx hb dX3_off_0 rfl (lv_at hl 0 rfl) ?_
  refine va_get (D := (dC, dI)) (ci := 2) (v := .ref ql) (C := RX3) (T := TX3) (N := 5) hx hb hts hiX3 hown hK hP 0 rfl rfl 4 (by decide) (hts (.fieldLink RX3 30 "TickWalks" "latest" "LTickWalks$Walk;") (List.mem_of_getElem? (l := wsX3_off) (i := 1) rfl)) (fun _ h9 => h9) rfl dX3_off_1 ?_
  refine lv_ifnonnull (tgt := 11) hx hb dX3_off_4 (by decide) ?_
  refine lv_aload_n hx hb dX3_off_11 rfl (lv_at hl 0 rfl) ?_
  refine va_get (D := (dC, dI)) (ci := 2) (v := .ref ql) (C := RX3) (T := TX3) (N := 5) hx hb hts hiX3 hown hK hP 0 rfl rfl 4 (by decide) (hts (.fieldLink RX3 30 "TickWalks" "latest" "LTickWalks$Walk;") (List.mem_of_getElem? (l := wsX3_off) (i := 1) rfl)) (fun _ h9 => h9) rfl dX3_off_12 ?_
  refine ct_calli (va_runU (As := []) (rest := []) ⟨hx, hb, hml, hown, hts⟩ (li_off l dC dI cA cB H.size ql qf qb ln sr ) (va_cwA 0 hts gX3_off_X1_greatestOff_u73X1 rfl rfl rfl hN.2.2.2.2.2.2.2.2.2.2.2.1 (by decide +kernel) ⟨Nat.le_of_ble_eq_true rfl, Nat.le_of_ble_eq_true rfl⟩) ⟨ct_blind, va_recv hK hP (ci := 1) (q0 := 1) rfl rfl, ct_pre hP hD hK hZ hN hS hA [1] rfl (by decide)⟩ rfl rfl hl.1 rfl (lv_room (Nat.le_of_ble_eq_true rfl)) dX3_off_15 ⟨Nat.le_of_ble_eq_true rfl, Nat.le_of_ble_eq_true rfl⟩) hP hD hS hA [1] [0] rfl (wr := [(t0, .inr (2, [.ref qs, .ref ql, .ref a1, .ref a2, .ref ql]))]) rfl (by decide) (by decide) (fun r_1 u9 H locs hw_1 hP hD hS => ?_)
  have hw_1 : r_1 = 0 := hw_1
  have hP : va_P (dC, dI) vwCl [(t0, .inr (2, [.ref qs, .ref ql, .ref a1, .ref a2, .ref ql])), (ql, .inr (1, [.ref qf, .ref qb, .int ln, .int sr]))] H := hP
  have hD : va_D A [(t0, .inr (2, [.ref qs, .ref ql, .ref a1, .ref a2, .ref ql])), (ql, .inr (1, [.ref qf, .ref qb, .int ln, .int sr]))] := hD
  have hP9 := hP.sub (ws' := [(t0, .inr (2, [.ref qs, .ref ql, .ref a1, .ref a2, .ref ql])), (ql, .inr (1, [.ref qf, .ref qb, .int ln, .int sr]))]) [0, 1] rfl
  have hD9 := hD.sub (ws' := [(t0, .inr (2, [.ref qs, .ref ql, .ref a1, .ref a2, .ref ql])), (ql, .inr (1, [.ref qf, .ref qb, .int ln, .int sr]))]) [0, 1] (by decide) rfl
  exact W.iret (v := r_1) hx hb hr (fun t9 ht9 hW9 => ⟨⟨r_1, (), rfl, hw_1, by rw [ht9]; exact hP9, hD9⟩, hS.F ht9⟩) hS.2.2 dX3_off_18
set_option maxHeartbeats 4000000 in
set_option maxRecDepth 100000 in
/-- TickWalks.off, an arc -/
theorem tw_off_a (l : Launch) (dC : Nat → ClassId) (dI : Nat → Nat → Nat) (cA cB : ClassId) (sz : Nat) (t0 : Nat) (qs : Nat) (ql : Nat) (a1 : Nat) (a2 : Nat) (qx1 : Nat) (qy1 : Nat) (ht1 : Int32) (cx1 : Int32) (cy1 : Int32) (lf1 : Int32) (sq1 : Int64) (ln1 : Int32) (of1 : Int32) (sr1 : Int32) (fx1 : Int32) (fy1 : Int32) : Met l yX3_off wsX3_off ({ frames := 1, cells := 0, slots := 0, locals := 20 }) (va_Pc [.ref t0] (ct_P dC dI cA cB sz [(t0, .inr (2, [.ref qs, .ref ql, .ref a1, .ref a2, .ref a1])), (a1, .inr (0, [.ref qx1, .ref qy1, .int ht1, .int cx1, .int cy1, .int lf1, .long sq1, .int ln1, .int of1, .int sr1, .int fx1, .int fy1]))])) (va_Qi (fun (r : Int32) (u : Unit) => r = of1) (fun (u : Unit) => ct_B dC dI (va_A [(t0, .inr (2, [.ref qs, .ref ql, .ref a1, .ref a2, .ref a1])), (a1, .inr (0, [.ref qx1, .ref qy1, .int ht1, .int cx1, .int cy1, .int lf1, .long sq1, .int ln1, .int of1, .int sr1, .int fx1, .int fy1]))] sz) [(t0, .inr (2, [.ref qs, .ref ql, .ref a1, .ref a2, .ref a1])), (a1, .inr (0, [.ref qx1, .ref qy1, .int ht1, .int cx1, .int cy1, .int lf1, .long sq1, .int ln1, .int of1, .int sr1, .int fx1, .int fy1]))]) (va_A [(t0, .inr (2, [.ref qs, .ref ql, .ref a1, .ref a2, .ref a1])), (a1, .inr (0, [.ref qx1, .ref qy1, .int ht1, .int cx1, .int cy1, .int lf1, .long sq1, .int ln1, .int of1, .int sr1, .int fx1, .int fy1]))] sz)) 0 0 (va_A [(t0, .inr (2, [.ref qs, .ref ql, .ref a1, .ref a2, .ref a1])), (a1, .inr (0, [.ref qx1, .ref qy1, .int ht1, .int cx1, .int cy1, .int lf1, .long sq1, .int ln1, .int of1, .int sr1, .int fx1, .int fy1]))] sz) := by
  refine Met.ofW (cc := cX3_off) (maxL := 1) (ret := (some .int)) (by decide +kernel) rfl ?_
  intro p e s m args below meth c s₁ B hml hv
  obtain ⟨rfl, hsz, hP, hK, hD0, hZ, hN⟩ := hv
  have hx := B.exec
  have hb := B.bytes
  have hr := B.returns
  have hts := atoms_spec (ws := wsX3_off) B.pre
  have hown : s.vm.findClass RX3 = some m.cls := findClass_of_methodNamed B.named
  have hlocks := B.notSynchronized
  have hiX3 : ∀ w ∈ u_ws RX3 TX3 5, w ∈ wsX3_off := by decide +kernel
  subst hsz
  have hD := hD0.self (sz := s.heap.size)
  generalize hAe : va_A [(t0, .inr (2, [.ref qs, .ref ql, .ref a1, .ref a2, .ref a1])), (a1, .inr (0, [.ref qx1, .ref qy1, .int ht1, .int cx1, .int cy1, .int lf1, .long sq1, .int ln1, .int of1, .int sr1, .int fx1, .int fy1]))] s.heap.size = A at hD hZ ⊢
  have hA : ∀ q : Nat, s.heap.size ≤ q → A q := fun q h => by rw [← hAe]; exact Or.inr h
  have hl := lv_entry ([.ref t0]) (n := 1) (Nat.le_of_ble_eq_true rfl)
  rw [lg_entry_eq]
  generalize (lg_sl ([.ref t0]) ++ List.replicate (1 - (lg_sl ([.ref t0])).length) Slot.unset).toArray = ls at hl ⊢
  have hl : lv_has ls 1 [(0, .ref t0)] := hl
  generalize hHe : s.heap = H at hP ⊢
  have hS : va_S A s.heap H [] := by rw [hHe]; exact va_S.rf
  generalize ([] : List Loc) = locs at hS ⊢
  refine lv_aload_n hx hb dX3_off_0 rfl (lv_at hl 0 rfl) ?_
  refine va_get (D := (dC, dI)) (ci := 2) (v := .ref a1) (C := RX3) (T := TX3) (N := 5) hx hb hts hiX3 hown hK hP 0 rfl rfl 4 (by decide) (hts (.fieldLink RX3 30 "TickWalks" "latest" "LTickWalks$Walk;") (List.mem_of_getElem? (l := wsX3_off) (i := 1) rfl)) (fun _ h9 => h9) rfl dX3_off_1 ?_
  refine lv_ifnonnull (tgt := 11) hx hb dX3_off_4 (by decide) ?_
  refine lv_aload_n hx hb dX3_off_11 rfl (lv_at hl 0 rfl) ?_
  refine va_get (D := (dC, dI)) (ci := 2) (v := .ref a1) (C := RX3) (T := TX3) (N := 5) hx hb hts hiX3 hown hK hP 0 rfl rfl 4 (by decide) (hts (.fieldLink RX3 30 "TickWalks" "latest" "LTickWalks$Walk;") (List.mem_of_getElem? (l := wsX3_off) (i := 1) rfl)) (fun _ h9 => h9) rfl dX3_off_12 ?_
  refine ct_calli (va_runU (As := []) (rest := []) ⟨hx, hb, hml, hown, hts⟩ (ar_off l dC dI cA cB H.size a1 qx1 qy1 ht1 cx1 cy1 lf1 sq1 ln1 of1 sr1 fx1 fy1 ) (va_cwA 0 hts gX3_off_X0_greatestOff_u73X0 rfl rfl rfl hN.2.2.2.2.2.2.2.2.2.2.2.1 (by decide +kernel) ⟨Nat.le_of_ble_eq_true rfl, Nat.le_of_ble_eq_true rfl⟩) ⟨ct_blind, va_recv hK hP (ci := 0) (q0 := 1) rfl rfl, ct_pre hP hD hK hZ hN hS hA [1] rfl (by decide)⟩ rfl rfl hl.1 rfl (lv_room (Nat.le_of_ble_eq_true rfl)) dX3_off_15 ⟨Nat.le_of_ble_eq_true rfl, Nat.le_of_ble_eq_true rfl⟩) hP hD hS hA [1] [0] rfl (wr := [(t0, .inr (2, [.ref qs, .ref ql, .ref a1, .ref a2, .ref a1]))]) rfl (by decide) (by decide) (fun r_1 u9 H locs hw_1 hP hD hS => ?_)
  have hw_1 : r_1 = of1 := hw_1
  have hP : va_P (dC, dI) vwCl [(t0, .inr (2, [.ref qs, .ref ql, .ref a1, .ref a2, .ref a1])), (a1, .inr (0, [.ref qx1, .ref qy1, .int ht1, .int cx1, .int cy1, .int lf1, .long sq1, .int ln1, .int of1, .int sr1, .int fx1, .int fy1]))] H := hP
  have hD : va_D A [(t0, .inr (2, [.ref qs, .ref ql, .ref a1, .ref a2, .ref a1])), (a1, .inr (0, [.ref qx1, .ref qy1, .int ht1, .int cx1, .int cy1, .int lf1, .long sq1, .int ln1, .int of1, .int sr1, .int fx1, .int fy1]))] := hD
  have hP9 := hP.sub (ws' := [(t0, .inr (2, [.ref qs, .ref ql, .ref a1, .ref a2, .ref a1])), (a1, .inr (0, [.ref qx1, .ref qy1, .int ht1, .int cx1, .int cy1, .int lf1, .long sq1, .int ln1, .int of1, .int sr1, .int fx1, .int fy1]))]) [0, 1] rfl
  have hD9 := hD.sub (ws' := [(t0, .inr (2, [.ref qs, .ref ql, .ref a1, .ref a2, .ref a1])), (a1, .inr (0, [.ref qx1, .ref qy1, .int ht1, .int cx1, .int cy1, .int lf1, .long sq1, .int ln1, .int of1, .int sr1, .int fx1, .int fy1]))]) [0, 1] (by decide) rfl
  exact W.iret (v := r_1) hx hb hr (fun t9 ht9 hW9 => ⟨⟨r_1, (), rfl, hw_1, by rw [ht9]; exact hP9, hD9⟩, hS.F ht9⟩) hS.2.2 dX3_off_18
set_option maxHeartbeats 4000000 in
set_option maxRecDepth 100000 in
/-- TickWalks.strays, nothing walked -/
theorem tw_strays_n (l : Launch) (dC : Nat → ClassId) (dI : Nat → Nat → Nat) (cA cB : ClassId) (sz : Nat) (t0 : Nat) (qs : Nat) (ql : Nat) (a1 : Nat) (a2 : Nat) : Met l yX3_strays wsX3_strays ({ frames := 0, cells := 0, slots := 0, locals := 0 }) (va_Pc [.ref t0] (ct_P dC dI cA cB sz [(t0, .inr (2, [.ref qs, .ref ql, .ref a1, .ref a2, .null]))])) (va_Qi (fun (r : Int32) (u : Unit) => r = 0) (fun (u : Unit) => ct_B dC dI (va_A [(t0, .inr (2, [.ref qs, .ref ql, .ref a1, .ref a2, .null]))] sz) [(t0, .inr (2, [.ref qs, .ref ql, .ref a1, .ref a2, .null]))]) (va_A [(t0, .inr (2, [.ref qs, .ref ql, .ref a1, .ref a2, .null]))] sz)) 0 0 (va_A [(t0, .inr (2, [.ref qs, .ref ql, .ref a1, .ref a2, .null]))] sz) := by
  refine Met.ofW (cc := cX3_strays) (maxL := 1) (ret := (some .int)) (by decide +kernel) rfl ?_
  intro p e s m args below meth c s₁ B hml hv
  obtain ⟨rfl, hsz, hP, hK, hD0, hZ, hN⟩ := hv
  have hx := B.exec
  have hb := B.bytes
  have hr := B.returns
  have hts := atoms_spec (ws := wsX3_strays) B.pre
  have hown : s.vm.findClass RX3 = some m.cls := findClass_of_methodNamed B.named
  have hlocks := B.notSynchronized
  have hiX3 : ∀ w ∈ u_ws RX3 TX3 5, w ∈ wsX3_strays := by decide +kernel
  subst hsz
  have hD := hD0.self (sz := s.heap.size)
  generalize hAe : va_A [(t0, .inr (2, [.ref qs, .ref ql, .ref a1, .ref a2, .null]))] s.heap.size = A at hD hZ ⊢
  have hA : ∀ q : Nat, s.heap.size ≤ q → A q := fun q h => by rw [← hAe]; exact Or.inr h
  have hl := lv_entry ([.ref t0]) (n := 1) (Nat.le_of_ble_eq_true rfl)
  rw [lg_entry_eq]
  generalize (lg_sl ([.ref t0]) ++ List.replicate (1 - (lg_sl ([.ref t0])).length) Slot.unset).toArray = ls at hl ⊢
  have hl : lv_has ls 1 [(0, .ref t0)] := hl
  generalize hHe : s.heap = H at hP ⊢
  have hS : va_S A s.heap H [] := by rw [hHe]; exact va_S.rf
  generalize ([] : List Loc) = locs at hS ⊢
  refine lv_aload_n hx hb dX3_strays_0 rfl (lv_at hl 0 rfl) ?_
  refine va_get (D := (dC, dI)) (ci := 2) (v := .null) (C := RX3) (T := TX3) (N := 5) hx hb hts hiX3 hown hK hP 0 rfl rfl 4 (by decide) (hts (.fieldLink RX3 30 "TickWalks" "latest" "LTickWalks$Walk;") (List.mem_of_getElem? (l := wsX3_strays) (i := 1) rfl)) (fun _ h9 => h9) rfl dX3_strays_1 ?_
  refine lv_ifnonnullN hx hb dX3_strays_4 ?_
  refine lv_iconst (v := 0) hx hb dX3_strays_7 (by decide) ?_
  refine lv_goto (tgt := 18) hx hb dX3_strays_8 (by decide) ?_
  have hP9 := hP.sub (ws' := [(t0, .inr (2, [.ref qs, .ref ql, .ref a1, .ref a2, .null]))]) [0] rfl
  have hD9 := hD.sub (ws' := [(t0, .inr (2, [.ref qs, .ref ql, .ref a1, .ref a2, .null]))]) [0] (by decide) rfl
  exact W.iret (v := 0) hx hb hr (fun t9 ht9 hW9 => ⟨⟨0, (), rfl, rfl, by rw [ht9]; exact hP9, hD9⟩, hS.F ht9⟩) hS.2.2 dX3_strays_18
set_option maxHeartbeats 4000000 in
set_option maxRecDepth 100000 in
/-- TickWalks.strays, a line -/
theorem tw_strays_l (l : Launch) (dC : Nat → ClassId) (dI : Nat → Nat → Nat) (cA cB : ClassId) (sz : Nat) (t0 : Nat) (qs : Nat) (ql : Nat) (a1 : Nat) (a2 : Nat) (qf : Nat) (qb : Nat) (ln : Int32) (sr : Int32) (fv : Nat → Int32) (bv : Nat → Int32) (N : Nat) (hN2 : ln = nI N ∧ N < 1000000) : Met l yX3_strays wsX3_strays ({ frames := 5, cells := 0, slots := 0, locals := 118 }) (va_Pc [.ref t0] (ct_P dC dI cA cB sz [(t0, .inr (2, [.ref qs, .ref ql, .ref a1, .ref a2, .ref ql])), (ql, .inr (1, [.ref qf, .ref qb, .int ln, .int sr])), (qf, .inl (cA, 3, .inl fv)), (qb, .inl (cA, 3, .inl bv))])) (va_Qi (fun (r : Int32) (u : Int32) => r = u ∧ ((sr = -1 ∧ u = ln_c fv bv ln N) ∨ (¬ sr = -1 ∧ u = sr))) (fun (u : Int32) => ct_B dC dI (va_A [(t0, .inr (2, [.ref qs, .ref ql, .ref a1, .ref a2, .ref ql])), (ql, .inr (1, [.ref qf, .ref qb, .int ln, .int sr])), (qf, .inl (cA, 3, .inl fv)), (qb, .inl (cA, 3, .inl bv))] sz) [(t0, .inr (2, [.ref qs, .ref ql, .ref a1, .ref a2, .ref ql])), (ql, .inr (1, [.ref qf, .ref qb, .int ln, .int u])), (qf, .inl (cA, 3, .inl fv)), (qb, .inl (cA, 3, .inl bv))]) (va_A [(t0, .inr (2, [.ref qs, .ref ql, .ref a1, .ref a2, .ref ql])), (ql, .inr (1, [.ref qf, .ref qb, .int ln, .int sr])), (qf, .inl (cA, 3, .inl fv)), (qb, .inl (cA, 3, .inl bv))] sz)) 0 0 (va_A [(t0, .inr (2, [.ref qs, .ref ql, .ref a1, .ref a2, .ref ql])), (ql, .inr (1, [.ref qf, .ref qb, .int ln, .int sr])), (qf, .inl (cA, 3, .inl fv)), (qb, .inl (cA, 3, .inl bv))] sz) := by
  refine Met.ofW (cc := cX3_strays) (maxL := 1) (ret := (some .int)) (by decide +kernel) rfl ?_
  intro p e s m args below meth c s₁ B hml hv
  obtain ⟨rfl, hsz, hP, hK, hD0, hZ, hN⟩ := hv
  have hx := B.exec
  have hb := B.bytes
  have hr := B.returns
  have hts := atoms_spec (ws := wsX3_strays) B.pre
  have hown : s.vm.findClass RX3 = some m.cls := findClass_of_methodNamed B.named
  have hlocks := B.notSynchronized
  have hiX3 : ∀ w ∈ u_ws RX3 TX3 5, w ∈ wsX3_strays := by decide +kernel
  subst hsz
  have hD := hD0.self (sz := s.heap.size)
  generalize hAe : va_A [(t0, .inr (2, [.ref qs, .ref ql, .ref a1, .ref a2, .ref ql])), (ql, .inr (1, [.ref qf, .ref qb, .int ln, .int sr])), (qf, .inl (cA, 3, .inl fv)), (qb, .inl (cA, 3, .inl bv))] s.heap.size = A at hD hZ ⊢
  have hA : ∀ q : Nat, s.heap.size ≤ q → A q := fun q h => by rw [← hAe]; exact Or.inr h
  have hl := lv_entry ([.ref t0]) (n := 1) (Nat.le_of_ble_eq_true rfl)
  rw [lg_entry_eq]
  generalize (lg_sl ([.ref t0]) ++ List.replicate (1 - (lg_sl ([.ref t0])).length) Slot.unset).toArray = ls at hl ⊢
  have hl : lv_has ls 1 [(0, .ref t0)] := hl
  generalize hHe : s.heap = H at hP ⊢
  have hS : va_S A s.heap H [] := by rw [hHe]; exact va_S.rf
  generalize ([] : List Loc) = locs at hS ⊢
  refine lv_aload_n hx hb dX3_strays_0 rfl (lv_at hl 0 rfl) ?_
  refine va_get (D := (dC, dI)) (ci := 2) (v := .ref ql) (C := RX3) (T := TX3) (N := 5) hx hb hts hiX3 hown hK hP 0 rfl rfl 4 (by decide) (hts (.fieldLink RX3 30 "TickWalks" "latest" "LTickWalks$Walk;") (List.mem_of_getElem? (l := wsX3_strays) (i := 1) rfl)) (fun _ h9 => h9) rfl dX3_strays_1 ?_
  refine lv_ifnonnull (tgt := 11) hx hb dX3_strays_4 (by decide) ?_
  refine lv_aload_n hx hb dX3_strays_11 rfl (lv_at hl 0 rfl) ?_
  refine va_get (D := (dC, dI)) (ci := 2) (v := .ref ql) (C := RX3) (T := TX3) (N := 5) hx hb hts hiX3 hown hK hP 0 rfl rfl 4 (by decide) (hts (.fieldLink RX3 30 "TickWalks" "latest" "LTickWalks$Walk;") (List.mem_of_getElem? (l := wsX3_strays) (i := 1) rfl)) (fun _ h9 => h9) rfl dX3_strays_12 ?_
  refine ct_calli (va_runU (As := []) (rest := []) ⟨hx, hb, hml, hown, hts⟩ (li_strays l dC dI cA cB H.size ql qf qb ln sr fv bv N hN2) (va_cwA 0 hts gX3_strays_X1_strayTicks_u76X1 rfl rfl rfl hN.2.2.2.2.2.2.2.2.2.2.2.2 (by decide +kernel) ⟨Nat.le_of_ble_eq_true rfl, Nat.le_of_ble_eq_true rfl⟩) ⟨ct_blind, va_recv hK hP (ci := 1) (q0 := 1) rfl rfl, ct_pre hP hD hK hZ hN hS hA [1, 2, 3] rfl (by decide)⟩ rfl rfl hl.1 rfl (lv_room (Nat.le_of_ble_eq_true rfl)) dX3_strays_15 ⟨Nat.le_of_ble_eq_true rfl, Nat.le_of_ble_eq_true rfl⟩) hP hD hS hA [1, 2, 3] [0] rfl (wr := [(t0, .inr (2, [.ref qs, .ref ql, .ref a1, .ref a2, .ref ql]))]) rfl (by decide) (by decide) (fun r_1 ns_1 H locs hw_1 hP hD hS => ?_)
  have hw_1 : r_1 = ns_1 ∧ ((sr = -1 ∧ ns_1 = ln_c fv bv ln N) ∨ (¬ sr = -1 ∧ ns_1 = sr)) := hw_1
  have hP : va_P (dC, dI) vwCl [(t0, .inr (2, [.ref qs, .ref ql, .ref a1, .ref a2, .ref ql])), (ql, .inr (1, [.ref qf, .ref qb, .int ln, .int ns_1])), (qf, .inl (cA, 3, .inl fv)), (qb, .inl (cA, 3, .inl bv))] H := hP
  have hD : va_D A [(t0, .inr (2, [.ref qs, .ref ql, .ref a1, .ref a2, .ref ql])), (ql, .inr (1, [.ref qf, .ref qb, .int ln, .int ns_1])), (qf, .inl (cA, 3, .inl fv)), (qb, .inl (cA, 3, .inl bv))] := hD
  have hP9 := hP.sub (ws' := [(t0, .inr (2, [.ref qs, .ref ql, .ref a1, .ref a2, .ref ql])), (ql, .inr (1, [.ref qf, .ref qb, .int ln, .int ns_1])), (qf, .inl (cA, 3, .inl fv)), (qb, .inl (cA, 3, .inl bv))]) [0, 1, 2, 3] rfl
  have hD9 := hD.sub (ws' := [(t0, .inr (2, [.ref qs, .ref ql, .ref a1, .ref a2, .ref ql])), (ql, .inr (1, [.ref qf, .ref qb, .int ln, .int ns_1])), (qf, .inl (cA, 3, .inl fv)), (qb, .inl (cA, 3, .inl bv))]) [0, 1, 2, 3] (by decide) rfl
  exact W.iret (v := r_1) hx hb hr (fun t9 ht9 hW9 => ⟨⟨r_1, (ns_1), rfl, hw_1, by rw [ht9]; exact hP9, hD9⟩, hS.F ht9⟩) hS.2.2 dX3_strays_18
set_option maxHeartbeats 4000000 in
set_option maxRecDepth 100000 in
/-- TickWalks.strays, an arc -/
theorem tw_strays_a (l : Launch) (dC : Nat → ClassId) (dI : Nat → Nat → Nat) (cA cB : ClassId) (sz : Nat) (t0 : Nat) (qs : Nat) (ql : Nat) (a1 : Nat) (a2 : Nat) (qx1 : Nat) (qy1 : Nat) (ht1 : Int32) (cx1 : Int32) (cy1 : Int32) (lf1 : Int32) (sq1 : Int64) (ln1 : Int32) (of1 : Int32) (sr1 : Int32) (fx1 : Int32) (fy1 : Int32) : Met l yX3_strays wsX3_strays ({ frames := 1, cells := 0, slots := 0, locals := 20 }) (va_Pc [.ref t0] (ct_P dC dI cA cB sz [(t0, .inr (2, [.ref qs, .ref ql, .ref a1, .ref a2, .ref a1])), (a1, .inr (0, [.ref qx1, .ref qy1, .int ht1, .int cx1, .int cy1, .int lf1, .long sq1, .int ln1, .int of1, .int sr1, .int fx1, .int fy1]))])) (va_Qi (fun (r : Int32) (u : Unit) => r = sr1) (fun (u : Unit) => ct_B dC dI (va_A [(t0, .inr (2, [.ref qs, .ref ql, .ref a1, .ref a2, .ref a1])), (a1, .inr (0, [.ref qx1, .ref qy1, .int ht1, .int cx1, .int cy1, .int lf1, .long sq1, .int ln1, .int of1, .int sr1, .int fx1, .int fy1]))] sz) [(t0, .inr (2, [.ref qs, .ref ql, .ref a1, .ref a2, .ref a1])), (a1, .inr (0, [.ref qx1, .ref qy1, .int ht1, .int cx1, .int cy1, .int lf1, .long sq1, .int ln1, .int of1, .int sr1, .int fx1, .int fy1]))]) (va_A [(t0, .inr (2, [.ref qs, .ref ql, .ref a1, .ref a2, .ref a1])), (a1, .inr (0, [.ref qx1, .ref qy1, .int ht1, .int cx1, .int cy1, .int lf1, .long sq1, .int ln1, .int of1, .int sr1, .int fx1, .int fy1]))] sz)) 0 0 (va_A [(t0, .inr (2, [.ref qs, .ref ql, .ref a1, .ref a2, .ref a1])), (a1, .inr (0, [.ref qx1, .ref qy1, .int ht1, .int cx1, .int cy1, .int lf1, .long sq1, .int ln1, .int of1, .int sr1, .int fx1, .int fy1]))] sz) := by
  refine Met.ofW (cc := cX3_strays) (maxL := 1) (ret := (some .int)) (by decide +kernel) rfl ?_
  intro p e s m args below meth c s₁ B hml hv
  obtain ⟨rfl, hsz, hP, hK, hD0, hZ, hN⟩ := hv
  have hx := B.exec
  have hb := B.bytes
  have hr := B.returns
  have hts := atoms_spec (ws := wsX3_strays) B.pre
  have hown : s.vm.findClass RX3 = some m.cls := findClass_of_methodNamed B.named
  have hlocks := B.notSynchronized
  have hiX3 : ∀ w ∈ u_ws RX3 TX3 5, w ∈ wsX3_strays := by decide +kernel
  subst hsz
  have hD := hD0.self (sz := s.heap.size)
  generalize hAe : va_A [(t0, .inr (2, [.ref qs, .ref ql, .ref a1, .ref a2, .ref a1])), (a1, .inr (0, [.ref qx1, .ref qy1, .int ht1, .int cx1, .int cy1, .int lf1, .long sq1, .int ln1, .int of1, .int sr1, .int fx1, .int fy1]))] s.heap.size = A at hD hZ ⊢
  have hA : ∀ q : Nat, s.heap.size ≤ q → A q := fun q h => by rw [← hAe]; exact Or.inr h
  have hl := lv_entry ([.ref t0]) (n := 1) (Nat.le_of_ble_eq_true rfl)
  rw [lg_entry_eq]
  generalize (lg_sl ([.ref t0]) ++ List.replicate (1 - (lg_sl ([.ref t0])).length) Slot.unset).toArray = ls at hl ⊢
  have hl : lv_has ls 1 [(0, .ref t0)] := hl
  generalize hHe : s.heap = H at hP ⊢
  have hS : va_S A s.heap H [] := by rw [hHe]; exact va_S.rf
  generalize ([] : List Loc) = locs at hS ⊢
  refine lv_aload_n hx hb dX3_strays_0 rfl (lv_at hl 0 rfl) ?_
  refine va_get (D := (dC, dI)) (ci := 2) (v := .ref a1) (C := RX3) (T := TX3) (N := 5) hx hb hts hiX3 hown hK hP 0 rfl rfl 4 (by decide) (hts (.fieldLink RX3 30 "TickWalks" "latest" "LTickWalks$Walk;") (List.mem_of_getElem? (l := wsX3_strays) (i := 1) rfl)) (fun _ h9 => h9) rfl dX3_strays_1 ?_
  refine lv_ifnonnull (tgt := 11) hx hb dX3_strays_4 (by decide) ?_
  refine lv_aload_n hx hb dX3_strays_11 rfl (lv_at hl 0 rfl) ?_
  refine va_get (D := (dC, dI)) (ci := 2) (v := .ref a1) (C := RX3) (T := TX3) (N := 5) hx hb hts hiX3 hown hK hP 0 rfl rfl 4 (by decide) (hts (.fieldLink RX3 30 "TickWalks" "latest" "LTickWalks$Walk;") (List.mem_of_getElem? (l := wsX3_strays) (i := 1) rfl)) (fun _ h9 => h9) rfl dX3_strays_12 ?_
  refine ct_calli (va_runU (As := []) (rest := []) ⟨hx, hb, hml, hown, hts⟩ (ar_strays l dC dI cA cB H.size a1 qx1 qy1 ht1 cx1 cy1 lf1 sq1 ln1 of1 sr1 fx1 fy1 ) (va_cwA 0 hts gX3_strays_X0_strayTicks_u76X0 rfl rfl rfl hN.2.2.2.2.2.2.2.2.2.2.2.2 (by decide +kernel) ⟨Nat.le_of_ble_eq_true rfl, Nat.le_of_ble_eq_true rfl⟩) ⟨ct_blind, va_recv hK hP (ci := 0) (q0 := 1) rfl rfl, ct_pre hP hD hK hZ hN hS hA [1] rfl (by decide)⟩ rfl rfl hl.1 rfl (lv_room (Nat.le_of_ble_eq_true rfl)) dX3_strays_15 ⟨Nat.le_of_ble_eq_true rfl, Nat.le_of_ble_eq_true rfl⟩) hP hD hS hA [1] [0] rfl (wr := [(t0, .inr (2, [.ref qs, .ref ql, .ref a1, .ref a2, .ref a1]))]) rfl (by decide) (by decide) (fun r_1 u9 H locs hw_1 hP hD hS => ?_)
  have hw_1 : r_1 = sr1 := hw_1
  have hP : va_P (dC, dI) vwCl [(t0, .inr (2, [.ref qs, .ref ql, .ref a1, .ref a2, .ref a1])), (a1, .inr (0, [.ref qx1, .ref qy1, .int ht1, .int cx1, .int cy1, .int lf1, .long sq1, .int ln1, .int of1, .int sr1, .int fx1, .int fy1]))] H := hP
  have hD : va_D A [(t0, .inr (2, [.ref qs, .ref ql, .ref a1, .ref a2, .ref a1])), (a1, .inr (0, [.ref qx1, .ref qy1, .int ht1, .int cx1, .int cy1, .int lf1, .long sq1, .int ln1, .int of1, .int sr1, .int fx1, .int fy1]))] := hD
  have hP9 := hP.sub (ws' := [(t0, .inr (2, [.ref qs, .ref ql, .ref a1, .ref a2, .ref a1])), (a1, .inr (0, [.ref qx1, .ref qy1, .int ht1, .int cx1, .int cy1, .int lf1, .long sq1, .int ln1, .int of1, .int sr1, .int fx1, .int fy1]))]) [0, 1] rfl
  have hD9 := hD.sub (ws' := [(t0, .inr (2, [.ref qs, .ref ql, .ref a1, .ref a2, .ref a1])), (a1, .inr (0, [.ref qx1, .ref qy1, .int ht1, .int cx1, .int cy1, .int lf1, .long sq1, .int ln1, .int of1, .int sr1, .int fx1, .int fy1]))]) [0, 1] (by decide) rfl
  exact W.iret (v := r_1) hx hb hr (fun t9 ht9 hW9 => ⟨⟨r_1, (), rfl, hw_1, by rw [ht9]; exact hP9, hD9⟩, hS.F ht9⟩) hS.2.2 dX3_strays_18
set_option maxHeartbeats 4000000 in
set_option maxRecDepth 100000 in
/-- TickWalks.tick, nothing walked -/
theorem tw_tick_n (l : Launch) (dC : Nat → ClassId) (dI : Nat → Nat → Nat) (cA cB : ClassId) (sz : Nat) (t0 : Nat) (qs : Nat) (ql : Nat) (a1 : Nat) (a2 : Nat) (k : Int32) (ax : Int32) : Met l yX3_tick wsX3_tick ({ frames := 0, cells := 0, slots := 0, locals := 0 }) (va_Pc [.ref t0, .int k, .int ax] (ct_P dC dI cA cB sz [(t0, .inr (2, [.ref qs, .ref ql, .ref a1, .ref a2, .null]))])) (va_Qi (fun (r : Int32) (u : Unit) => r = 0) (fun (u : Unit) => ct_B dC dI (va_A [(t0, .inr (2, [.ref qs, .ref ql, .ref a1, .ref a2, .null]))] sz) [(t0, .inr (2, [.ref qs, .ref ql, .ref a1, .ref a2, .null]))]) (va_A [(t0, .inr (2, [.ref qs, .ref ql, .ref a1, .ref a2, .null]))] sz)) 0 0 (va_A [(t0, .inr (2, [.ref qs, .ref ql, .ref a1, .ref a2, .null]))] sz) := by
  refine Met.ofW (cc := cX3_tick) (maxL := 3) (ret := (some .int)) (by decide +kernel) rfl ?_
  intro p e s m args below meth c s₁ B hml hv
  obtain ⟨rfl, hsz, hP, hK, hD0, hZ, hN⟩ := hv
  have hx := B.exec
  have hb := B.bytes
  have hr := B.returns
  have hts := atoms_spec (ws := wsX3_tick) B.pre
  have hown : s.vm.findClass RX3 = some m.cls := findClass_of_methodNamed B.named
  have hlocks := B.notSynchronized
  have hiX3 : ∀ w ∈ u_ws RX3 TX3 5, w ∈ wsX3_tick := by decide +kernel
  subst hsz
  have hD := hD0.self (sz := s.heap.size)
  generalize hAe : va_A [(t0, .inr (2, [.ref qs, .ref ql, .ref a1, .ref a2, .null]))] s.heap.size = A at hD hZ ⊢
  have hA : ∀ q : Nat, s.heap.size ≤ q → A q := fun q h => by rw [← hAe]; exact Or.inr h
  have hl := lv_entry ([.ref t0, .int k, .int ax]) (n := 3) (Nat.le_of_ble_eq_true rfl)
  rw [lg_entry_eq]
  generalize (lg_sl ([.ref t0, .int k, .int ax]) ++ List.replicate (3 - (lg_sl ([.ref t0, .int k, .int ax])).length) Slot.unset).toArray = ls at hl ⊢
  have hl : lv_has ls 3 [(0, .ref t0), (1, .int k), (2, .int ax)] := hl
  generalize hHe : s.heap = H at hP ⊢
  have hS : va_S A s.heap H [] := by rw [hHe]; exact va_S.rf
  generalize ([] : List Loc) = locs at hS ⊢
  refine lv_aload_n hx hb dX3_tick_0 rfl (lv_at hl 0 rfl) ?_
  refine va_get (D := (dC, dI)) (ci := 2) (v := .null) (C := RX3) (T := TX3) (N := 5) hx hb hts hiX3 hown hK hP 0 rfl rfl 4 (by decide) (hts (.fieldLink RX3 30 "TickWalks" "latest" "LTickWalks$Walk;") (List.mem_of_getElem? (l := wsX3_tick) (i := 1) rfl)) (fun _ h9 => h9) rfl dX3_tick_1 ?_
  refine lv_ifnullN (tgt := 29) hx hb dX3_tick_4 (by decide) ?_
  refine lv_iconst (v := 0) hx hb dX3_tick_29 (by decide) ?_
  have hP9 := hP.sub (ws' := [(t0, .inr (2, [.ref qs, .ref ql, .ref a1, .ref a2, .null]))]) [0] rfl
  have hD9 := hD.sub (ws' := [(t0, .inr (2, [.ref qs, .ref ql, .ref a1, .ref a2, .null]))]) [0] (by decide) rfl
  exact W.iret (v := 0) hx hb hr (fun t9 ht9 hW9 => ⟨⟨0, (), rfl, rfl, by rw [ht9]; exact hP9, hD9⟩, hS.F ht9⟩) hS.2.2 dX3_tick_30
set_option maxHeartbeats 4000000 in
set_option maxRecDepth 100000 in
/-- TickWalks.tick, a line -/
theorem tw_tick_l (l : Launch) (dC : Nat → ClassId) (dI : Nat → Nat → Nat) (cA cB : ClassId) (sz : Nat) (t0 : Nat) (qs : Nat) (ql : Nat) (a1 : Nat) (a2 : Nat) (qf : Nat) (qb : Nat) (ln : Int32) (sr : Int32) (fv : Nat → Int32) (bv : Nat → Int32) (k : Int32) (ax : Int32) : Met l yX3_tick wsX3_tick ({ frames := 2, cells := 0, slots := 0, locals := 60 }) (va_Pc [.ref t0, .int k, .int ax] (ct_P dC dI cA cB sz [(t0, .inr (2, [.ref qs, .ref ql, .ref a1, .ref a2, .ref ql])), (ql, .inr (1, [.ref qf, .ref qb, .int ln, .int sr])), (qf, .inl (cA, 3, .inl fv)), (qb, .inl (cA, 3, .inl bv))])) (va_Qi (fun (r : Int32) (u : Unit) => r = tk_l fv bv ln k ax) (fun (u : Unit) => ct_B dC dI (va_A [(t0, .inr (2, [.ref qs, .ref ql, .ref a1, .ref a2, .ref ql])), (ql, .inr (1, [.ref qf, .ref qb, .int ln, .int sr])), (qf, .inl (cA, 3, .inl fv)), (qb, .inl (cA, 3, .inl bv))] sz) [(t0, .inr (2, [.ref qs, .ref ql, .ref a1, .ref a2, .ref ql])), (ql, .inr (1, [.ref qf, .ref qb, .int ln, .int sr])), (qf, .inl (cA, 3, .inl fv)), (qb, .inl (cA, 3, .inl bv))]) (va_A [(t0, .inr (2, [.ref qs, .ref ql, .ref a1, .ref a2, .ref ql])), (ql, .inr (1, [.ref qf, .ref qb, .int ln, .int sr])), (qf, .inl (cA, 3, .inl fv)), (qb, .inl (cA, 3, .inl bv))] sz)) 0 0 (va_A [(t0, .inr (2, [.ref qs, .ref ql, .ref a1, .ref a2, .ref ql])), (ql, .inr (1, [.ref qf, .ref qb, .int ln, .int sr])), (qf, .inl (cA, 3, .inl fv)), (qb, .inl (cA, 3, .inl bv))] sz) := by
  refine Met.ofW (cc := cX3_tick) (maxL := 3) (ret := (some .int)) (by decide +kernel) rfl ?_
  intro p e s m args below meth c s₁ B hml hv
  obtain ⟨rfl, hsz, hP, hK, hD0, hZ, hN⟩ := hv
  have hx := B.exec
  have hb := B.bytes
  have hr := B.returns
  have hts := atoms_spec (ws := wsX3_tick) B.pre
  have hown : s.vm.findClass RX3 = some m.cls := findClass_of_methodNamed B.named
  have hlocks := B.notSynchronized
  have hiX3 : ∀ w ∈ u_ws RX3 TX3 5, w ∈ wsX3_tick := by decide +kernel
  subst hsz
  have hD := hD0.self (sz := s.heap.size)
  generalize hAe : va_A [(t0, .inr (2, [.ref qs, .ref ql, .ref a1, .ref a2, .ref ql])), (ql, .inr (1, [.ref qf, .ref qb, .int ln, .int sr])), (qf, .inl (cA, 3, .inl fv)), (qb, .inl (cA, 3, .inl bv))] s.heap.size = A at hD hZ ⊢
  have hA : ∀ q : Nat, s.heap.size ≤ q → A q := fun q h => by rw [← hAe]; exact Or.inr h
  have hl := lv_entry ([.ref t0, .int k, .int ax]) (n := 3) (Nat.le_of_ble_eq_true rfl)
  rw [lg_entry_eq]
  generalize (lg_sl ([.ref t0, .int k, .int ax]) ++ List.replicate (3 - (lg_sl ([.ref t0, .int k, .int ax])).length) Slot.unset).toArray = ls at hl ⊢
  have hl : lv_has ls 3 [(0, .ref t0), (1, .int k), (2, .int ax)] := hl
  generalize hHe : s.heap = H at hP ⊢
  have hS : va_S A s.heap H [] := by rw [hHe]; exact va_S.rf
  generalize ([] : List Loc) = locs at hS ⊢
  refine lv_aload_n hx hb dX3_tick_0 rfl (lv_at hl 0 rfl) ?_
  refine va_get (D := (dC, dI)) (ci := 2) (v := .ref ql) (C := RX3) (T := TX3) (N := 5) hx hb hts hiX3 hown hK hP 0 rfl rfl 4 (by decide) (hts (.fieldLink RX3 30 "TickWalks" "latest" "LTickWalks$Walk;") (List.mem_of_getElem? (l := wsX3_tick) (i := 1) rfl)) (fun _ h9 => h9) rfl dX3_tick_1 ?_
  refine lv_ifnull hx hb dX3_tick_4 ?_
  refine lv_iload_n hx hb dX3_tick_7 rfl (lv_at hl 2 rfl) ?_
  refine ct_calli (va_runS (As := [.int ax]) (rest := []) ⟨hx, hb, hml, hown, hts⟩ (ct_isAxis l dC dI cA cB H.size ax ) (va_cwS 1 hts gX3_tick_X3_isAxis rfl rfl rfl (by decide +kernel) ⟨Nat.le_of_ble_eq_true rfl, Nat.le_of_ble_eq_true rfl⟩) ⟨ct_blind, ct_pre hP hD hK hZ hN hS hA [] rfl (by decide)⟩ rfl rfl hl.1 rfl (lv_room (Nat.le_of_ble_eq_true rfl)) dX3_tick_8 ⟨Nat.le_of_ble_eq_true rfl, Nat.le_of_ble_eq_true rfl⟩) hP hD hS hA [] [0, 1, 2, 3] rfl (wr := [(t0, .inr (2, [.ref qs, .ref ql, .ref a1, .ref a2, .ref ql])), (ql, .inr (1, [.ref qf, .ref qb, .int ln, .int sr])), (qf, .inl (cA, 3, .inl fv)), (qb, .inl (cA, 3, .inl bv))]) rfl (by decide) (by decide) (fun r_1 u9 H locs hw_1 hP hD hS => ?_)
  have hw_1 : bo_z r_1 (0 ≤ ax ∧ ax < 3) := hw_1
  have hP : va_P (dC, dI) vwCl [(t0, .inr (2, [.ref qs, .ref ql, .ref a1, .ref a2, .ref ql])), (ql, .inr (1, [.ref qf, .ref qb, .int ln, .int sr])), (qf, .inl (cA, 3, .inl fv)), (qb, .inl (cA, 3, .inl bv))] H := hP
  have hD : va_D A [(t0, .inr (2, [.ref qs, .ref ql, .ref a1, .ref a2, .ref ql])), (ql, .inr (1, [.ref qf, .ref qb, .int ln, .int sr])), (qf, .inl (cA, 3, .inl fv)), (qb, .inl (cA, 3, .inl bv))] := hD
  refine lv_if_eq (tgt := 29) hx hb dX3_tick_11 (by decide) (fun c_11 => ?_) (fun c_11 => ?_)
  · refine lv_iconst (v := 0) hx hb dX3_tick_29 (by decide) ?_
    have hP9 := hP.sub (ws' := [(t0, .inr (2, [.ref qs, .ref ql, .ref a1, .ref a2, .ref ql])), (ql, .inr (1, [.ref qf, .ref qb, .int ln, .int sr])), (qf, .inl (cA, 3, .inl fv)), (qb, .inl (cA, 3, .inl bv))]) [0, 1, 2, 3] rfl
    have hD9 := hD.sub (ws' := [(t0, .inr (2, [.ref qs, .ref ql, .ref a1, .ref a2, .ref ql])), (ql, .inr (1, [.ref qf, .ref qb, .int ln, .int sr])), (qf, .inl (cA, 3, .inl fv)), (qb, .inl (cA, 3, .inl bv))]) [0, 1, 2, 3] (by decide) rfl
    exact W.iret (v := 0) hx hb hr (fun t9 ht9 hW9 => ⟨⟨0, (), rfl, (by unfold tk_l; rw [if_neg (fun h => hw_1.f c_11 h.1)]), by rw [ht9]; exact hP9, hD9⟩, hS.F ht9⟩) hS.2.2 dX3_tick_30
  · refine lv_iload_n hx hb dX3_tick_14 rfl (lv_at hl 1 rfl) ?_
    refine lv_if_lt (tgt := 29) hx hb dX3_tick_15 (by decide) (fun c_15 => ?_) (fun c_15 => ?_)
    · refine lv_iconst (v := 0) hx hb dX3_tick_29 (by decide) ?_
      have hP9 := hP.sub (ws' := [(t0, .inr (2, [.ref qs, .ref ql, .ref a1, .ref a2, .ref ql])), (ql, .inr (1, [.ref qf, .ref qb, .int ln, .int sr])), (qf, .inl (cA, 3, .inl fv)), (qb, .inl (cA, 3, .inl bv))]) [0, 1, 2, 3] rfl
      have hD9 := hD.sub (ws' := [(t0, .inr (2, [.ref qs, .ref ql, .ref a1, .ref a2, .ref ql])), (ql, .inr (1, [.ref qf, .ref qb, .int ln, .int sr])), (qf, .inl (cA, 3, .inl fv)), (qb, .inl (cA, 3, .inl bv))]) [0, 1, 2, 3] (by decide) rfl
      exact W.iret (v := 0) hx hb hr (fun t9 ht9 hW9 => ⟨⟨0, (), rfl, (by unfold tk_l; rw [if_neg (fun h => absurd h.2.1 (Int32.not_le.mpr c_15))]), by rw [ht9]; exact hP9, hD9⟩, hS.F ht9⟩) hS.2.2 dX3_tick_30
    · refine lv_iload_n hx hb dX3_tick_18 rfl (lv_at hl 1 rfl) ?_
      refine lv_aload_n hx hb dX3_tick_19 rfl (lv_at hl 0 rfl) ?_
      refine va_get (D := (dC, dI)) (ci := 2) (v := .ref ql) (C := RX3) (T := TX3) (N := 5) hx hb hts hiX3 hown hK hP 0 rfl rfl 4 (by decide) (hts (.fieldLink RX3 30 "TickWalks" "latest" "LTickWalks$Walk;") (List.mem_of_getElem? (l := wsX3_tick) (i := 1) rfl)) (fun _ h9 => h9) rfl dX3_tick_20 ?_
      refine ct_calli (va_runU (As := []) (rest := [.int k]) ⟨hx, hb, hml, hown, hts⟩ (li_length l dC dI cA cB H.size ql qf qb ln sr ) (va_cwA 0 hts gX3_tick_X1_length_u66X1 rfl rfl rfl hN.2.2.2.2.2.2.2.2.2.1 (by decide +kernel) ⟨Nat.le_of_ble_eq_true rfl, Nat.le_of_ble_eq_true rfl⟩) ⟨ct_blind, va_recv hK hP (ci := 1) (q0 := 1) rfl rfl, ct_pre hP hD hK hZ hN hS hA [1] rfl (by decide)⟩ rfl rfl hl.1 rfl (lv_room (Nat.le_of_ble_eq_true rfl)) dX3_tick_23 ⟨Nat.le_of_ble_eq_true rfl, Nat.le_of_ble_eq_true rfl⟩) hP hD hS hA [1] [0, 2, 3] rfl (wr := [(t0, .inr (2, [.ref qs, .ref ql, .ref a1, .ref a2, .ref ql])), (qf, .inl (cA, 3, .inl fv)), (qb, .inl (cA, 3, .inl bv))]) rfl (by decide) (by decide) (fun r_2 u9 H locs hw_2 hP hD hS => ?_)
      have hw_2 : r_2 = ln := hw_2
      have hP : va_P (dC, dI) vwCl [(t0, .inr (2, [.ref qs, .ref ql, .ref a1, .ref a2, .ref ql])), (qf, .inl (cA, 3, .inl fv)), (qb, .inl (cA, 3, .inl bv)), (ql, .inr (1, [.ref qf, .ref qb, .int ln, .int sr]))] H := hP
      have hD : va_D A [(t0, .inr (2, [.ref qs, .ref ql, .ref a1, .ref a2, .ref ql])), (qf, .inl (cA, 3, .inl fv)), (qb, .inl (cA, 3, .inl bv)), (ql, .inr (1, [.ref qf, .ref qb, .int ln, .int sr]))] := hD
      refine lv_icmp_le (tgt := 31) hx hb dX3_tick_26 (by decide) (fun c_26 => ?_) (fun c_26 => ?_)
      · have hok : (0 ≤ ax ∧ ax < 3) ∧ 0 ≤ k ∧ k ≤ ln := ⟨hw_1.t c_11, Int32.not_lt.mp c_15, by rw [← hw_2]; exact c_26⟩
        obtain ⟨j, hj, eax⟩ := ax_in hok.1
        refine lv_aload_n hx hb dX3_tick_31 rfl (lv_at hl 0 rfl) ?_
        refine va_get (D := (dC, dI)) (ci := 2) (v := .ref ql) (C := RX3) (T := TX3) (N := 5) hx hb hts hiX3 hown hK hP 0 rfl rfl 4 (by decide) (hts (.fieldLink RX3 30 "TickWalks" "latest" "LTickWalks$Walk;") (List.mem_of_getElem? (l := wsX3_tick) (i := 1) rfl)) (fun _ h9 => h9) rfl dX3_tick_32 ?_
        refine lv_iload_n hx hb dX3_tick_35 rfl (lv_at hl 1 rfl) ?_
        refine lv_iload_n hx hb dX3_tick_36 rfl (lv_at hl 2 rfl) ?_
        refine ct_topi (y := nI j) eax ?_
        refine ct_calli (va_runU (As := [.int k, .int (nI j)]) (rest := []) ⟨hx, hb, hml, hown, hts⟩ (li_place l dC dI cA cB H.size ql qf qb ln sr fv bv k j hj) (va_cwA 2 hts gX3_tick_X1_placeBehind_u69X1 rfl rfl rfl hN.2.2.2.2.2.2.2.2.2.2.1 (by decide +kernel) ⟨Nat.le_of_ble_eq_true rfl, Nat.le_of_ble_eq_true rfl⟩) ⟨ct_blind, va_recv hK hP (ci := 1) (q0 := 3) rfl rfl, ct_pre hP hD hK hZ hN hS hA [3, 1, 2] rfl (by decide)⟩ rfl rfl hl.1 rfl (lv_room (Nat.le_of_ble_eq_true rfl)) dX3_tick_37 ⟨Nat.le_of_ble_eq_true rfl, Nat.le_of_ble_eq_true rfl⟩) hP hD hS hA [3, 1, 2] [0] rfl (wr := [(t0, .inr (2, [.ref qs, .ref ql, .ref a1, .ref a2, .ref ql]))]) rfl (by decide) (by decide) (fun r_3 u9 H locs hw_3 hP hD hS => ?_)
        have hw_3 : r_3 = ln_p (fv j) (bv j) ln k := hw_3
        have hP : va_P (dC, dI) vwCl [(t0, .inr (2, [.ref qs, .ref ql, .ref a1, .ref a2, .ref ql])), (ql, .inr (1, [.ref qf, .ref qb, .int ln, .int sr])), (qf, .inl (cA, 3, .inl fv)), (qb, .inl (cA, 3, .inl bv))] H := hP
        have hD : va_D A [(t0, .inr (2, [.ref qs, .ref ql, .ref a1, .ref a2, .ref ql])), (ql, .inr (1, [.ref qf, .ref qb, .int ln, .int sr])), (qf, .inl (cA, 3, .inl fv)), (qb, .inl (cA, 3, .inl bv))] := hD
        have hP9 := hP.sub (ws' := [(t0, .inr (2, [.ref qs, .ref ql, .ref a1, .ref a2, .ref ql])), (ql, .inr (1, [.ref qf, .ref qb, .int ln, .int sr])), (qf, .inl (cA, 3, .inl fv)), (qb, .inl (cA, 3, .inl bv))]) [0, 1, 2, 3] rfl
        have hD9 := hD.sub (ws' := [(t0, .inr (2, [.ref qs, .ref ql, .ref a1, .ref a2, .ref ql])), (ql, .inr (1, [.ref qf, .ref qb, .int ln, .int sr])), (qf, .inl (cA, 3, .inl fv)), (qb, .inl (cA, 3, .inl bv))]) [0, 1, 2, 3] (by decide) rfl
        exact W.iret (v := r_3) hx hb hr (fun t9 ht9 hW9 => ⟨⟨r_3, (), rfl, (by unfold tk_l; rw [if_pos hok, eax, nI_clamp (by omega)]; exact hw_3), by rw [ht9]; exact hP9, hD9⟩, hS.F ht9⟩) hS.2.2 dX3_tick_40
      · refine lv_iconst (v := 0) hx hb dX3_tick_29 (by decide) ?_
        have hP9 := hP.sub (ws' := [(t0, .inr (2, [.ref qs, .ref ql, .ref a1, .ref a2, .ref ql])), (ql, .inr (1, [.ref qf, .ref qb, .int ln, .int sr])), (qf, .inl (cA, 3, .inl fv)), (qb, .inl (cA, 3, .inl bv))]) [0, 3, 1, 2] rfl
        have hD9 := hD.sub (ws' := [(t0, .inr (2, [.ref qs, .ref ql, .ref a1, .ref a2, .ref ql])), (ql, .inr (1, [.ref qf, .ref qb, .int ln, .int sr])), (qf, .inl (cA, 3, .inl fv)), (qb, .inl (cA, 3, .inl bv))]) [0, 3, 1, 2] (by decide) rfl
        exact W.iret (v := 0) hx hb hr (fun t9 ht9 hW9 => ⟨⟨0, (), rfl, (by unfold tk_l; rw [if_neg (fun h => c_26 (by rw [hw_2]; exact h.2.2))]), by rw [ht9]; exact hP9, hD9⟩, hS.F ht9⟩) hS.2.2 dX3_tick_30
set_option maxHeartbeats 4000000 in
set_option maxRecDepth 100000 in
/-- TickWalks.tick, an arc -/
theorem tw_tick_a (l : Launch) (dC : Nat → ClassId) (dI : Nat → Nat → Nat) (cA cB : ClassId) (sz : Nat) (t0 : Nat) (qs : Nat) (ql : Nat) (a1 : Nat) (a2 : Nat) (qx1 : Nat) (qy1 : Nat) (ht1 : Int32) (cx1 : Int32) (cy1 : Int32) (lf1 : Int32) (sq1 : Int64) (ln1 : Int32) (of1 : Int32) (sr1 : Int32) (fx1 : Int32) (fy1 : Int32) (mx1 : Nat → Int32) (my1 : Nat → Int32) (N : Nat) (x0 : Int32) (y0 : Int32) (k : Int32) (ax : Int32) (hN3 : ln1 = nI N ∧ N ≤ 40000) (hM : ob_M lf1 sq1 cx1 cy1 (x0, y0) mx1 my1 N) : Met l yX3_tick wsX3_tick ({ frames := 4, cells := 0, slots := 0, locals := 115 }) (va_Pc [.ref t0, .int k, .int ax] (ct_P dC dI cA cB sz [(t0, .inr (2, [.ref qs, .ref ql, .ref a1, .ref a2, .ref a1])), (a1, .inr (0, [.ref qx1, .ref qy1, .int ht1, .int cx1, .int cy1, .int lf1, .long sq1, .int ln1, .int of1, .int sr1, .int fx1, .int fy1])), (qx1, .inl (cA, 401, .inl mx1)), (qy1, .inl (cA, 401, .inl my1))])) (va_Qi (fun (r : Int32) (u : Int32 × Int32) => r = tk_a lf1 sq1 cx1 cy1 (x0, y0) ht1 ln1 k ax) (fun (u : Int32 × Int32) => ct_B dC dI (va_A [(t0, .inr (2, [.ref qs, .ref ql, .ref a1, .ref a2, .ref a1])), (a1, .inr (0, [.ref qx1, .ref qy1, .int ht1, .int cx1, .int cy1, .int lf1, .long sq1, .int ln1, .int of1, .int sr1, .int fx1, .int fy1])), (qx1, .inl (cA, 401, .inl mx1)), (qy1, .inl (cA, 401, .inl my1))] sz) [(t0, .inr (2, [.ref qs, .ref ql, .ref a1, .ref a2, .ref a1])), (a1, .inr (0, [.ref qx1, .ref qy1, .int ht1, .int cx1, .int cy1, .int lf1, .long sq1, .int ln1, .int of1, .int sr1, .int u.1, .int u.2])), (qx1, .inl (cA, 401, .inl mx1)), (qy1, .inl (cA, 401, .inl my1))]) (va_A [(t0, .inr (2, [.ref qs, .ref ql, .ref a1, .ref a2, .ref a1])), (a1, .inr (0, [.ref qx1, .ref qy1, .int ht1, .int cx1, .int cy1, .int lf1, .long sq1, .int ln1, .int of1, .int sr1, .int fx1, .int fy1])), (qx1, .inl (cA, 401, .inl mx1)), (qy1, .inl (cA, 401, .inl my1))] sz)) 0 0 (va_A [(t0, .inr (2, [.ref qs, .ref ql, .ref a1, .ref a2, .ref a1])), (a1, .inr (0, [.ref qx1, .ref qy1, .int ht1, .int cx1, .int cy1, .int lf1, .long sq1, .int ln1, .int of1, .int sr1, .int fx1, .int fy1])), (qx1, .inl (cA, 401, .inl mx1)), (qy1, .inl (cA, 401, .inl my1))] sz) := by
  refine Met.ofW (cc := cX3_tick) (maxL := 3) (ret := (some .int)) (by decide +kernel) rfl ?_
  intro p e s m args below meth c s₁ B hml hv
  obtain ⟨rfl, hsz, hP, hK, hD0, hZ, hN⟩ := hv
  have hx := B.exec
  have hb := B.bytes
  have hr := B.returns
  have hts := atoms_spec (ws := wsX3_tick) B.pre
  have hown : s.vm.findClass RX3 = some m.cls := findClass_of_methodNamed B.named
  have hlocks := B.notSynchronized
  have hiX3 : ∀ w ∈ u_ws RX3 TX3 5, w ∈ wsX3_tick := by decide +kernel
  subst hsz
  have hD := hD0.self (sz := s.heap.size)
  generalize hAe : va_A [(t0, .inr (2, [.ref qs, .ref ql, .ref a1, .ref a2, .ref a1])), (a1, .inr (0, [.ref qx1, .ref qy1, .int ht1, .int cx1, .int cy1, .int lf1, .long sq1, .int ln1, .int of1, .int sr1, .int fx1, .int fy1])), (qx1, .inl (cA, 401, .inl mx1)), (qy1, .inl (cA, 401, .inl my1))] s.heap.size = A at hD hZ ⊢
  have hA : ∀ q : Nat, s.heap.size ≤ q → A q := fun q h => by rw [← hAe]; exact Or.inr h
  have hl := lv_entry ([.ref t0, .int k, .int ax]) (n := 3) (Nat.le_of_ble_eq_true rfl)
  rw [lg_entry_eq]
  generalize (lg_sl ([.ref t0, .int k, .int ax]) ++ List.replicate (3 - (lg_sl ([.ref t0, .int k, .int ax])).length) Slot.unset).toArray = ls at hl ⊢
  have hl : lv_has ls 3 [(0, .ref t0), (1, .int k), (2, .int ax)] := hl
  generalize hHe : s.heap = H at hP ⊢
  have hS : va_S A s.heap H [] := by rw [hHe]; exact va_S.rf
  generalize ([] : List Loc) = locs at hS ⊢
  refine lv_aload_n hx hb dX3_tick_0 rfl (lv_at hl 0 rfl) ?_
  refine va_get (D := (dC, dI)) (ci := 2) (v := .ref a1) (C := RX3) (T := TX3) (N := 5) hx hb hts hiX3 hown hK hP 0 rfl rfl 4 (by decide) (hts (.fieldLink RX3 30 "TickWalks" "latest" "LTickWalks$Walk;") (List.mem_of_getElem? (l := wsX3_tick) (i := 1) rfl)) (fun _ h9 => h9) rfl dX3_tick_1 ?_
  refine lv_ifnull hx hb dX3_tick_4 ?_
  refine lv_iload_n hx hb dX3_tick_7 rfl (lv_at hl 2 rfl) ?_
  refine ct_calli (va_runS (As := [.int ax]) (rest := []) ⟨hx, hb, hml, hown, hts⟩ (ct_isAxis l dC dI cA cB H.size ax ) (va_cwS 1 hts gX3_tick_X3_isAxis rfl rfl rfl (by decide +kernel) ⟨Nat.le_of_ble_eq_true rfl, Nat.le_of_ble_eq_true rfl⟩) ⟨ct_blind, ct_pre hP hD hK hZ hN hS hA [] rfl (by decide)⟩ rfl rfl hl.1 rfl (lv_room (Nat.le_of_ble_eq_true rfl)) dX3_tick_8 ⟨Nat.le_of_ble_eq_true rfl, Nat.le_of_ble_eq_true rfl⟩) hP hD hS hA [] [0, 1, 2, 3] rfl (wr := [(t0, .inr (2, [.ref qs, .ref ql, .ref a1, .ref a2, .ref a1])), (a1, .inr (0, [.ref qx1, .ref qy1, .int ht1, .int cx1, .int cy1, .int lf1, .long sq1, .int ln1, .int of1, .int sr1, .int fx1, .int fy1])), (qx1, .inl (cA, 401, .inl mx1)), (qy1, .inl (cA, 401, .inl my1))]) rfl (by decide) (by decide) (fun r_1 u9 H locs hw_1 hP hD hS => ?_)
  have hw_1 : bo_z r_1 (0 ≤ ax ∧ ax < 3) := hw_1
  have hP : va_P (dC, dI) vwCl [(t0, .inr (2, [.ref qs, .ref ql, .ref a1, .ref a2, .ref a1])), (a1, .inr (0, [.ref qx1, .ref qy1, .int ht1, .int cx1, .int cy1, .int lf1, .long sq1, .int ln1, .int of1, .int sr1, .int fx1, .int fy1])), (qx1, .inl (cA, 401, .inl mx1)), (qy1, .inl (cA, 401, .inl my1))] H := hP
  have hD : va_D A [(t0, .inr (2, [.ref qs, .ref ql, .ref a1, .ref a2, .ref a1])), (a1, .inr (0, [.ref qx1, .ref qy1, .int ht1, .int cx1, .int cy1, .int lf1, .long sq1, .int ln1, .int of1, .int sr1, .int fx1, .int fy1])), (qx1, .inl (cA, 401, .inl mx1)), (qy1, .inl (cA, 401, .inl my1))] := hD
  refine lv_if_eq (tgt := 29) hx hb dX3_tick_11 (by decide) (fun c_11 => ?_) (fun c_11 => ?_)
  · refine lv_iconst (v := 0) hx hb dX3_tick_29 (by decide) ?_
    have hP9 := hP.sub (ws' := [(t0, .inr (2, [.ref qs, .ref ql, .ref a1, .ref a2, .ref a1])), (a1, .inr (0, [.ref qx1, .ref qy1, .int ht1, .int cx1, .int cy1, .int lf1, .long sq1, .int ln1, .int of1, .int sr1, .int fx1, .int fy1])), (qx1, .inl (cA, 401, .inl mx1)), (qy1, .inl (cA, 401, .inl my1))]) [0, 1, 2, 3] rfl
    have hD9 := hD.sub (ws' := [(t0, .inr (2, [.ref qs, .ref ql, .ref a1, .ref a2, .ref a1])), (a1, .inr (0, [.ref qx1, .ref qy1, .int ht1, .int cx1, .int cy1, .int lf1, .long sq1, .int ln1, .int of1, .int sr1, .int fx1, .int fy1])), (qx1, .inl (cA, 401, .inl mx1)), (qy1, .inl (cA, 401, .inl my1))]) [0, 1, 2, 3] (by decide) rfl
    exact W.iret (v := 0) hx hb hr (fun t9 ht9 hW9 => ⟨⟨0, (fx1, fy1), rfl, (by unfold tk_a; rw [if_neg (fun h => hw_1.f c_11 h.1)]), by rw [ht9]; exact hP9, hD9⟩, hS.F ht9⟩) hS.2.2 dX3_tick_30
  · refine lv_iload_n hx hb dX3_tick_14 rfl (lv_at hl 1 rfl) ?_
    refine lv_if_lt (tgt := 29) hx hb dX3_tick_15 (by decide) (fun c_15 => ?_) (fun c_15 => ?_)
    · refine lv_iconst (v := 0) hx hb dX3_tick_29 (by decide) ?_
      have hP9 := hP.sub (ws' := [(t0, .inr (2, [.ref qs, .ref ql, .ref a1, .ref a2, .ref a1])), (a1, .inr (0, [.ref qx1, .ref qy1, .int ht1, .int cx1, .int cy1, .int lf1, .long sq1, .int ln1, .int of1, .int sr1, .int fx1, .int fy1])), (qx1, .inl (cA, 401, .inl mx1)), (qy1, .inl (cA, 401, .inl my1))]) [0, 1, 2, 3] rfl
      have hD9 := hD.sub (ws' := [(t0, .inr (2, [.ref qs, .ref ql, .ref a1, .ref a2, .ref a1])), (a1, .inr (0, [.ref qx1, .ref qy1, .int ht1, .int cx1, .int cy1, .int lf1, .long sq1, .int ln1, .int of1, .int sr1, .int fx1, .int fy1])), (qx1, .inl (cA, 401, .inl mx1)), (qy1, .inl (cA, 401, .inl my1))]) [0, 1, 2, 3] (by decide) rfl
      exact W.iret (v := 0) hx hb hr (fun t9 ht9 hW9 => ⟨⟨0, (fx1, fy1), rfl, (by unfold tk_a; rw [if_neg (fun h => absurd h.2.1 (Int32.not_le.mpr c_15))]), by rw [ht9]; exact hP9, hD9⟩, hS.F ht9⟩) hS.2.2 dX3_tick_30
    · refine lv_iload_n hx hb dX3_tick_18 rfl (lv_at hl 1 rfl) ?_
      refine lv_aload_n hx hb dX3_tick_19 rfl (lv_at hl 0 rfl) ?_
      refine va_get (D := (dC, dI)) (ci := 2) (v := .ref a1) (C := RX3) (T := TX3) (N := 5) hx hb hts hiX3 hown hK hP 0 rfl rfl 4 (by decide) (hts (.fieldLink RX3 30 "TickWalks" "latest" "LTickWalks$Walk;") (List.mem_of_getElem? (l := wsX3_tick) (i := 1) rfl)) (fun _ h9 => h9) rfl dX3_tick_20 ?_
      refine ct_calli (va_runU (As := []) (rest := [.int k]) ⟨hx, hb, hml, hown, hts⟩ (ar_length l dC dI cA cB H.size a1 qx1 qy1 ht1 cx1 cy1 lf1 sq1 ln1 of1 sr1 fx1 fy1 ) (va_cwA 0 hts gX3_tick_X0_length_u66X0 rfl rfl rfl hN.2.2.2.2.2.2.2.2.2.1 (by decide +kernel) ⟨Nat.le_of_ble_eq_true rfl, Nat.le_of_ble_eq_true rfl⟩) ⟨ct_blind, va_recv hK hP (ci := 0) (q0 := 1) rfl rfl, ct_pre hP hD hK hZ hN hS hA [1] rfl (by decide)⟩ rfl rfl hl.1 rfl (lv_room (Nat.le_of_ble_eq_true rfl)) dX3_tick_23 ⟨Nat.le_of_ble_eq_true rfl, Nat.le_of_ble_eq_true rfl⟩) hP hD hS hA [1] [0, 2, 3] rfl (wr := [(t0, .inr (2, [.ref qs, .ref ql, .ref a1, .ref a2, .ref a1])), (qx1, .inl (cA, 401, .inl mx1)), (qy1, .inl (cA, 401, .inl my1))]) rfl (by decide) (by decide) (fun r_2 u9 H locs hw_2 hP hD hS => ?_)
      have hw_2 : r_2 = ln1 := hw_2
      have hP : va_P (dC, dI) vwCl [(t0, .inr (2, [.ref qs, .ref ql, .ref a1, .ref a2, .ref a1])), (qx1, .inl (cA, 401, .inl mx1)), (qy1, .inl (cA, 401, .inl my1)), (a1, .inr (0, [.ref qx1, .ref qy1, .int ht1, .int cx1, .int cy1, .int lf1, .long sq1, .int ln1, .int of1, .int sr1, .int fx1, .int fy1]))] H := hP
      have hD : va_D A [(t0, .inr (2, [.ref qs, .ref ql, .ref a1, .ref a2, .ref a1])), (qx1, .inl (cA, 401, .inl mx1)), (qy1, .inl (cA, 401, .inl my1)), (a1, .inr (0, [.ref qx1, .ref qy1, .int ht1, .int cx1, .int cy1, .int lf1, .long sq1, .int ln1, .int of1, .int sr1, .int fx1, .int fy1]))] := hD
      refine lv_icmp_le (tgt := 31) hx hb dX3_tick_26 (by decide) (fun c_26 => ?_) (fun c_26 => ?_)
      · have hok : (0 ≤ ax ∧ ax < 3) ∧ 0 ≤ k ∧ k ≤ ln1 := ⟨hw_1.t c_11, Int32.not_lt.mp c_15, by rw [← hw_2]; exact c_26⟩
        obtain ⟨j, hj, ek⟩ := nI_of c_15
        have hjN : j ≤ N := by
          have h := hok.2.2
          rw [ek, hN3.1] at h
          exact (nI_leI hj (by omega)).mp h
        refine lv_aload_n hx hb dX3_tick_31 rfl (lv_at hl 0 rfl) ?_
        refine va_get (D := (dC, dI)) (ci := 2) (v := .ref a1) (C := RX3) (T := TX3) (N := 5) hx hb hts hiX3 hown hK hP 0 rfl rfl 4 (by decide) (hts (.fieldLink RX3 30 "TickWalks" "latest" "LTickWalks$Walk;") (List.mem_of_getElem? (l := wsX3_tick) (i := 1) rfl)) (fun _ h9 => h9) rfl dX3_tick_32 ?_
        refine lv_iload_n hx hb dX3_tick_35 rfl (lv_at hl 1 rfl) ?_
        refine lv_iload_n hx hb dX3_tick_36 rfl (lv_at hl 2 rfl) ?_
        refine W.eq (g2 := F0 m 37 ls [.int ax, .int (nI j), .ref a1]) (by rw [ek]) ?_
        refine ct_calli (va_runU (As := [.int (nI j), .int ax]) (rest := []) ⟨hx, hb, hml, hown, hts⟩ (ar_place l dC dI cA cB H.size a1 qx1 qy1 ht1 cx1 cy1 lf1 sq1 ln1 of1 sr1 fx1 fy1 mx1 my1 j ax N x0 y0 (⟨hjN, hN3.2⟩) hM) (va_cwA 2 hts gX3_tick_X0_placeBehind_u69X0 rfl rfl rfl hN.2.2.2.2.2.2.2.2.2.2.1 (by decide +kernel) ⟨Nat.le_of_ble_eq_true rfl, Nat.le_of_ble_eq_true rfl⟩) ⟨ct_blind, va_recv hK hP (ci := 0) (q0 := 3) rfl rfl, ct_pre hP hD hK hZ hN hS hA [3, 1, 2] rfl (by decide)⟩ rfl rfl hl.1 rfl (lv_room (Nat.le_of_ble_eq_true rfl)) dX3_tick_37 ⟨Nat.le_of_ble_eq_true rfl, Nat.le_of_ble_eq_true rfl⟩) hP hD hS hA [3, 1, 2] [0] rfl (wr := [(t0, .inr (2, [.ref qs, .ref ql, .ref a1, .ref a2, .ref a1]))]) rfl (by decide) (by decide) (fun r_3 u9 H locs hw_3 hP hD hS => ?_)
        obtain ⟨gx_3, gy_3⟩ := u9
        have hw_3 : r_3 = (if ax = 2 then ht1 else if ax = 0 then (ob_p lf1 sq1 cx1 cy1 (x0, y0) j).1 else (ob_p lf1 sq1 cx1 cy1 (x0, y0) j).2) := hw_3
        have hP : va_P (dC, dI) vwCl [(t0, .inr (2, [.ref qs, .ref ql, .ref a1, .ref a2, .ref a1])), (a1, .inr (0, [.ref qx1, .ref qy1, .int ht1, .int cx1, .int cy1, .int lf1, .long sq1, .int ln1, .int of1, .int sr1, .int gx_3, .int gy_3])), (qx1, .inl (cA, 401, .inl mx1)), (qy1, .inl (cA, 401, .inl my1))] H := hP
        have hD : va_D A [(t0, .inr (2, [.ref qs, .ref ql, .ref a1, .ref a2, .ref a1])), (a1, .inr (0, [.ref qx1, .ref qy1, .int ht1, .int cx1, .int cy1, .int lf1, .long sq1, .int ln1, .int of1, .int sr1, .int gx_3, .int gy_3])), (qx1, .inl (cA, 401, .inl mx1)), (qy1, .inl (cA, 401, .inl my1))] := hD
        have hP9 := hP.sub (ws' := [(t0, .inr (2, [.ref qs, .ref ql, .ref a1, .ref a2, .ref a1])), (a1, .inr (0, [.ref qx1, .ref qy1, .int ht1, .int cx1, .int cy1, .int lf1, .long sq1, .int ln1, .int of1, .int sr1, .int gx_3, .int gy_3])), (qx1, .inl (cA, 401, .inl mx1)), (qy1, .inl (cA, 401, .inl my1))]) [0, 1, 2, 3] rfl
        have hD9 := hD.sub (ws' := [(t0, .inr (2, [.ref qs, .ref ql, .ref a1, .ref a2, .ref a1])), (a1, .inr (0, [.ref qx1, .ref qy1, .int ht1, .int cx1, .int cy1, .int lf1, .long sq1, .int ln1, .int of1, .int sr1, .int gx_3, .int gy_3])), (qx1, .inl (cA, 401, .inl mx1)), (qy1, .inl (cA, 401, .inl my1))]) [0, 1, 2, 3] (by decide) rfl
        exact W.iret (v := r_3) hx hb hr (fun t9 ht9 hW9 => ⟨⟨r_3, (gx_3, gy_3), rfl, (by unfold tk_a; rw [if_pos hok, ek, nI_clamp hj]; exact hw_3), by rw [ht9]; exact hP9, hD9⟩, hS.F ht9⟩) hS.2.2 dX3_tick_40
      · refine lv_iconst (v := 0) hx hb dX3_tick_29 (by decide) ?_
        have hP9 := hP.sub (ws' := [(t0, .inr (2, [.ref qs, .ref ql, .ref a1, .ref a2, .ref a1])), (a1, .inr (0, [.ref qx1, .ref qy1, .int ht1, .int cx1, .int cy1, .int lf1, .long sq1, .int ln1, .int of1, .int sr1, .int fx1, .int fy1])), (qx1, .inl (cA, 401, .inl mx1)), (qy1, .inl (cA, 401, .inl my1))]) [0, 3, 1, 2] rfl
        have hD9 := hD.sub (ws' := [(t0, .inr (2, [.ref qs, .ref ql, .ref a1, .ref a2, .ref a1])), (a1, .inr (0, [.ref qx1, .ref qy1, .int ht1, .int cx1, .int cy1, .int lf1, .long sq1, .int ln1, .int of1, .int sr1, .int fx1, .int fy1])), (qx1, .inl (cA, 401, .inl mx1)), (qy1, .inl (cA, 401, .inl my1))]) [0, 3, 1, 2] (by decide) rfl
        exact W.iret (v := 0) hx hb hr (fun t9 ht9 hW9 => ⟨⟨0, (fx1, fy1), rfl, (by unfold tk_a; rw [if_neg (fun h => c_26 (by rw [hw_2]; exact h.2.2))]), by rw [ht9]; exact hP9, hD9⟩, hS.F ht9⟩) hS.2.2 dX3_tick_30
end
section
set_option maxHeartbeats 4000000 in
set_option maxRecDepth 100000 in
/-- TickWalks.<init> -/
theorem tw_init (l : Launch) (dC : Nat → ClassId) (dI : Nat → Nat → Nat) (cA cB : ClassId) (sz : Nat) (t0 : Nat) : Met l yX3_init wsX3_init ({ frames := 3, cells := 10, slots := 1641, locals := 60 }) (va_Pc [.ref t0] (ct_P dC dI cA cB sz [(t0, .inr (2, [.null, .null, .null, .null, .null]))])) (va_Qv (fun (u : Nat × Nat × Nat × Nat × Nat × Nat × Nat × Nat × Nat × Nat) => True) (fun (u : Nat × Nat × Nat × Nat × Nat × Nat × Nat × Nat × Nat × Nat) => ct_B dC dI (va_A [(t0, .inr (2, [.null, .null, .null, .null, .null]))] sz) [(t0, .inr (2, [.ref u.1, .ref u.2.1, .ref u.2.2.1, .ref u.2.2.2.1, .null])), (u.1, .inl (cA, 3, .inl (fun _ => 0))), (u.2.1, .inr (1, [.ref u.2.2.2.2.1, .ref u.2.2.2.2.2.1, .int 0, .int (-1)])), (u.2.2.2.2.1, .inl (cA, 3, .inl (fun _ => 0))), (u.2.2.2.2.2.1, .inl (cA, 3, .inl (fun _ => 0))), (u.2.2.1, .inr (0, [.ref u.2.2.2.2.2.2.1, .ref u.2.2.2.2.2.2.2.1, .int 0, .int 0, .int 0, .int 0, .long 0, .int 0, .int 0, .int 0, .int 0, .int 0])), (u.2.2.2.2.2.2.1, .inl (cA, 401, .inl (fun _ => 0))), (u.2.2.2.2.2.2.2.1, .inl (cA, 401, .inl (fun _ => 0))), (u.2.2.2.1, .inr (0, [.ref u.2.2.2.2.2.2.2.2.1, .ref u.2.2.2.2.2.2.2.2.2, .int 0, .int 0, .int 0, .int 0, .long 0, .int 0, .int 0, .int 0, .int 0, .int 0])), (u.2.2.2.2.2.2.2.2.1, .inl (cA, 401, .inl (fun _ => 0))), (u.2.2.2.2.2.2.2.2.2, .inl (cA, 401, .inl (fun _ => 0)))]) (va_A [(t0, .inr (2, [.null, .null, .null, .null, .null]))] sz)) 10 1641 (va_A [(t0, .inr (2, [.null, .null, .null, .null, .null]))] sz) := by
  refine Met.ofW (cc := cX3_init) (maxL := 1) (ret := none) (by decide +kernel) rfl ?_
  intro p e s m args below meth c s₁ B hml hv
  obtain ⟨rfl, hsz, hP, hK, hD0, hZ, hN⟩ := hv
  have hx := B.exec
  have hb := B.bytes
  have hr := B.returns
  have hts := atoms_spec (ws := wsX3_init) B.pre
  have hown : s.vm.findClass RX3 = some m.cls := findClass_of_methodNamed B.named
  have hlocks := B.notSynchronized
  have hin : meth.name = "<init>" := (name_of_methodNamed B.named B.method).1
  have hiX3 : ∀ w ∈ u_ws RX3 TX3 5, w ∈ wsX3_init := by decide +kernel
  have hiX0 : ∀ w ∈ u_ws RX0 TX0 12, w ∈ wsX3_init := by decide +kernel
  have hiX1 : ∀ w ∈ u_ws RX1 TX1 4, w ∈ wsX3_init := by decide +kernel
  subst hsz
  have hD := hD0.self (sz := s.heap.size)
  generalize hAe : va_A [(t0, .inr (2, [.null, .null, .null, .null, .null]))] s.heap.size = A at hD hZ ⊢
  have hA : ∀ q : Nat, s.heap.size ≤ q → A q := fun q h => by rw [← hAe]; exact Or.inr h
  have hl := lv_entry ([.ref t0]) (n := 1) (Nat.le_of_ble_eq_true rfl)
  rw [lg_entry_eq]
  generalize (lg_sl ([.ref t0]) ++ List.replicate (1 - (lg_sl ([.ref t0])).length) Slot.unset).toArray = ls at hl ⊢
  have hl : lv_has ls 1 [(0, .ref t0)] := hl
  generalize hHe : s.heap = H at hP ⊢
  have hS : va_S A s.heap H [] := by rw [hHe]; exact va_S.rf
  generalize ([] : List Loc) = locs at hS ⊢
  refine lv_aload_n hx hb dX3_init_0 rfl (lv_at hl 0 rfl) ?_
  refine W.objInit hx hb hown (hts (.methodLink RX3 3 objectInit) (List.mem_of_getElem? (l := wsX3_init) (i := 1) rfl)) (hts (.instanceMethod objectInit) (List.mem_of_getElem? (l := wsX3_init) (i := 2) rfl)) (hts (.code objectInit ⟨#[0xb1]⟩ 1 none) (List.mem_of_getElem? (l := wsX3_init) (i := 3) rfl)) rfl (by rw [hml]; exact hl.1) rfl dX3_init_1 (Nat.le_of_ble_eq_true rfl) (Nat.le_of_ble_eq_true rfl) ?_
  refine W.eq (g2 := F0 m 4 ls []) rfl ?_
  refine lv_aload_n hx hb dX3_init_4 rfl (lv_at hl 0 rfl) ?_
  refine lv_iconst (v := 3) hx hb dX3_init_5 (by decide) ?_
  refine va_newa (atype := .int) (ty := .int) (n := 3) (N' := 3) (a0 := (3, .inl (fun _ => 0))) hx hb (hts (.arrayClass .int) (List.mem_of_getElem? (l := wsX3_init) (i := 4) rfl)) rfl hK hP hD hS hA (fun _ => rfl) (by decide) (by decide) (by decide) (Nat.le_of_ble_eq_true rfl) (Nat.le_of_ble_eq_true rfl) dX3_init_6 (fun qa_1 cA9 H hK9 hP hD hS => ?_)
  obtain rfl : cA = cA9 := ct_cA hK9 0 2 rfl rfl
  have hP : va_P (dC, dI) vwCl [(t0, .inr (2, [.null, .null, .null, .null, .null])), (qa_1, .inl (cA, 3, .inl (fun _ => 0)))] H := hP
  have hD : va_D A [(t0, .inr (2, [.null, .null, .null, .null, .null])), (qa_1, .inl (cA, 3, .inl (fun _ => 0)))] := hD
  refine va_putF (D := (dC, dI)) (ci := 2) (v := .ref qa_1) (ty := (.array .int)) (C := RX3) (T := TX3) (N := 5) hx hb hts hiX3 tyX3 tyX3_ok nmX3 hown hK hP hD hS 0 rfl rfl 0 (by decide) (hts (.fieldLink RX3 9 "TickWalks" "stand" "[I") (List.mem_of_getElem? (l := wsX3_init) (i := 5) rfl)) (fun _ h9 => h9) rfl hin rfl (by decide +kernel) rfl rfl (Nat.le_of_ble_eq_true rfl) dX3_init_8 (fun H locs hP hD hS => ?_)
  have hP : va_P (dC, dI) vwCl [(t0, .inr (2, [.ref qa_1, .null, .null, .null, .null])), (qa_1, .inl (cA, 3, .inl (fun _ => 0)))] H := hP
  have hD : va_D A [(t0, .inr (2, [.ref qa_1, .null, .null, .null, .null])), (qa_1, .inl (cA, 3, .inl (fun _ => 0)))] := hD
  refine lv_aload_n hx hb dX3_init_11 rfl (lv_at hl 0 rfl) ?_
  refine va_new (ci := 1) (fs := [.null, .null, .int 0, .int 0]) (C := RX1) (T := TX1) (N := 4) hx hb hts hiX1 tyX1 tyX1_ok hown (hts (.classLink RX3 13 RX1) (List.mem_of_getElem? (l := wsX3_init) (i := 6) rfl)) (hts (.instantiable RX1 4) (List.mem_of_getElem? (l := wsX3_init) (i := 7) rfl)) (hts (.initialized RX1) (List.mem_of_getElem? (l := wsX3_init) (i := 8) rfl)) hK hP hD hS hA rfl (by decide) (Nat.le_of_ble_eq_true rfl) (Nat.le_of_ble_eq_true rfl) dX3_init_12 (fun qn_2 H hP hD hS => ?_)
  have hP : va_P (dC, dI) vwCl [(t0, .inr (2, [.ref qa_1, .null, .null, .null, .null])), (qa_1, .inl (cA, 3, .inl (fun _ => 0))), (qn_2, .inr (1, [.null, .null, .int 0, .int 0]))] H := hP
  have hD : va_D A [(t0, .inr (2, [.ref qa_1, .null, .null, .null, .null])), (qa_1, .inl (cA, 3, .inl (fun _ => 0))), (qn_2, .inr (1, [.null, .null, .int 0, .int 0]))] := hD
  refine lv_dup hx hb dX3_init_15 rfl ?_
  refine ct_callv (va_runIN (As := []) (rest := [.ref qn_2, .ref t0]) ⟨hx, hb, hml, hown, hts⟩ (li_init l dC dI cA cB H.size qn_2 ) ⟨va_cnB (host := "TickWalks") 0 hts gX3_init_X1_init_n15 rfl rfl rfl hN.1 (hts (.initialized RX1) (List.mem_of_getElem? (l := wsX3_init) (i := 8) rfl)) (by decide +kernel) ⟨Nat.le_of_ble_eq_true rfl, Nat.le_of_ble_eq_true rfl⟩, rfl, (hts (.instanceMethod yX1_init) (List.mem_of_getElem? (l := wsX3_init) (i := 16) rfl))⟩ ⟨ct_blind, ct_pre hP hD hK hZ hN hS hA [2] rfl (by decide)⟩ rfl rfl hl.1 rfl (lv_room (Nat.le_of_ble_eq_true rfl)) dX3_init_16 ⟨Nat.le_of_ble_eq_true rfl, Nat.le_of_ble_eq_true rfl⟩) hP hD hS hA [2] [0, 1] rfl (wr := [(t0, .inr (2, [.ref qa_1, .null, .null, .null, .null])), (qa_1, .inl (cA, 3, .inl (fun _ => 0)))]) rfl (by decide) (by decide) (fun u9 H locs hw_3 hP hD hS => ?_)
  obtain ⟨qf_3, qb_3⟩ := u9
  have hw_3 : True := hw_3
  have hP : va_P (dC, dI) vwCl [(t0, .inr (2, [.ref qa_1, .null, .null, .null, .null])), (qa_1, .inl (cA, 3, .inl (fun _ => 0))), (qn_2, .inr (1, [.ref qf_3, .ref qb_3, .int 0, .int (-1)])), (qf_3, .inl (cA, 3, .inl (fun _ => 0))), (qb_3, .inl (cA, 3, .inl (fun _ => 0)))] H := hP
  have hD : va_D A [(t0, .inr (2, [.ref qa_1, .null, .null, .null, .null])), (qa_1, .inl (cA, 3, .inl (fun _ => 0))), (qn_2, .inr (1, [.ref qf_3, .ref qb_3, .int 0, .int (-1)])), (qf_3, .inl (cA, 3, .inl (fun _ => 0))), (qb_3, .inl (cA, 3, .inl (fun _ => 0)))] := hD
  refine va_putF (D := (dC, dI)) (ci := 2) (v := .ref qn_2) (ty := (.object "TickWalks$Line")) (C := RX3) (T := TX3) (N := 5) hx hb hts hiX3 tyX3 tyX3_ok nmX3 hown hK hP hD hS 0 rfl rfl 1 (by decide) (hts (.fieldLink RX3 16 "TickWalks" "latestLine" "LTickWalks$Line;") (List.mem_of_getElem? (l := wsX3_init) (i := 9) rfl)) (fun _ h9 => h9) rfl hin rfl (by decide +kernel) rfl rfl (Nat.le_of_ble_eq_true rfl) dX3_init_19 (fun H locs hP hD hS => ?_)
  have hP : va_P (dC, dI) vwCl [(t0, .inr (2, [.ref qa_1, .ref qn_2, .null, .null, .null])), (qa_1, .inl (cA, 3, .inl (fun _ => 0))), (qn_2, .inr (1, [.ref qf_3, .ref qb_3, .int 0, .int (-1)])), (qf_3, .inl (cA, 3, .inl (fun _ => 0))), (qb_3, .inl (cA, 3, .inl (fun _ => 0)))] H := hP
  have hD : va_D A [(t0, .inr (2, [.ref qa_1, .ref qn_2, .null, .null, .null])), (qa_1, .inl (cA, 3, .inl (fun _ => 0))), (qn_2, .inr (1, [.ref qf_3, .ref qb_3, .int 0, .int (-1)])), (qf_3, .inl (cA, 3, .inl (fun _ => 0))), (qb_3, .inl (cA, 3, .inl (fun _ => 0)))] := hD
  refine lv_aload_n hx hb dX3_init_22 rfl (lv_at hl 0 rfl) ?_
  refine va_new (ci := 0) (fs := [.null, .null, .int 0, .int 0, .int 0, .int 0, .long 0, .int 0, .int 0, .int 0, .int 0, .int 0]) (C := RX0) (T := TX0) (N := 12) hx hb hts hiX0 tyX0 tyX0_ok hown (hts (.classLink RX3 20 RX0) (List.mem_of_getElem? (l := wsX3_init) (i := 10) rfl)) (hts (.instantiable RX0 12) (List.mem_of_getElem? (l := wsX3_init) (i := 11) rfl)) (hts (.initialized RX0) (List.mem_of_getElem? (l := wsX3_init) (i := 12) rfl)) hK hP hD hS hA rfl (by decide) (Nat.le_of_ble_eq_true rfl) (Nat.le_of_ble_eq_true rfl) dX3_init_23 (fun qn_4 H hP hD hS => ?_)
  have hP : va_P (dC, dI) vwCl [(t0, .inr (2, [.ref qa_1, .ref qn_2, .null, .null, .null])), (qa_1, .inl (cA, 3, .inl (fun _ => 0))), (qn_2, .inr (1, [.ref qf_3, .ref qb_3, .int 0, .int (-1)])), (qf_3, .inl (cA, 3, .inl (fun _ => 0))), (qb_3, .inl (cA, 3, .inl (fun _ => 0))), (qn_4, .inr (0, [.null, .null, .int 0, .int 0, .int 0, .int 0, .long 0, .int 0, .int 0, .int 0, .int 0, .int 0]))] H := hP
  have hD : va_D A [(t0, .inr (2, [.ref qa_1, .ref qn_2, .null, .null, .null])), (qa_1, .inl (cA, 3, .inl (fun _ => 0))), (qn_2, .inr (1, [.ref qf_3, .ref qb_3, .int 0, .int (-1)])), (qf_3, .inl (cA, 3, .inl (fun _ => 0))), (qb_3, .inl (cA, 3, .inl (fun _ => 0))), (qn_4, .inr (0, [.null, .null, .int 0, .int 0, .int 0, .int 0, .long 0, .int 0, .int 0, .int 0, .int 0, .int 0]))] := hD
  refine lv_dup hx hb dX3_init_26 rfl ?_
  refine ct_callv (va_runIN (As := []) (rest := [.ref qn_4, .ref t0]) ⟨hx, hb, hml, hown, hts⟩ (ar_init l dC dI cA cB H.size qn_4 ) ⟨va_cnB (host := "TickWalks") 0 hts gX3_init_X0_init_n22 rfl rfl rfl hN.2.2.1 (hts (.initialized RX0) (List.mem_of_getElem? (l := wsX3_init) (i := 12) rfl)) (by decide +kernel) ⟨Nat.le_of_ble_eq_true rfl, Nat.le_of_ble_eq_true rfl⟩, rfl, (hts (.instanceMethod yX0_init) (List.mem_of_getElem? (l := wsX3_init) (i := 26) rfl))⟩ ⟨ct_blind, ct_pre hP hD hK hZ hN hS hA [5] rfl (by decide)⟩ rfl rfl hl.1 rfl (lv_room (Nat.le_of_ble_eq_true rfl)) dX3_init_27 ⟨Nat.le_of_ble_eq_true rfl, Nat.le_of_ble_eq_true rfl⟩) hP hD hS hA [5] [0, 1, 2, 3, 4] rfl (wr := [(t0, .inr (2, [.ref qa_1, .ref qn_2, .null, .null, .null])), (qa_1, .inl (cA, 3, .inl (fun _ => 0))), (qn_2, .inr (1, [.ref qf_3, .ref qb_3, .int 0, .int (-1)])), (qf_3, .inl (cA, 3, .inl (fun _ => 0))), (qb_3, .inl (cA, 3, .inl (fun _ => 0)))]) rfl (by decide) (by decide) (fun u9 H locs hw_5 hP hD hS => ?_)
  obtain ⟨qx_5, qy_5⟩ := u9
  have hw_5 : True := hw_5
  have hP : va_P (dC, dI) vwCl [(t0, .inr (2, [.ref qa_1, .ref qn_2, .null, .null, .null])), (qa_1, .inl (cA, 3, .inl (fun _ => 0))), (qn_2, .inr (1, [.ref qf_3, .ref qb_3, .int 0, .int (-1)])), (qf_3, .inl (cA, 3, .inl (fun _ => 0))), (qb_3, .inl (cA, 3, .inl (fun _ => 0))), (qn_4, .inr (0, [.ref qx_5, .ref qy_5, .int 0, .int 0, .int 0, .int 0, .long 0, .int 0, .int 0, .int 0, .int 0, .int 0])), (qx_5, .inl (cA, 401, .inl (fun _ => 0))), (qy_5, .inl (cA, 401, .inl (fun _ => 0)))] H := hP
  have hD : va_D A [(t0, .inr (2, [.ref qa_1, .ref qn_2, .null, .null, .null])), (qa_1, .inl (cA, 3, .inl (fun _ => 0))), (qn_2, .inr (1, [.ref qf_3, .ref qb_3, .int 0, .int (-1)])), (qf_3, .inl (cA, 3, .inl (fun _ => 0))), (qb_3, .inl (cA, 3, .inl (fun _ => 0))), (qn_4, .inr (0, [.ref qx_5, .ref qy_5, .int 0, .int 0, .int 0, .int 0, .long 0, .int 0, .int 0, .int 0, .int 0, .int 0])), (qx_5, .inl (cA, 401, .inl (fun _ => 0))), (qy_5, .inl (cA, 401, .inl (fun _ => 0)))] := hD
  refine va_put (D := (dC, dI)) (ci := 2) (v := .ref qn_4) (ty := (.object "TickWalks$Arc")) (C := RX3) (T := TX3) (N := 5) hx hb hts hiX3 tyX3 tyX3_ok nmX3 hown hK hP hD hS 0 rfl rfl 2 (by decide) (hts (.fieldLink RX3 23 "TickWalks" "latestArc" "LTickWalks$Arc;") (List.mem_of_getElem? (l := wsX3_init) (i := 13) rfl)) (fun _ h9 => h9) rfl (by decide +kernel) rfl rfl (Nat.le_of_ble_eq_true rfl) dX3_init_30 (fun H locs hP hD hS => ?_)
  have hP : va_P (dC, dI) vwCl [(t0, .inr (2, [.ref qa_1, .ref qn_2, .ref qn_4, .null, .null])), (qa_1, .inl (cA, 3, .inl (fun _ => 0))), (qn_2, .inr (1, [.ref qf_3, .ref qb_3, .int 0, .int (-1)])), (qf_3, .inl (cA, 3, .inl (fun _ => 0))), (qb_3, .inl (cA, 3, .inl (fun _ => 0))), (qn_4, .inr (0, [.ref qx_5, .ref qy_5, .int 0, .int 0, .int 0, .int 0, .long 0, .int 0, .int 0, .int 0, .int 0, .int 0])), (qx_5, .inl (cA, 401, .inl (fun _ => 0))), (qy_5, .inl (cA, 401, .inl (fun _ => 0)))] H := hP
  have hD : va_D A [(t0, .inr (2, [.ref qa_1, .ref qn_2, .ref qn_4, .null, .null])), (qa_1, .inl (cA, 3, .inl (fun _ => 0))), (qn_2, .inr (1, [.ref qf_3, .ref qb_3, .int 0, .int (-1)])), (qf_3, .inl (cA, 3, .inl (fun _ => 0))), (qb_3, .inl (cA, 3, .inl (fun _ => 0))), (qn_4, .inr (0, [.ref qx_5, .ref qy_5, .int 0, .int 0, .int 0, .int 0, .long 0, .int 0, .int 0, .int 0, .int 0, .int 0])), (qx_5, .inl (cA, 401, .inl (fun _ => 0))), (qy_5, .inl (cA, 401, .inl (fun _ => 0)))] := hD
  refine lv_aload_n hx hb dX3_init_33 rfl (lv_at hl 0 rfl) ?_
  refine va_new (ci := 0) (fs := [.null, .null, .int 0, .int 0, .int 0, .int 0, .long 0, .int 0, .int 0, .int 0, .int 0, .int 0]) (C := RX0) (T := TX0) (N := 12) hx hb hts hiX0 tyX0 tyX0_ok hown (hts (.classLink RX3 20 RX0) (List.mem_of_getElem? (l := wsX3_init) (i := 10) rfl)) (hts (.instantiable RX0 12) (List.mem_of_getElem? (l := wsX3_init) (i := 11) rfl)) (hts (.initialized RX0) (List.mem_of_getElem? (l := wsX3_init) (i := 12) rfl)) hK hP hD hS hA rfl (by decide) (Nat.le_of_ble_eq_true rfl) (Nat.le_of_ble_eq_true rfl) dX3_init_34 (fun qn_6 H hP hD hS => ?_)
  have hP : va_P (dC, dI) vwCl [(t0, .inr (2, [.ref qa_1, .ref qn_2, .ref qn_4, .null, .null])), (qa_1, .inl (cA, 3, .inl (fun _ => 0))), (qn_2, .inr (1, [.ref qf_3, .ref qb_3, .int 0, .int (-1)])), (qf_3, .inl (cA, 3, .inl (fun _ => 0))), (qb_3, .inl (cA, 3, .inl (fun _ => 0))), (qn_4, .inr (0, [.ref qx_5, .ref qy_5, .int 0, .int 0, .int 0, .int 0, .long 0, .int 0, .int 0, .int 0, .int 0, .int 0])), (qx_5, .inl (cA, 401, .inl (fun _ => 0))), (qy_5, .inl (cA, 401, .inl (fun _ => 0))), (qn_6, .inr (0, [.null, .null, .int 0, .int 0, .int 0, .int 0, .long 0, .int 0, .int 0, .int 0, .int 0, .int 0]))] H := hP
  have hD : va_D A [(t0, .inr (2, [.ref qa_1, .ref qn_2, .ref qn_4, .null, .null])), (qa_1, .inl (cA, 3, .inl (fun _ => 0))), (qn_2, .inr (1, [.ref qf_3, .ref qb_3, .int 0, .int (-1)])), (qf_3, .inl (cA, 3, .inl (fun _ => 0))), (qb_3, .inl (cA, 3, .inl (fun _ => 0))), (qn_4, .inr (0, [.ref qx_5, .ref qy_5, .int 0, .int 0, .int 0, .int 0, .long 0, .int 0, .int 0, .int 0, .int 0, .int 0])), (qx_5, .inl (cA, 401, .inl (fun _ => 0))), (qy_5, .inl (cA, 401, .inl (fun _ => 0))), (qn_6, .inr (0, [.null, .null, .int 0, .int 0, .int 0, .int 0, .long 0, .int 0, .int 0, .int 0, .int 0, .int 0]))] := hD
  refine lv_dup hx hb dX3_init_37 rfl ?_
  refine ct_callv (va_runIN (As := []) (rest := [.ref qn_6, .ref t0]) ⟨hx, hb, hml, hown, hts⟩ (ar_init l dC dI cA cB H.size qn_6 ) ⟨va_cnB (host := "TickWalks") 0 hts gX3_init_X0_init_n22 rfl rfl rfl hN.2.2.1 (hts (.initialized RX0) (List.mem_of_getElem? (l := wsX3_init) (i := 12) rfl)) (by decide +kernel) ⟨Nat.le_of_ble_eq_true rfl, Nat.le_of_ble_eq_true rfl⟩, rfl, (hts (.instanceMethod yX0_init) (List.mem_of_getElem? (l := wsX3_init) (i := 26) rfl))⟩ ⟨ct_blind, ct_pre hP hD hK hZ hN hS hA [8] rfl (by decide)⟩ rfl rfl hl.1 rfl (lv_room (Nat.le_of_ble_eq_true rfl)) dX3_init_38 ⟨Nat.le_of_ble_eq_true rfl, Nat.le_of_ble_eq_true rfl⟩) hP hD hS hA [8] [0, 1, 2, 3, 4, 5, 6, 7] rfl (wr := [(t0, .inr (2, [.ref qa_1, .ref qn_2, .ref qn_4, .null, .null])), (qa_1, .inl (cA, 3, .inl (fun _ => 0))), (qn_2, .inr (1, [.ref qf_3, .ref qb_3, .int 0, .int (-1)])), (qf_3, .inl (cA, 3, .inl (fun _ => 0))), (qb_3, .inl (cA, 3, .inl (fun _ => 0))), (qn_4, .inr (0, [.ref qx_5, .ref qy_5, .int 0, .int 0, .int 0, .int 0, .long 0, .int 0, .int 0, .int 0, .int 0, .int 0])), (qx_5, .inl (cA, 401, .inl (fun _ => 0))), (qy_5, .inl (cA, 401, .inl (fun _ => 0)))]) rfl (by decide) (by decide) (fun u9 H locs hw_7 hP hD hS => ?_)
  obtain ⟨qx_7, qy_7⟩ := u9
  have hw_7 : True := hw_7
  have hP : va_P (dC, dI) vwCl [(t0, .inr (2, [.ref qa_1, .ref qn_2, .ref qn_4, .null, .null])), (qa_1, .inl (cA, 3, .inl (fun _ => 0))), (qn_2, .inr (1, [.ref qf_3, .ref qb_3, .int 0, .int (-1)])), (qf_3, .inl (cA, 3, .inl (fun _ => 0))), (qb_3, .inl (cA, 3, .inl (fun _ => 0))), (qn_4, .inr (0, [.ref qx_5, .ref qy_5, .int 0, .int 0, .int 0, .int 0, .long 0, .int 0, .int 0, .int 0, .int 0, .int 0])), (qx_5, .inl (cA, 401, .inl (fun _ => 0))), (qy_5, .inl (cA, 401, .inl (fun _ => 0))), (qn_6, .inr (0, [.ref qx_7, .ref qy_7, .int 0, .int 0, .int 0, .int 0, .long 0, .int 0, .int 0, .int 0, .int 0, .int 0])), (qx_7, .inl (cA, 401, .inl (fun _ => 0))), (qy_7, .inl (cA, 401, .inl (fun _ => 0)))] H := hP
  have hD : va_D A [(t0, .inr (2, [.ref qa_1, .ref qn_2, .ref qn_4, .null, .null])), (qa_1, .inl (cA, 3, .inl (fun _ => 0))), (qn_2, .inr (1, [.ref qf_3, .ref qb_3, .int 0, .int (-1)])), (qf_3, .inl (cA, 3, .inl (fun _ => 0))), (qb_3, .inl (cA, 3, .inl (fun _ => 0))), (qn_4, .inr (0, [.ref qx_5, .ref qy_5, .int 0, .int 0, .int 0, .int 0, .long 0, .int 0, .int 0, .int 0, .int 0, .int 0])), (qx_5, .inl (cA, 401, .inl (fun _ => 0))), (qy_5, .inl (cA, 401, .inl (fun _ => 0))), (qn_6, .inr (0, [.ref qx_7, .ref qy_7, .int 0, .int 0, .int 0, .int 0, .long 0, .int 0, .int 0, .int 0, .int 0, .int 0])), (qx_7, .inl (cA, 401, .inl (fun _ => 0))), (qy_7, .inl (cA, 401, .inl (fun _ => 0)))] := hD
  refine va_put (D := (dC, dI)) (ci := 2) (v := .ref qn_6) (ty := (.object "TickWalks$Arc")) (C := RX3) (T := TX3) (N := 5) hx hb hts hiX3 tyX3 tyX3_ok nmX3 hown hK hP hD hS 0 rfl rfl 3 (by decide) (hts (.fieldLink RX3 27 "TickWalks" "triedArc" "LTickWalks$Arc;") (List.mem_of_getElem? (l := wsX3_init) (i := 14) rfl)) (fun _ h9 => h9) rfl (by decide +kernel) rfl rfl (Nat.le_of_ble_eq_true rfl) dX3_init_41 (fun H locs hP hD hS => ?_)
  have hP : va_P (dC, dI) vwCl [(t0, .inr (2, [.ref qa_1, .ref qn_2, .ref qn_4, .ref qn_6, .null])), (qa_1, .inl (cA, 3, .inl (fun _ => 0))), (qn_2, .inr (1, [.ref qf_3, .ref qb_3, .int 0, .int (-1)])), (qf_3, .inl (cA, 3, .inl (fun _ => 0))), (qb_3, .inl (cA, 3, .inl (fun _ => 0))), (qn_4, .inr (0, [.ref qx_5, .ref qy_5, .int 0, .int 0, .int 0, .int 0, .long 0, .int 0, .int 0, .int 0, .int 0, .int 0])), (qx_5, .inl (cA, 401, .inl (fun _ => 0))), (qy_5, .inl (cA, 401, .inl (fun _ => 0))), (qn_6, .inr (0, [.ref qx_7, .ref qy_7, .int 0, .int 0, .int 0, .int 0, .long 0, .int 0, .int 0, .int 0, .int 0, .int 0])), (qx_7, .inl (cA, 401, .inl (fun _ => 0))), (qy_7, .inl (cA, 401, .inl (fun _ => 0)))] H := hP
  have hD : va_D A [(t0, .inr (2, [.ref qa_1, .ref qn_2, .ref qn_4, .ref qn_6, .null])), (qa_1, .inl (cA, 3, .inl (fun _ => 0))), (qn_2, .inr (1, [.ref qf_3, .ref qb_3, .int 0, .int (-1)])), (qf_3, .inl (cA, 3, .inl (fun _ => 0))), (qb_3, .inl (cA, 3, .inl (fun _ => 0))), (qn_4, .inr (0, [.ref qx_5, .ref qy_5, .int 0, .int 0, .int 0, .int 0, .long 0, .int 0, .int 0, .int 0, .int 0, .int 0])), (qx_5, .inl (cA, 401, .inl (fun _ => 0))), (qy_5, .inl (cA, 401, .inl (fun _ => 0))), (qn_6, .inr (0, [.ref qx_7, .ref qy_7, .int 0, .int 0, .int 0, .int 0, .long 0, .int 0, .int 0, .int 0, .int 0, .int 0])), (qx_7, .inl (cA, 401, .inl (fun _ => 0))), (qy_7, .inl (cA, 401, .inl (fun _ => 0)))] := hD
  refine lv_aload_n hx hb dX3_init_44 rfl (lv_at hl 0 rfl) ?_
  refine lv_null hx hb dX3_init_45 ?_
  refine va_put (D := (dC, dI)) (ci := 2) (v := .null) (ty := (.object "TickWalks$Walk")) (C := RX3) (T := TX3) (N := 5) hx hb hts hiX3 tyX3 tyX3_ok nmX3 hown hK hP hD hS 0 rfl rfl 4 (by decide) (hts (.fieldLink RX3 30 "TickWalks" "latest" "LTickWalks$Walk;") (List.mem_of_getElem? (l := wsX3_init) (i := 15) rfl)) (fun _ h9 => h9) rfl (by decide +kernel) rfl rfl (Nat.le_of_ble_eq_true rfl) dX3_init_46 (fun H locs hP hD hS => ?_)
  have hP : va_P (dC, dI) vwCl [(t0, .inr (2, [.ref qa_1, .ref qn_2, .ref qn_4, .ref qn_6, .null])), (qa_1, .inl (cA, 3, .inl (fun _ => 0))), (qn_2, .inr (1, [.ref qf_3, .ref qb_3, .int 0, .int (-1)])), (qf_3, .inl (cA, 3, .inl (fun _ => 0))), (qb_3, .inl (cA, 3, .inl (fun _ => 0))), (qn_4, .inr (0, [.ref qx_5, .ref qy_5, .int 0, .int 0, .int 0, .int 0, .long 0, .int 0, .int 0, .int 0, .int 0, .int 0])), (qx_5, .inl (cA, 401, .inl (fun _ => 0))), (qy_5, .inl (cA, 401, .inl (fun _ => 0))), (qn_6, .inr (0, [.ref qx_7, .ref qy_7, .int 0, .int 0, .int 0, .int 0, .long 0, .int 0, .int 0, .int 0, .int 0, .int 0])), (qx_7, .inl (cA, 401, .inl (fun _ => 0))), (qy_7, .inl (cA, 401, .inl (fun _ => 0)))] H := hP
  have hD : va_D A [(t0, .inr (2, [.ref qa_1, .ref qn_2, .ref qn_4, .ref qn_6, .null])), (qa_1, .inl (cA, 3, .inl (fun _ => 0))), (qn_2, .inr (1, [.ref qf_3, .ref qb_3, .int 0, .int (-1)])), (qf_3, .inl (cA, 3, .inl (fun _ => 0))), (qb_3, .inl (cA, 3, .inl (fun _ => 0))), (qn_4, .inr (0, [.ref qx_5, .ref qy_5, .int 0, .int 0, .int 0, .int 0, .long 0, .int 0, .int 0, .int 0, .int 0, .int 0])), (qx_5, .inl (cA, 401, .inl (fun _ => 0))), (qy_5, .inl (cA, 401, .inl (fun _ => 0))), (qn_6, .inr (0, [.ref qx_7, .ref qy_7, .int 0, .int 0, .int 0, .int 0, .long 0, .int 0, .int 0, .int 0, .int 0, .int 0])), (qx_7, .inl (cA, 401, .inl (fun _ => 0))), (qy_7, .inl (cA, 401, .inl (fun _ => 0)))] := hD
  have hP9 := hP.sub (ws' := [(t0, .inr (2, [.ref qa_1, .ref qn_2, .ref qn_4, .ref qn_6, .null])), (qa_1, .inl (cA, 3, .inl (fun _ => 0))), (qn_2, .inr (1, [.ref qf_3, .ref qb_3, .int 0, .int (-1)])), (qf_3, .inl (cA, 3, .inl (fun _ => 0))), (qb_3, .inl (cA, 3, .inl (fun _ => 0))), (qn_4, .inr (0, [.ref qx_5, .ref qy_5, .int 0, .int 0, .int 0, .int 0, .long 0, .int 0, .int 0, .int 0, .int 0, .int 0])), (qx_5, .inl (cA, 401, .inl (fun _ => 0))), (qy_5, .inl (cA, 401, .inl (fun _ => 0))), (qn_6, .inr (0, [.ref qx_7, .ref qy_7, .int 0, .int 0, .int 0, .int 0, .long 0, .int 0, .int 0, .int 0, .int 0, .int 0])), (qx_7, .inl (cA, 401, .inl (fun _ => 0))), (qy_7, .inl (cA, 401, .inl (fun _ => 0)))]) [0, 1, 2, 3, 4, 5, 6, 7, 8, 9, 10] rfl
  have hD9 := hD.sub (ws' := [(t0, .inr (2, [.ref qa_1, .ref qn_2, .ref qn_4, .ref qn_6, .null])), (qa_1, .inl (cA, 3, .inl (fun _ => 0))), (qn_2, .inr (1, [.ref qf_3, .ref qb_3, .int 0, .int (-1)])), (qf_3, .inl (cA, 3, .inl (fun _ => 0))), (qb_3, .inl (cA, 3, .inl (fun _ => 0))), (qn_4, .inr (0, [.ref qx_5, .ref qy_5, .int 0, .int 0, .int 0, .int 0, .long 0, .int 0, .int 0, .int 0, .int 0, .int 0])), (qx_5, .inl (cA, 401, .inl (fun _ => 0))), (qy_5, .inl (cA, 401, .inl (fun _ => 0))), (qn_6, .inr (0, [.ref qx_7, .ref qy_7, .int 0, .int 0, .int 0, .int 0, .long 0, .int 0, .int 0, .int 0, .int 0, .int 0])), (qx_7, .inl (cA, 401, .inl (fun _ => 0))), (qy_7, .inl (cA, 401, .inl (fun _ => 0)))]) [0, 1, 2, 3, 4, 5, 6, 7, 8, 9, 10] (by decide) rfl
  refine W.widen (k := 10) (n := 1641) (by omega) (by omega) ?_
  exact W.vret hx hb hr (fun t9 ht9 hW9 => ⟨⟨(qa_1, qn_2, qn_4, qn_6, qf_3, qb_3, qx_5, qy_5, qx_7, qy_7), rfl, trivial, by rw [ht9]; exact hP9, hD9⟩, hS.F ht9⟩) hS.2.2 dX3_init_49
end
section
/-! pure words of the reference, and numbers in range -/
theorem ad_i {a b : Int32} (h : -2147483648 ≤ a.toInt + b.toInt) (h2 : a.toInt + b.toInt < 2147483648) : (a + b).toInt = a.toInt + b.toInt := by
  rw [Int32.toInt_add, Int.bmod_eq_of_le (by omega) (by omega)]
theorem sb_i {a b : Int32} (h : -2147483648 ≤ a.toInt - b.toInt) (h2 : a.toInt - b.toInt < 2147483648) : (a - b).toInt = a.toInt - b.toInt := by
  rw [Int32.toInt_sub, Int.bmod_eq_of_le (by omega) (by omega)]
theorem ad_l {a b : Int64} (h : -9223372036854775808 ≤ a.toInt + b.toInt) (h2 : a.toInt + b.toInt < 9223372036854775808) : (a + b).toInt = a.toInt + b.toInt := by
  rw [Int64.toInt_add, Int.bmod_eq_of_le (by omega) (by omega)]
theorem sb_l {a b : Int64} (h : -9223372036854775808 ≤ a.toInt - b.toInt) (h2 : a.toInt - b.toInt < 9223372036854775808) : (a - b).toInt = a.toInt - b.toInt := by
  rw [Int64.toInt_sub, Int.bmod_eq_of_le (by omega) (by omega)]
theorem pl_t {v : Int32} (h : pl_in v) : -30000 ≤ v.toInt ∧ v.toInt ≤ 30000 := by
  have h1 := Int32.le_iff_toInt_le.mp h.1
  have h2 := Int32.le_iff_toInt_le.mp h.2
  have e1 : (-30000 : Int32).toInt = -30000 := by decide
  have e2 : (30000 : Int32).toInt = 30000 := by decide
  rw [e1] at h1
  rw [e2] at h2
  exact ⟨h1, h2⟩
theorem ce_t {v : Int32} (h : ce_in v) : -40000 ≤ v.toInt ∧ v.toInt ≤ 40000 := by
  have h1 := Int32.le_iff_toInt_le.mp h.1
  have h2 := Int32.le_iff_toInt_le.mp h.2
  have e1 : (-40000 : Int32).toInt = -40000 := by decide
  have e2 : (40000 : Int32).toInt = 40000 := by decide
  rw [e1] at h1
  rw [e2] at h2
  exact ⟨h1, h2⟩
theorem sx_t {j : Nat} (hj : j < 8) : (-1 ≤ (st_X j).toInt ∧ (st_X j).toInt ≤ 1) ∧ -1 ≤ (st_Y j).toInt ∧ (st_Y j).toInt ≤ 1 := by
  rcases (show j = 0 ∨ j = 1 ∨ j = 2 ∨ j = 3 ∨ j = 4 ∨ j = 5 ∨ j = 6 ∨ j = 7 by omega) with rfl | rfl | rfl | rfl | rfl | rfl | rfl | rfl <;> decide
theorem ob_ix {lf : Int32} {sq : Int64} {cx cy : Int32} {q : Int32 × Int32} (h : ¬ ob_d lf sq cx cy q < 0) : ∃ j, j < 8 ∧ ob_d lf sq cx cy q = nI j := by
  rcases st_F_ix lf (q.1 - cx).toInt64 (q.2 - cy).toInt64 sq 8 (by decide) with g | g
  · exact absurd (show ob_d lf sq cx cy q < 0 by unfold ob_d; rw [g]; decide) h
  · exact g
theorem ob_sj {lf : Int32} {sq : Int64} {cx cy : Int32} {q : Int32 × Int32} {j : Nat} (hj : j < 8) (h : ob_d lf sq cx cy q = nI j) : ob_s lf sq cx cy q = (q.1 + st_X j, q.2 + st_Y j) := by
  unfold ob_s
  rw [h, if_neg (nI_pos (by omega)), nI_clamp (by omega)]
/-- after n ticks it is not far -/
theorem ob_b {lf : Int32} {sq : Int64} {cx cy : Int32} {q : Int32 × Int32} (hx : pl_in q.1) (hy : pl_in q.2) : ∀ n : Nat, n ≤ 100000 → (-30000 - (n : Int) ≤ (ob_p lf sq cx cy q n).1.toInt ∧ (ob_p lf sq cx cy q n).1.toInt ≤ 30000 + n) ∧ -30000 - (n : Int) ≤ (ob_p lf sq cx cy q n).2.toInt ∧ (ob_p lf sq cx cy q n).2.toInt ≤ 30000 + n := by
  intro n
  induction n with
  | zero =>
    intro _
    have h1 := pl_t hx
    have h2 := pl_t hy
    simp only [ob_p]
    omega
  | succ n ih =>
    intro hn
    obtain ⟨⟨a1, a2⟩, a3, a4⟩ := ih (by omega)
    by_cases h : ob_d lf sq cx cy (ob_p lf sq cx cy q n) < 0
    · have e : ob_p lf sq cx cy q (n + 1) = ob_p lf sq cx cy q n := by rw [ob_p]; unfold ob_s; rw [if_pos h]
      rw [e]
      omega
    · obtain ⟨j, hj, g⟩ := ob_ix h
      have e : ob_p lf sq cx cy q (n + 1) = ((ob_p lf sq cx cy q n).1 + st_X j, (ob_p lf sq cx cy q n).2 + st_Y j) := by rw [ob_p]; exact ob_sj hj g
      obtain ⟨⟨b1, b2⟩, b3, b4⟩ := sx_t hj
      rw [e]
      dsimp only
      rw [ad_i (by omega) (by omega), ad_i (by omega) (by omega)]
      omega
theorem l6_step {a b d : Int32} (ha : -200000 ≤ a.toInt ∧ a.toInt ≤ 200000) (hb : -40000 ≤ b.toInt ∧ b.toInt ≤ 40000) (hd : -1 ≤ d.toInt ∧ d.toInt ≤ 1) : (a - b).toInt64 + d.toInt64 = (a + d - b).toInt64 := by
  apply Int64.toInt_inj.mp
  have e1 : (a - b).toInt = a.toInt - b.toInt := sb_i (by omega) (by omega)
  have e2 : (a + d).toInt = a.toInt + d.toInt := ad_i (by omega) (by omega)
  have e3 : (a + d - b).toInt = a.toInt + d.toInt - b.toInt := by rw [sb_i (by rw [e2]; omega) (by rw [e2]; omega), e2]
  rw [ad_l (by rw [Int32.toInt_toInt64, Int32.toInt_toInt64, e1]; omega) (by rw [Int32.toInt_toInt64, Int32.toInt_toInt64, e1]; omega), Int32.toInt_toInt64, Int32.toInt_toInt64, Int32.toInt_toInt64, e1, e3]
  omega
theorem l6_inj {a b d : Int32} (h : (a - b).toInt64 = (d - b).toInt64) : a = d := by
  have h1 := congrArg Int64.toInt h
  rw [Int32.toInt_toInt64, Int32.toInt_toInt64] at h1
  have h2 := Int32.toInt_inj.mp h1
  have h3 : a - b + b = d - b + b := by rw [h2]
  rw [Int32.sub_add_cancel, Int32.sub_add_cancel] at h3
  exact h3
theorem ab_l_ge {x : Int64} (h : 0 ≤ x) : x = ab_l x := by
  unfold ab_l
  by_cases g : 0 < x
  · rw [if_pos g]
  · rw [if_neg g]
    have e : x = 0 := Int64.toInt_inj.mp (by
      have h1 := Int64.le_iff_toInt_le.mp h
      have h2 := Int64.le_iff_toInt_le.mp (Int64.not_lt.mp g)
      omega)
    rw [e]; rfl
theorem ab_l_lt {x : Int64} (h : ¬ 0 ≤ x) : -x = ab_l x := by
  unfold ab_l
  rw [if_neg (fun g => h (Int64.le_of_lt g))]
theorem ab_am (x : Int32) : ab_i x = am_i x := by
  unfold ab_i am_i
  by_cases h : 0 ≤ x
  · rw [if_pos h, if_pos h]
  · rw [if_neg h, if_neg h, Int32.zero_sub]
theorem nar_b {j : Nat} (hj : j < 8) : vp_nar .byte (nI j).toInt8.toInt32 = nI j := by
  rcases (show j = 0 ∨ j = 1 ∨ j = 2 ∨ j = 3 ∨ j = 4 ∨ j = 5 ∨ j = 6 ∨ j = 7 by omega) with rfl | rfl | rfl | rfl | rfl | rfl | rfl | rfl <;> rfl
theorem nar_c {j : Nat} (hj : j < 8) : vp_nar .byte (nI j) = nI j := by
  rcases (show j = 0 ∨ j = 1 ∨ j = 2 ∨ j = 3 ∨ j = 4 ∨ j = 5 ∨ j = 6 ∨ j = 7 by omega) with rfl | rfl | rfl | rfl | rfl | rfl | rfl | rfl <;> rfl
/-- the reference's part of a line behind tick k -/
def pt_v (cn b k : Int32) : Int32 := if cn = 0 then 0 else (fd_d (2 * b.toInt64 * k.toInt64 + cn.toInt64) (2 * cn.toInt64)).toInt32
/-- the ways of the first n ticks stand in f -/
def wy_P (lf : Int32) (sq : Int64) (cx cy : Int32) (q : Int32 × Int32) (f : Nat → Int32) (n : Nat) : Prop := ∀ i, i < n → ∃ j, j < 8 ∧ f i = nI j ∧ ob_p lf sq cx cy q (i + 1) = ((ob_p lf sq cx cy q i).1 + st_X j, (ob_p lf sq cx cy q i).2 + st_Y j)
def rs_b (vx vy vz cn : Int32) (k : Nat) : Prop := 1 < am_i (pt_v cn vx (nI (k + 1)) - pt_v cn vx (nI k)) ∨ 1 < am_i (pt_v cn vy (nI (k + 1)) - pt_v cn vy (nI k)) ∨ 1 < am_i (pt_v cn vz (nI (k + 1)) - pt_v cn vz (nI k)) ∨ am_i (pt_v cn vx (nI (k + 1)) - pt_v cn vx (nI k)) + am_i (pt_v cn vy (nI (k + 1)) - pt_v cn vy (nI k)) + am_i (pt_v cn vz (nI (k + 1)) - pt_v cn vz (nI k)) = 0
noncomputable def rs_c (vx vy vz cn : Int32) : Nat → Int32
  | 0 => 0
  | k + 1 => @ite _ (rs_b vx vy vz cn k) (Classical.propDecidable _) (rs_c vx vy vz cn k + 1) (rs_c vx vy vz cn k)
theorem rs_y {vx vy vz cn : Int32} {k : Nat} (h : rs_b vx vy vz cn k) : rs_c vx vy vz cn (k + 1) = rs_c vx vy vz cn k + 1 := by rw [rs_c, if_pos h]
theorem rs_n {vx vy vz cn : Int32} {k : Nat} (h : ¬ rs_b vx vy vz cn k) : rs_c vx vy vz cn (k + 1) = rs_c vx vy vz cn k := by rw [rs_c, if_neg h]
/-- the greatest amount beside, as the reference reckons it -/
def ob_w (lf : Int32) (sq : Int64) (cx cy : Int32) (q : Int32 × Int32) : Nat → Int64
  | 0 => 0
  | k + 1 => if ab_l (sq_c (ob_p lf sq cx cy q (k + 1)).1 cx (ob_p lf sq cx cy q (k + 1)).2 cy - sq) < ob_w lf sq cx cy q k then ob_w lf sq cx cy q k else ab_l (sq_c (ob_p lf sq cx cy q (k + 1)).1 cx (ob_p lf sq cx cy q (k + 1)).2 cy - sq)
def rl_t (ux uy uz vx vy vz cn k ax : Int32) : Int32 := if (0 ≤ ax ∧ ax < 3) ∧ 0 ≤ k ∧ k ≤ cn then (if ax = 0 then ux + pt_v cn vx k else if ax = 1 then uy + pt_v cn vy k else uz + pt_v cn vz k) else 0
theorem ax_le {ax : Int32} : ax ≤ 2 ↔ ax < 3 := by
  rw [Int32.le_iff_toInt_le, Int32.lt_iff_toInt_lt]
  have e1 : (2 : Int32).toInt = 2 := by decide
  have e2 : (3 : Int32).toInt = 3 := by decide
  rw [e1, e2]
  omega
end
section
theorem rm_end {vx vy vz cn mn ri : Int32} {N i : Nat} (hN2 : cn = nI N ∧ N < 1000000) (hi : 1 ≤ i ∧ i ≤ N + 1) (h : cn < nI i) (hc : mn = rs_c vx vy vz cn (i - 1)) (hri : i = 1 ∨ ri = 0) : mn = (if ri = 0 then rs_c vx vy vz cn N else 0) := by
  have h1 : nI N < nI i := by rw [← hN2.1]; exact h
  have h2 := (nI_ltI (by omega) (by omega)).mp h1
  have h3 : i - 1 = N := by omega
  rw [h3] at hc
  by_cases h0 : ri = 0
  · rw [if_pos h0]; exact hc
  · rw [if_neg h0]
    rcases hri with g | g
    · have : N = 0 := by omega
      subst this
      exact hc
    · exact absurd g h0
set_option maxHeartbeats 4000000 in
set_option maxRecDepth 100000 in
/-- TickWalksModel.place -/
theorem rm_place (l : Launch) (dC : Nat → ClassId) (dI : Nat → Nat → Nat) (cA cB : ClassId) (sz : Nat) (m0 : Nat) (rx : Int32) (ry : Int32) (rz : Int32) (rw : Int32) (ri : Int32) (ux : Int32) (uy : Int32) (uz : Int32) (vx : Int32) (vy : Int32) (vz : Int32) (cn : Int32) (mo : Int32) (qw : Nat) (qt : Nat) (a : Int32) (b : Int32) (d : Int32) : Met l yX4_place wsX4_place ({ frames := 1, cells := 0, slots := 0, locals := 20 }) (va_Pc [.ref m0, .int a, .int b, .int d] (ct_P dC dI cA cB sz [(m0, .inr (3, [.int rx, .int ry, .int rz, .int rw, .int ri, .int ux, .int uy, .int uz, .int vx, .int vy, .int vz, .int cn, .int mo, .ref qw, .ref qt]))])) (va_Qi (fun (r : Int32) (u : Int32 × Int32 × Int32 × Int32 × Int32 × Int32) => (r = 1 ∧ (pl_in a ∧ pl_in b ∧ pl_in d) ∧ u.1 = a ∧ u.2.1 = b ∧ u.2.2.1 = d ∧ u.2.2.2.1 = 0 ∧ u.2.2.2.2.1 = 0 ∧ u.2.2.2.2.2 = 0) ∨ (r = 0 ∧ ¬ (pl_in a ∧ pl_in b ∧ pl_in d) ∧ u.1 = rx ∧ u.2.1 = ry ∧ u.2.2.1 = rz ∧ u.2.2.2.1 = rw ∧ u.2.2.2.2.1 = cn ∧ u.2.2.2.2.2 = mo)) (fun (u : Int32 × Int32 × Int32 × Int32 × Int32 × Int32) => ct_B dC dI (va_A [(m0, .inr (3, [.int rx, .int ry, .int rz, .int rw, .int ri, .int ux, .int uy, .int uz, .int vx, .int vy, .int vz, .int cn, .int mo, .ref qw, .ref qt]))] sz) [(m0, .inr (3, [.int u.1, .int u.2.1, .int u.2.2.1, .int u.2.2.2.1, .int ri, .int ux, .int uy, .int uz, .int vx, .int vy, .int vz, .int u.2.2.2.2.1, .int u.2.2.2.2.2, .ref qw, .ref qt]))]) (va_A [(m0, .inr (3, [.int rx, .int ry, .int rz, .int rw, .int ri, .int ux, .int uy, .int uz, .int vx, .int vy, .int vz, .int cn, .int mo, .ref qw, .ref qt]))] sz)) 0 0 (va_A [(m0, .inr (3, [.int rx, .int ry, .int rz, .int rw, .int ri, .int ux, .int uy, .int uz, .int vx, .int vy, .int vz, .int cn, .int mo, .ref qw, .ref qt]))] sz) := by
  refine Met.ofW (cc := cX4_place) (maxL := 4) (ret := (some .boolean)) (by decide +kernel) rfl ?_
  intro p e s m args below meth c s₁ B hml hv
  obtain ⟨rfl, hsz, hP, hK, hD0, hZ, hN⟩ := hv
  have hx := B.exec
  have hb := B.bytes
  have hr := B.returns
  have hts := atoms_spec (ws := wsX4_place) B.pre
  have hown : s.vm.findClass RX4 = some m.cls := findClass_of_methodNamed B.named
  have hlocks := B.notSynchronized
  have hiX4 : ∀ w ∈ u_ws RX4 TX4 15, w ∈ wsX4_place := by decide +kernel
  subst hsz
  have hD := hD0.self (sz := s.heap.size)
  generalize hAe : va_A [(m0, .inr (3, [.int rx, .int ry, .int rz, .int rw, .int ri, .int ux, .int uy, .int uz, .int vx, .int vy, .int vz, .int cn, .int mo, .ref qw, .ref qt]))] s.heap.size = A at hD hZ ⊢
  have hA : ∀ q : Nat, s.heap.size ≤ q → A q := fun q h => by rw [← hAe]; exact Or.inr h
  have hl := lv_entry ([.ref m0, .int a, .int b, .int d]) (n := 4) (Nat.le_of_ble_eq_true rfl)
  rw [lg_entry_eq]
  generalize (lg_sl ([.ref m0, .int a, .int b, .int d]) ++ List.replicate (4 - (lg_sl ([.ref m0, .int a, .int b, .int d])).length) Slot.unset).toArray = ls at hl ⊢
  have hl : lv_has ls 4 [(0, .ref m0), (1, .int a), (2, .int b), (3, .int d)] := hl
  generalize hHe : s.heap = H at hP ⊢
  have hS : va_S A s.heap H [] := by rw [hHe]; exact va_S.rf
  generalize ([] : List Loc) = locs at hS ⊢
  refine lv_iload_n hx hb dX4_place_0 rfl (lv_at hl 1 rfl) ?_
  refine ct_calli (va_runS (As := [.int a]) (rest := []) ⟨hx, hb, hml, hown, hts⟩ (rf_isPlace l dC dI cA cB H.size a ) (va_cwS 1 hts gX4_place_X4_isPlace rfl rfl rfl (by decide +kernel) ⟨Nat.le_of_ble_eq_true rfl, Nat.le_of_ble_eq_true rfl⟩) ⟨ct_blind, ct_pre hP hD hK hZ hN hS hA [] rfl (by decide)⟩ rfl rfl hl.1 rfl (lv_room (Nat.le_of_ble_eq_true rfl)) dX4_place_1 ⟨Nat.le_of_ble_eq_true rfl, Nat.le_of_ble_eq_true rfl⟩) hP hD hS hA [] [0] rfl (wr := [(m0, .inr (3, [.int rx, .int ry, .int rz, .int rw, .int ri, .int ux, .int uy, .int uz, .int vx, .int vy, .int vz, .int cn, .int mo, .ref qw, .ref qt]))]) rfl (by decide) (by decide) (fun r_1 u9 H locs hw_1 hP hD hS => ?_)
  have hw_1 : bo_z r_1 (pl_in a) := hw_1
  have hP : va_P (dC, dI) vwCl [(m0, .inr (3, [.int rx, .int ry, .int rz, .int rw, .int ri, .int ux, .int uy, .int uz, .int vx, .int vy, .int vz, .int cn, .int mo, .ref qw, .ref qt]))] H := hP
  have hD : va_D A [(m0, .inr (3, [.int rx, .int ry, .int rz, .int rw, .int ri, .int ux, .int uy, .int uz, .int vx, .int vy, .int vz, .int cn, .int mo, .ref qw, .ref qt]))] := hD
  refine lv_if_eq (tgt := 21) hx hb dX4_place_4 (by decide) (fun c_4 => ?_) (fun c_4 => ?_)
  · refine lv_iconst (v := 0) hx hb dX4_place_21 (by decide) ?_
    have hP9 := hP.sub (ws' := [(m0, .inr (3, [.int rx, .int ry, .int rz, .int rw, .int ri, .int ux, .int uy, .int uz, .int vx, .int vy, .int vz, .int cn, .int mo, .ref qw, .ref qt]))]) [0] rfl
    have hD9 := hD.sub (ws' := [(m0, .inr (3, [.int rx, .int ry, .int rz, .int rw, .int ri, .int ux, .int uy, .int uz, .int vx, .int vy, .int vz, .int cn, .int mo, .ref qw, .ref qt]))]) [0] (by decide) rfl
    exact W.zret (v := 0) hx hb hr rfl (fun t9 ht9 hW9 => ⟨⟨0, (rx, ry, rz, rw, cn, mo), rfl, Or.inr ⟨rfl, (fun h => hw_1.f c_4 h.1), rfl, rfl, rfl, rfl, rfl, rfl⟩, by rw [ht9]; exact hP9, hD9⟩, hS.F ht9⟩) hS.2.2 dX4_place_22
  · refine lv_iload_n hx hb dX4_place_7 rfl (lv_at hl 2 rfl) ?_
    refine ct_calli (va_runS (As := [.int b]) (rest := []) ⟨hx, hb, hml, hown, hts⟩ (rf_isPlace l dC dI cA cB H.size b ) (va_cwS 1 hts gX4_place_X4_isPlace rfl rfl rfl (by decide +kernel) ⟨Nat.le_of_ble_eq_true rfl, Nat.le_of_ble_eq_true rfl⟩) ⟨ct_blind, ct_pre hP hD hK hZ hN hS hA [] rfl (by decide)⟩ rfl rfl hl.1 rfl (lv_room (Nat.le_of_ble_eq_true rfl)) dX4_place_8 ⟨Nat.le_of_ble_eq_true rfl, Nat.le_of_ble_eq_true rfl⟩) hP hD hS hA [] [0] rfl (wr := [(m0, .inr (3, [.int rx, .int ry, .int rz, .int rw, .int ri, .int ux, .int uy, .int uz, .int vx, .int vy, .int vz, .int cn, .int mo, .ref qw, .ref qt]))]) rfl (by decide) (by decide) (fun r_2 u9 H locs hw_2 hP hD hS => ?_)
    have hw_2 : bo_z r_2 (pl_in b) := hw_2
    have hP : va_P (dC, dI) vwCl [(m0, .inr (3, [.int rx, .int ry, .int rz, .int rw, .int ri, .int ux, .int uy, .int uz, .int vx, .int vy, .int vz, .int cn, .int mo, .ref qw, .ref qt]))] H := hP
    have hD : va_D A [(m0, .inr (3, [.int rx, .int ry, .int rz, .int rw, .int ri, .int ux, .int uy, .int uz, .int vx, .int vy, .int vz, .int cn, .int mo, .ref qw, .ref qt]))] := hD
    refine lv_if_eq (tgt := 21) hx hb dX4_place_11 (by decide) (fun c_11 => ?_) (fun c_11 => ?_)
    · refine lv_iconst (v := 0) hx hb dX4_place_21 (by decide) ?_
      have hP9 := hP.sub (ws' := [(m0, .inr (3, [.int rx, .int ry, .int rz, .int rw, .int ri, .int ux, .int uy, .int uz, .int vx, .int vy, .int vz, .int cn, .int mo, .ref qw, .ref qt]))]) [0] rfl
      have hD9 := hD.sub (ws' := [(m0, .inr (3, [.int rx, .int ry, .int rz, .int rw, .int ri, .int ux, .int uy, .int uz, .int vx, .int vy, .int vz, .int cn, .int mo, .ref qw, .ref qt]))]) [0] (by decide) rfl
      exact W.zret (v := 0) hx hb hr rfl (fun t9 ht9 hW9 => ⟨⟨0, (rx, ry, rz, rw, cn, mo), rfl, Or.inr ⟨rfl, (fun h => hw_2.f c_11 h.2.1), rfl, rfl, rfl, rfl, rfl, rfl⟩, by rw [ht9]; exact hP9, hD9⟩, hS.F ht9⟩) hS.2.2 dX4_place_22
    · refine lv_iload_n hx hb dX4_place_14 rfl (lv_at hl 3 rfl) ?_
      refine ct_calli (va_runS (As := [.int d]) (rest := []) ⟨hx, hb, hml, hown, hts⟩ (rf_isPlace l dC dI cA cB H.size d ) (va_cwS 1 hts gX4_place_X4_isPlace rfl rfl rfl (by decide +kernel) ⟨Nat.le_of_ble_eq_true rfl, Nat.le_of_ble_eq_true rfl⟩) ⟨ct_blind, ct_pre hP hD hK hZ hN hS hA [] rfl (by decide)⟩ rfl rfl hl.1 rfl (lv_room (Nat.le_of_ble_eq_true rfl)) dX4_place_15 ⟨Nat.le_of_ble_eq_true rfl, Nat.le_of_ble_eq_true rfl⟩) hP hD hS hA [] [0] rfl (wr := [(m0, .inr (3, [.int rx, .int ry, .int rz, .int rw, .int ri, .int ux, .int uy, .int uz, .int vx, .int vy, .int vz, .int cn, .int mo, .ref qw, .ref qt]))]) rfl (by decide) (by decide) (fun r_3 u9 H locs hw_3 hP hD hS => ?_)
      have hw_3 : bo_z r_3 (pl_in d) := hw_3
      have hP : va_P (dC, dI) vwCl [(m0, .inr (3, [.int rx, .int ry, .int rz, .int rw, .int ri, .int ux, .int uy, .int uz, .int vx, .int vy, .int vz, .int cn, .int mo, .ref qw, .ref qt]))] H := hP
      have hD : va_D A [(m0, .inr (3, [.int rx, .int ry, .int rz, .int rw, .int ri, .int ux, .int uy, .int uz, .int vx, .int vy, .int vz, .int cn, .int mo, .ref qw, .ref qt]))] := hD
      refine lv_if_ne (tgt := 23) hx hb dX4_place_18 (by decide) (fun c_18 => ?_) (fun c_18 => ?_)
      · refine lv_aload_n hx hb dX4_place_23 rfl (lv_at hl 0 rfl) ?_
        refine lv_iload_n hx hb dX4_place_24 rfl (lv_at hl 1 rfl) ?_
        refine va_put (D := (dC, dI)) (ci := 3) (v := .int a) (ty := .int) (C := RX4) (T := TX4) (N := 15) hx hb hts hiX4 tyX4 tyX4_ok nmX4 hown hK hP hD hS 0 rfl rfl 0 (by decide) (hts (.fieldLink RX4 22 "TickWalksModel" "x" "I") (List.mem_of_getElem? (l := wsX4_place) (i := 1) rfl)) (fun _ h9 => h9) rfl (by decide +kernel) rfl rfl (Nat.le_of_ble_eq_true rfl) dX4_place_25 (fun H locs hP hD hS => ?_)
        have hP : va_P (dC, dI) vwCl [(m0, .inr (3, [.int a, .int ry, .int rz, .int rw, .int ri, .int ux, .int uy, .int uz, .int vx, .int vy, .int vz, .int cn, .int mo, .ref qw, .ref qt]))] H := hP
        have hD : va_D A [(m0, .inr (3, [.int a, .int ry, .int rz, .int rw, .int ri, .int ux, .int uy, .int uz, .int vx, .int vy, .int vz, .int cn, .int mo, .ref qw, .ref qt]))] := hD
        refine lv_aload_n hx hb dX4_place_28 rfl (lv_at hl 0 rfl) ?_
        refine lv_iload_n hx hb dX4_place_29 rfl (lv_at hl 2 rfl) ?_
        refine va_put (D := (dC, dI)) (ci := 3) (v := .int b) (ty := .int) (C := RX4) (T := TX4) (N := 15) hx hb hts hiX4 tyX4 tyX4_ok nmX4 hown hK hP hD hS 0 rfl rfl 1 (by decide) (hts (.fieldLink RX4 26 "TickWalksModel" "y" "I") (List.mem_of_getElem? (l := wsX4_place) (i := 2) rfl)) (fun _ h9 => h9) rfl (by decide +kernel) rfl rfl (Nat.le_of_ble_eq_true rfl) dX4_place_30 (fun H locs hP hD hS => ?_)
        have hP : va_P (dC, dI) vwCl [(m0, .inr (3, [.int a, .int b, .int rz, .int rw, .int ri, .int ux, .int uy, .int uz, .int vx, .int vy, .int vz, .int cn, .int mo, .ref qw, .ref qt]))] H := hP
        have hD : va_D A [(m0, .inr (3, [.int a, .int b, .int rz, .int rw, .int ri, .int ux, .int uy, .int uz, .int vx, .int vy, .int vz, .int cn, .int mo, .ref qw, .ref qt]))] := hD
        refine lv_aload_n hx hb dX4_place_33 rfl (lv_at hl 0 rfl) ?_
        refine lv_iload_n hx hb dX4_place_34 rfl (lv_at hl 3 rfl) ?_
        refine va_put (D := (dC, dI)) (ci := 3) (v := .int d) (ty := .int) (C := RX4) (T := TX4) (N := 15) hx hb hts hiX4 tyX4 tyX4_ok nmX4 hown hK hP hD hS 0 rfl rfl 2 (by decide) (hts (.fieldLink RX4 29 "TickWalksModel" "z" "I") (List.mem_of_getElem? (l := wsX4_place) (i := 3) rfl)) (fun _ h9 => h9) rfl (by decide +kernel) rfl rfl (Nat.le_of_ble_eq_true rfl) dX4_place_35 (fun H locs hP hD hS => ?_)
        have hP : va_P (dC, dI) vwCl [(m0, .inr (3, [.int a, .int b, .int d, .int rw, .int ri, .int ux, .int uy, .int uz, .int vx, .int vy, .int vz, .int cn, .int mo, .ref qw, .ref qt]))] H := hP
        have hD : va_D A [(m0, .inr (3, [.int a, .int b, .int d, .int rw, .int ri, .int ux, .int uy, .int uz, .int vx, .int vy, .int vz, .int cn, .int mo, .ref qw, .ref qt]))] := hD
        refine lv_aload_n hx hb dX4_place_38 rfl (lv_at hl 0 rfl) ?_
        refine lv_iconst (v := 0) hx hb dX4_place_39 (by decide) ?_
        refine va_put (D := (dC, dI)) (ci := 3) (v := .int 0) (ty := .boolean) (C := RX4) (T := TX4) (N := 15) hx hb hts hiX4 tyX4 tyX4_ok nmX4 hown hK hP hD hS 0 rfl rfl 3 (by decide) (hts (.fieldLink RX4 32 "TickWalksModel" "walked" "Z") (List.mem_of_getElem? (l := wsX4_place) (i := 4) rfl)) (fun _ h9 => h9) rfl (by decide +kernel) rfl rfl (Nat.le_of_ble_eq_true rfl) dX4_place_40 (fun H locs hP hD hS => ?_)
        have hP : va_P (dC, dI) vwCl [(m0, .inr (3, [.int a, .int b, .int d, .int 0, .int ri, .int ux, .int uy, .int uz, .int vx, .int vy, .int vz, .int cn, .int mo, .ref qw, .ref qt]))] H := hP
        have hD : va_D A [(m0, .inr (3, [.int a, .int b, .int d, .int 0, .int ri, .int ux, .int uy, .int uz, .int vx, .int vy, .int vz, .int cn, .int mo, .ref qw, .ref qt]))] := hD
        refine lv_aload_n hx hb dX4_place_43 rfl (lv_at hl 0 rfl) ?_
        refine lv_iconst (v := 0) hx hb dX4_place_44 (by decide) ?_
        refine va_put (D := (dC, dI)) (ci := 3) (v := .int 0) (ty := .int) (C := RX4) (T := TX4) (N := 15) hx hb hts hiX4 tyX4 tyX4_ok nmX4 hown hK hP hD hS 0 rfl rfl 11 (by decide) (hts (.fieldLink RX4 36 "TickWalksModel" "count" "I") (List.mem_of_getElem? (l := wsX4_place) (i := 5) rfl)) (fun _ h9 => h9) rfl (by decide +kernel) rfl rfl (Nat.le_of_ble_eq_true rfl) dX4_place_45 (fun H locs hP hD hS => ?_)
        have hP : va_P (dC, dI) vwCl [(m0, .inr (3, [.int a, .int b, .int d, .int 0, .int ri, .int ux, .int uy, .int uz, .int vx, .int vy, .int vz, .int 0, .int mo, .ref qw, .ref qt]))] H := hP
        have hD : va_D A [(m0, .inr (3, [.int a, .int b, .int d, .int 0, .int ri, .int ux, .int uy, .int uz, .int vx, .int vy, .int vz, .int 0, .int mo, .ref qw, .ref qt]))] := hD
        refine lv_aload_n hx hb dX4_place_48 rfl (lv_at hl 0 rfl) ?_
        refine lv_iconst (v := 0) hx hb dX4_place_49 (by decide) ?_
        refine va_put (D := (dC, dI)) (ci := 3) (v := .int 0) (ty := .int) (C := RX4) (T := TX4) (N := 15) hx hb hts hiX4 tyX4 tyX4_ok nmX4 hown hK hP hD hS 0 rfl rfl 12 (by decide) (hts (.fieldLink RX4 39 "TickWalksModel" "most" "I") (List.mem_of_getElem? (l := wsX4_place) (i := 6) rfl)) (fun _ h9 => h9) rfl (by decide +kernel) rfl rfl (Nat.le_of_ble_eq_true rfl) dX4_place_50 (fun H locs hP hD hS => ?_)
        have hP : va_P (dC, dI) vwCl [(m0, .inr (3, [.int a, .int b, .int d, .int 0, .int ri, .int ux, .int uy, .int uz, .int vx, .int vy, .int vz, .int 0, .int 0, .ref qw, .ref qt]))] H := hP
        have hD : va_D A [(m0, .inr (3, [.int a, .int b, .int d, .int 0, .int ri, .int ux, .int uy, .int uz, .int vx, .int vy, .int vz, .int 0, .int 0, .ref qw, .ref qt]))] := hD
        refine lv_iconst (v := 1) hx hb dX4_place_53 (by decide) ?_
        have hP9 := hP.sub (ws' := [(m0, .inr (3, [.int a, .int b, .int d, .int 0, .int ri, .int ux, .int uy, .int uz, .int vx, .int vy, .int vz, .int 0, .int 0, .ref qw, .ref qt]))]) [0] rfl
        have hD9 := hD.sub (ws' := [(m0, .inr (3, [.int a, .int b, .int d, .int 0, .int ri, .int ux, .int uy, .int uz, .int vx, .int vy, .int vz, .int 0, .int 0, .ref qw, .ref qt]))]) [0] (by decide) rfl
        exact W.zret (v := 1) hx hb hr rfl (fun t9 ht9 hW9 => ⟨⟨1, (a, b, d, 0, 0, 0), rfl, Or.inl ⟨rfl, ⟨hw_1.t c_4, hw_2.t c_11, hw_3.t c_18⟩, rfl, rfl, rfl, rfl, rfl, rfl⟩, by rw [ht9]; exact hP9, hD9⟩, hS.F ht9⟩) hS.2.2 dX4_place_54
      · refine lv_iconst (v := 0) hx hb dX4_place_21 (by decide) ?_
        have hP9 := hP.sub (ws' := [(m0, .inr (3, [.int rx, .int ry, .int rz, .int rw, .int ri, .int ux, .int uy, .int uz, .int vx, .int vy, .int vz, .int cn, .int mo, .ref qw, .ref qt]))]) [0] rfl
        have hD9 := hD.sub (ws' := [(m0, .inr (3, [.int rx, .int ry, .int rz, .int rw, .int ri, .int ux, .int uy, .int uz, .int vx, .int vy, .int vz, .int cn, .int mo, .ref qw, .ref qt]))]) [0] (by decide) rfl
        exact W.zret (v := 0) hx hb hr rfl (fun t9 ht9 hW9 => ⟨⟨0, (rx, ry, rz, rw, cn, mo), rfl, Or.inr ⟨rfl, (fun h => hw_3.f c_18 h.2.2), rfl, rfl, rfl, rfl, rfl, rfl⟩, by rw [ht9]; exact hP9, hD9⟩, hS.F ht9⟩) hS.2.2 dX4_place_22
set_option maxHeartbeats 4000000 in
set_option maxRecDepth 100000 in
/-- TickWalksModel.begin -/
theorem rm_begin (l : Launch) (dC : Nat → ClassId) (dI : Nat → Nat → Nat) (cA cB : ClassId) (sz : Nat) (m0 : Nat) (rx : Int32) (ry : Int32) (rz : Int32) (rw : Int32) (ri : Int32) (ux : Int32) (uy : Int32) (uz : Int32) (vx : Int32) (vy : Int32) (vz : Int32) (cn : Int32) (mo : Int32) (qw : Nat) (qt : Nat) (ab : Int32) (nn : Int32) (hab : ab = 0 ∨ ab = 1) : Met l yX4_begin wsX4_begin ({ frames := 0, cells := 0, slots := 0, locals := 0 }) (va_Pc [.ref m0, .int ab, .int nn] (ct_P dC dI cA cB sz [(m0, .inr (3, [.int rx, .int ry, .int rz, .int rw, .int ri, .int ux, .int uy, .int uz, .int vx, .int vy, .int vz, .int cn, .int mo, .ref qw, .ref qt]))])) (va_Qv (fun (u : Unit) => True) (fun (u : Unit) => ct_B dC dI (va_A [(m0, .inr (3, [.int rx, .int ry, .int rz, .int rw, .int ri, .int ux, .int uy, .int uz, .int vx, .int vy, .int vz, .int cn, .int mo, .ref qw, .ref qt]))] sz) [(m0, .inr (3, [.int rx, .int ry, .int rz, .int 1, .int ab, .int rx, .int ry, .int rz, .int vx, .int vy, .int vz, .int nn, .int 0, .ref qw, .ref qt]))]) (va_A [(m0, .inr (3, [.int rx, .int ry, .int rz, .int rw, .int ri, .int ux, .int uy, .int uz, .int vx, .int vy, .int vz, .int cn, .int mo, .ref qw, .ref qt]))] sz)) 0 0 (va_A [(m0, .inr (3, [.int rx, .int ry, .int rz, .int rw, .int ri, .int ux, .int uy, .int uz, .int vx, .int vy, .int vz, .int cn, .int mo, .ref qw, .ref qt]))] sz) := by
  refine Met.ofW (cc := cX4_begin) (maxL := 3) (ret := none) (by decide +kernel) rfl ?_
  intro p e s m args below meth c s₁ B hml hv
  obtain ⟨rfl, hsz, hP, hK, hD0, hZ, hN⟩ := hv
  have hx := B.exec
  have hb := B.bytes
  have hr := B.returns
  have hts := atoms_spec (ws := wsX4_begin) B.pre
  have hown : s.vm.findClass RX4 = some m.cls := findClass_of_methodNamed B.named
  have hlocks := B.notSynchronized
  have hiX4 : ∀ w ∈ u_ws RX4 TX4 15, w ∈ wsX4_begin := by decide +kernel
  subst hsz
  have hD := hD0.self (sz := s.heap.size)
  generalize hAe : va_A [(m0, .inr (3, [.int rx, .int ry, .int rz, .int rw, .int ri, .int ux, .int uy, .int uz, .int vx, .int vy, .int vz, .int cn, .int mo, .ref qw, .ref qt]))] s.heap.size = A at hD hZ ⊢
  have hA : ∀ q : Nat, s.heap.size ≤ q → A q := fun q h => by rw [← hAe]; exact Or.inr h
  have hl := lv_entry ([.ref m0, .int ab, .int nn]) (n := 3) (Nat.le_of_ble_eq_true rfl)
  rw [lg_entry_eq]
  generalize (lg_sl ([.ref m0, .int ab, .int nn]) ++ List.replicate (3 - (lg_sl ([.ref m0, .int ab, .int nn])).length) Slot.unset).toArray = ls at hl ⊢
  have hl : lv_has ls 3 [(0, .ref m0), (1, .int ab), (2, .int nn)] := hl
  generalize hHe : s.heap = H at hP ⊢
  have hS : va_S A s.heap H [] := by rw [hHe]; exact va_S.rf
  generalize ([] : List Loc) = locs at hS ⊢
  refine lv_aload_n hx hb dX4_begin_0 rfl (lv_at hl 0 rfl) ?_
  refine lv_iconst (v := 1) hx hb dX4_begin_1 (by decide) ?_
  refine va_put (D := (dC, dI)) (ci := 3) (v := .int 1) (ty := .boolean) (C := RX4) (T := TX4) (N := 15) hx hb hts hiX4 tyX4 tyX4_ok nmX4 hown hK hP hD hS 0 rfl rfl 3 (by decide) (hts (.fieldLink RX4 32 "TickWalksModel" "walked" "Z") (List.mem_of_getElem? (l := wsX4_begin) (i := 1) rfl)) (fun _ h9 => h9) rfl (by decide +kernel) rfl rfl (Nat.le_of_ble_eq_true rfl) dX4_begin_2 (fun H locs hP hD hS => ?_)
  have hP : va_P (dC, dI) vwCl [(m0, .inr (3, [.int rx, .int ry, .int rz, .int 1, .int ri, .int ux, .int uy, .int uz, .int vx, .int vy, .int vz, .int cn, .int mo, .ref qw, .ref qt]))] H := hP
  have hD : va_D A [(m0, .inr (3, [.int rx, .int ry, .int rz, .int 1, .int ri, .int ux, .int uy, .int uz, .int vx, .int vy, .int vz, .int cn, .int mo, .ref qw, .ref qt]))] := hD
  refine lv_aload_n hx hb dX4_begin_5 rfl (lv_at hl 0 rfl) ?_
  refine lv_iload_n hx hb dX4_begin_6 rfl (lv_at hl 1 rfl) ?_
  refine va_put (D := (dC, dI)) (ci := 3) (v := .int ab) (ty := .boolean) (C := RX4) (T := TX4) (N := 15) hx hb hts hiX4 tyX4 tyX4_ok nmX4 hown hK hP hD hS 0 rfl rfl 4 (by decide) (hts (.fieldLink RX4 42 "TickWalksModel" "isArc" "Z") (List.mem_of_getElem? (l := wsX4_begin) (i := 2) rfl)) (fun _ h9 => h9) rfl (by decide +kernel) (by rcases hab with h | h <;> rw [h] <;> rfl) (by rcases hab with h | h <;> rw [h] <;> rfl) (Nat.le_of_ble_eq_true rfl) dX4_begin_7 (fun H locs hP hD hS => ?_)
  have hP : va_P (dC, dI) vwCl [(m0, .inr (3, [.int rx, .int ry, .int rz, .int 1, .int ab, .int ux, .int uy, .int uz, .int vx, .int vy, .int vz, .int cn, .int mo, .ref qw, .ref qt]))] H := hP
  have hD : va_D A [(m0, .inr (3, [.int rx, .int ry, .int rz, .int 1, .int ab, .int ux, .int uy, .int uz, .int vx, .int vy, .int vz, .int cn, .int mo, .ref qw, .ref qt]))] := hD
  refine lv_aload_n hx hb dX4_begin_10 rfl (lv_at hl 0 rfl) ?_
  refine lv_aload_n hx hb dX4_begin_11 rfl (lv_at hl 0 rfl) ?_
  refine va_get (D := (dC, dI)) (ci := 3) (v := .int rx) (C := RX4) (T := TX4) (N := 15) hx hb hts hiX4 hown hK hP 0 rfl rfl 0 (by decide) (hts (.fieldLink RX4 22 "TickWalksModel" "x" "I") (List.mem_of_getElem? (l := wsX4_begin) (i := 3) rfl)) (fun _ h9 => h9) rfl dX4_begin_12 ?_
  refine va_put (D := (dC, dI)) (ci := 3) (v := .int rx) (ty := .int) (C := RX4) (T := TX4) (N := 15) hx hb hts hiX4 tyX4 tyX4_ok nmX4 hown hK hP hD hS 0 rfl rfl 5 (by decide) (hts (.fieldLink RX4 45 "TickWalksModel" "fromX" "I") (List.mem_of_getElem? (l := wsX4_begin) (i := 4) rfl)) (fun _ h9 => h9) rfl (by decide +kernel) rfl rfl (Nat.le_of_ble_eq_true rfl) dX4_begin_15 (fun H locs hP hD hS => ?_)
  have hP : va_P (dC, dI) vwCl [(m0, .inr (3, [.int rx, .int ry, .int rz, .int 1, .int ab, .int rx, .int uy, .int uz, .int vx, .int vy, .int vz, .int cn, .int mo, .ref qw, .ref qt]))] H := hP
  have hD : va_D A [(m0, .inr (3, [.int rx, .int ry, .int rz, .int 1, .int ab, .int rx, .int uy, .int uz, .int vx, .int vy, .int vz, .int cn, .int mo, .ref qw, .ref qt]))] := hD
  refine lv_aload_n hx hb dX4_begin_18 rfl (lv_at hl 0 rfl) ?_
  refine lv_aload_n hx hb dX4_begin_19 rfl (lv_at hl 0 rfl) ?_
  refine va_get (D := (dC, dI)) (ci := 3) (v := .int ry) (C := RX4) (T := TX4) (N := 15) hx hb hts hiX4 hown hK hP 0 rfl rfl 1 (by decide) (hts (.fieldLink RX4 26 "TickWalksModel" "y" "I") (List.mem_of_getElem? (l := wsX4_begin) (i := 5) rfl)) (fun _ h9 => h9) rfl dX4_begin_20 ?_
  refine va_put (D := (dC, dI)) (ci := 3) (v := .int ry) (ty := .int) (C := RX4) (T := TX4) (N := 15) hx hb hts hiX4 tyX4 tyX4_ok nmX4 hown hK hP hD hS 0 rfl rfl 6 (by decide) (hts (.fieldLink RX4 48 "TickWalksModel" "fromY" "I") (List.mem_of_getElem? (l := wsX4_begin) (i := 6) rfl)) (fun _ h9 => h9) rfl (by decide +kernel) rfl rfl (Nat.le_of_ble_eq_true rfl) dX4_begin_23 (fun H locs hP hD hS => ?_)
  have hP : va_P (dC, dI) vwCl [(m0, .inr (3, [.int rx, .int ry, .int rz, .int 1, .int ab, .int rx, .int ry, .int uz, .int vx, .int vy, .int vz, .int cn, .int mo, .ref qw, .ref qt]))] H := hP
  have hD : va_D A [(m0, .inr (3, [.int rx, .int ry, .int rz, .int 1, .int ab, .int rx, .int ry, .int uz, .int vx, .int vy, .int vz, .int cn, .int mo, .ref qw, .ref qt]))] := hD
  refine lv_aload_n hx hb dX4_begin_26 rfl (lv_at hl 0 rfl) ?_
  refine lv_aload_n hx hb dX4_begin_27 rfl (lv_at hl 0 rfl) ?_
  refine va_get (D := (dC, dI)) (ci := 3) (v := .int rz) (C := RX4) (T := TX4) (N := 15) hx hb hts hiX4 hown hK hP 0 rfl rfl 2 (by decide) (hts (.fieldLink RX4 29 "TickWalksModel" "z" "I") (List.mem_of_getElem? (l := wsX4_begin) (i := 7) rfl)) (fun _ h9 => h9) rfl dX4_begin_28 ?_
  refine va_put (D := (dC, dI)) (ci := 3) (v := .int rz) (ty := .int) (C := RX4) (T := TX4) (N := 15) hx hb hts hiX4 tyX4 tyX4_ok nmX4 hown hK hP hD hS 0 rfl rfl 7 (by decide) (hts (.fieldLink RX4 51 "TickWalksModel" "fromZ" "I") (List.mem_of_getElem? (l := wsX4_begin) (i := 8) rfl)) (fun _ h9 => h9) rfl (by decide +kernel) rfl rfl (Nat.le_of_ble_eq_true rfl) dX4_begin_31 (fun H locs hP hD hS => ?_)
  have hP : va_P (dC, dI) vwCl [(m0, .inr (3, [.int rx, .int ry, .int rz, .int 1, .int ab, .int rx, .int ry, .int rz, .int vx, .int vy, .int vz, .int cn, .int mo, .ref qw, .ref qt]))] H := hP
  have hD : va_D A [(m0, .inr (3, [.int rx, .int ry, .int rz, .int 1, .int ab, .int rx, .int ry, .int rz, .int vx, .int vy, .int vz, .int cn, .int mo, .ref qw, .ref qt]))] := hD
  refine lv_aload_n hx hb dX4_begin_34 rfl (lv_at hl 0 rfl) ?_
  refine lv_iload_n hx hb dX4_begin_35 rfl (lv_at hl 2 rfl) ?_
  refine va_put (D := (dC, dI)) (ci := 3) (v := .int nn) (ty := .int) (C := RX4) (T := TX4) (N := 15) hx hb hts hiX4 tyX4 tyX4_ok nmX4 hown hK hP hD hS 0 rfl rfl 11 (by decide) (hts (.fieldLink RX4 36 "TickWalksModel" "count" "I") (List.mem_of_getElem? (l := wsX4_begin) (i := 9) rfl)) (fun _ h9 => h9) rfl (by decide +kernel) rfl rfl (Nat.le_of_ble_eq_true rfl) dX4_begin_36 (fun H locs hP hD hS => ?_)
  have hP : va_P (dC, dI) vwCl [(m0, .inr (3, [.int rx, .int ry, .int rz, .int 1, .int ab, .int rx, .int ry, .int rz, .int vx, .int vy, .int vz, .int nn, .int mo, .ref qw, .ref qt]))] H := hP
  have hD : va_D A [(m0, .inr (3, [.int rx, .int ry, .int rz, .int 1, .int ab, .int rx, .int ry, .int rz, .int vx, .int vy, .int vz, .int nn, .int mo, .ref qw, .ref qt]))] := hD
  refine lv_aload_n hx hb dX4_begin_39 rfl (lv_at hl 0 rfl) ?_
  refine lv_iconst (v := 0) hx hb dX4_begin_40 (by decide) ?_
  refine va_put (D := (dC, dI)) (ci := 3) (v := .int 0) (ty := .int) (C := RX4) (T := TX4) (N := 15) hx hb hts hiX4 tyX4 tyX4_ok nmX4 hown hK hP hD hS 0 rfl rfl 12 (by decide) (hts (.fieldLink RX4 39 "TickWalksModel" "most" "I") (List.mem_of_getElem? (l := wsX4_begin) (i := 10) rfl)) (fun _ h9 => h9) rfl (by decide +kernel) rfl rfl (Nat.le_of_ble_eq_true rfl) dX4_begin_41 (fun H locs hP hD hS => ?_)
  have hP : va_P (dC, dI) vwCl [(m0, .inr (3, [.int rx, .int ry, .int rz, .int 1, .int ab, .int rx, .int ry, .int rz, .int vx, .int vy, .int vz, .int nn, .int 0, .ref qw, .ref qt]))] H := hP
  have hD : va_D A [(m0, .inr (3, [.int rx, .int ry, .int rz, .int 1, .int ab, .int rx, .int ry, .int rz, .int vx, .int vy, .int vz, .int nn, .int 0, .ref qw, .ref qt]))] := hD
  have hP9 := hP.sub (ws' := [(m0, .inr (3, [.int rx, .int ry, .int rz, .int 1, .int ab, .int rx, .int ry, .int rz, .int vx, .int vy, .int vz, .int nn, .int 0, .ref qw, .ref qt]))]) [0] rfl
  have hD9 := hD.sub (ws' := [(m0, .inr (3, [.int rx, .int ry, .int rz, .int 1, .int ab, .int rx, .int ry, .int rz, .int vx, .int vy, .int vz, .int nn, .int 0, .ref qw, .ref qt]))]) [0] (by decide) rfl
  exact W.vret hx hb hr (fun t9 ht9 hW9 => ⟨⟨(), rfl, trivial, by rw [ht9]; exact hP9, hD9⟩, hS.F ht9⟩) hS.2.2 dX4_begin_44
set_option maxHeartbeats 4000000 in
set_option maxRecDepth 100000 in
/-- TickWalksModel.line -/
theorem rm_line (l : Launch) (dC : Nat → ClassId) (dI : Nat → Nat → Nat) (cA cB : ClassId) (sz : Nat) (m0 : Nat) (rx : Int32) (ry : Int32) (rz : Int32) (rw : Int32) (ri : Int32) (ux : Int32) (uy : Int32) (uz : Int32) (vx : Int32) (vy : Int32) (vz : Int32) (cn : Int32) (mo : Int32) (qw : Nat) (qt : Nat) (a : Int32) (b : Int32) (d : Int32) : Met l yX4_line wsX4_line ({ frames := 1, cells := 0, slots := 0, locals := 22 }) (va_Pc [.ref m0, .int a, .int b, .int d] (ct_P dC dI cA cB sz [(m0, .inr (3, [.int rx, .int ry, .int rz, .int rw, .int ri, .int ux, .int uy, .int uz, .int vx, .int vy, .int vz, .int cn, .int mo, .ref qw, .ref qt]))])) (va_Qi (fun (r : Int32) (u : Int32 × Int32 × Int32 × Int32 × Int32 × Int32 × Int32 × Int32 × Int32 × Int32 × Int32 × Int32 × Int32) => (r = u.2.2.2.2.2.2.2.2.2.2.2.1 ∧ (pl_in a ∧ pl_in b ∧ pl_in d) ∧ (u.1 = a ∧ u.2.1 = b ∧ u.2.2.1 = d) ∧ (u.2.2.2.1 = 1 ∧ u.2.2.2.2.1 = 0) ∧ (u.2.2.2.2.2.1 = rx ∧ u.2.2.2.2.2.2.1 = ry ∧ u.2.2.2.2.2.2.2.1 = rz) ∧ (u.2.2.2.2.2.2.2.2.1 = a - rx ∧ u.2.2.2.2.2.2.2.2.2.1 = b - ry ∧ u.2.2.2.2.2.2.2.2.2.2.1 = d - rz) ∧ u.2.2.2.2.2.2.2.2.2.2.2.1 = mx_i (am_i u.2.2.2.2.2.2.2.2.1) (mx_i (am_i u.2.2.2.2.2.2.2.2.2.1) (am_i u.2.2.2.2.2.2.2.2.2.2.1)) ∧ u.2.2.2.2.2.2.2.2.2.2.2.2 = 0) ∨ (r = -1 ∧ ¬ (pl_in a ∧ pl_in b ∧ pl_in d) ∧ (u.1 = rx ∧ u.2.1 = ry ∧ u.2.2.1 = rz) ∧ (u.2.2.2.1 = rw ∧ u.2.2.2.2.1 = ri) ∧ (u.2.2.2.2.2.1 = ux ∧ u.2.2.2.2.2.2.1 = uy ∧ u.2.2.2.2.2.2.2.1 = uz) ∧ (u.2.2.2.2.2.2.2.2.1 = vx ∧ u.2.2.2.2.2.2.2.2.2.1 = vy ∧ u.2.2.2.2.2.2.2.2.2.2.1 = vz) ∧ u.2.2.2.2.2.2.2.2.2.2.2.1 = cn ∧ u.2.2.2.2.2.2.2.2.2.2.2.2 = mo)) (fun (u : Int32 × Int32 × Int32 × Int32 × Int32 × Int32 × Int32 × Int32 × Int32 × Int32 × Int32 × Int32 × Int32) => ct_B dC dI (va_A [(m0, .inr (3, [.int rx, .int ry, .int rz, .int rw, .int ri, .int ux, .int uy, .int uz, .int vx, .int vy, .int vz, .int cn, .int mo, .ref qw, .ref qt]))] sz) [(m0, .inr (3, [.int u.1, .int u.2.1, .int u.2.2.1, .int u.2.2.2.1, .int u.2.2.2.2.1, .int u.2.2.2.2.2.1, .int u.2.2.2.2.2.2.1, .int u.2.2.2.2.2.2.2.1, .int u.2.2.2.2.2.2.2.2.1, .int u.2.2.2.2.2.2.2.2.2.1, .int u.2.2.2.2.2.2.2.2.2.2.1, .int u.2.2.2.2.2.2.2.2.2.2.2.1, .int u.2.2.2.2.2.2.2.2.2.2.2.2, .ref qw, .ref qt]))]) (va_A [(m0, .inr (3, [.int rx, .int ry, .int rz, .int rw, .int ri, .int ux, .int uy, .int uz, .int vx, .int vy, .int vz, .int cn, .int mo, .ref qw, .ref qt]))] sz)) 0 0 (va_A [(m0, .inr (3, [.int rx, .int ry, .int rz, .int rw, .int ri, .int ux, .int uy, .int uz, .int vx, .int vy, .int vz, .int cn, .int mo, .ref qw, .ref qt]))] sz) := by
  refine Met.ofW (cc := cX4_line) (maxL := 4) (ret := (some .int)) (by decide +kernel) rfl ?_
  intro p e s m args below meth c s₁ B hml hv
  obtain ⟨rfl, hsz, hP, hK, hD0, hZ, hN⟩ := hv
  have hx := B.exec
  have hb := B.bytes
  have hr := B.returns
  have hts := atoms_spec (ws := wsX4_line) B.pre
  have hown : s.vm.findClass RX4 = some m.cls := findClass_of_methodNamed B.named
  have hlocks := B.notSynchronized
  have hiX4 : ∀ w ∈ u_ws RX4 TX4 15, w ∈ wsX4_line := by decide +kernel
  subst hsz
  have hD := hD0.self (sz := s.heap.size)
  generalize hAe : va_A [(m0, .inr (3, [.int rx, .int ry, .int rz, .int rw, .int ri, .int ux, .int uy, .int uz, .int vx, .int vy, .int vz, .int cn, .int mo, .ref qw, .ref qt]))] s.heap.size = A at hD hZ ⊢
  have hA : ∀ q : Nat, s.heap.size ≤ q → A q := fun q h => by rw [← hAe]; exact Or.inr h
  have hl := lv_entry ([.ref m0, .int a, .int b, .int d]) (n := 4) (Nat.le_of_ble_eq_true rfl)
  rw [lg_entry_eq]
  generalize (lg_sl ([.ref m0, .int a, .int b, .int d]) ++ List.replicate (4 - (lg_sl ([.ref m0, .int a, .int b, .int d])).length) Slot.unset).toArray = ls at hl ⊢
  have hl : lv_has ls 4 [(0, .ref m0), (1, .int a), (2, .int b), (3, .int d)] := hl
  generalize hHe : s.heap = H at hP ⊢
  have hS : va_S A s.heap H [] := by rw [hHe]; exact va_S.rf
  generalize ([] : List Loc) = locs at hS ⊢
  refine lv_iload_n hx hb dX4_line_0 rfl (lv_at hl 1 rfl) ?_
  refine ct_calli (va_runS (As := [.int a]) (rest := []) ⟨hx, hb, hml, hown, hts⟩ (rf_isPlace l dC dI cA cB H.size a ) (va_cwS 1 hts gX4_line_X4_isPlace rfl rfl rfl (by decide +kernel) ⟨Nat.le_of_ble_eq_true rfl, Nat.le_of_ble_eq_true rfl⟩) ⟨ct_blind, ct_pre hP hD hK hZ hN hS hA [] rfl (by decide)⟩ rfl rfl hl.1 rfl (lv_room (Nat.le_of_ble_eq_true rfl)) dX4_line_1 ⟨Nat.le_of_ble_eq_true rfl, Nat.le_of_ble_eq_true rfl⟩) hP hD hS hA [] [0] rfl (wr := [(m0, .inr (3, [.int rx, .int ry, .int rz, .int rw, .int ri, .int ux, .int uy, .int uz, .int vx, .int vy, .int vz, .int cn, .int mo, .ref qw, .ref qt]))]) rfl (by decide) (by decide) (fun r_1 u9 H locs hw_1 hP hD hS => ?_)
  have hw_1 : bo_z r_1 (pl_in a) := hw_1
  have hP : va_P (dC, dI) vwCl [(m0, .inr (3, [.int rx, .int ry, .int rz, .int rw, .int ri, .int ux, .int uy, .int uz, .int vx, .int vy, .int vz, .int cn, .int mo, .ref qw, .ref qt]))] H := hP
  have hD : va_D A [(m0, .inr (3, [.int rx, .int ry, .int rz, .int rw, .int ri, .int ux, .int uy, .int uz, .int vx, .int vy, .int vz, .int cn, .int mo, .ref qw, .ref qt]))] := hD
  refine lv_if_eq (tgt := 21) hx hb dX4_line_4 (by decide) (fun c_4 => ?_) (fun c_4 => ?_)
  · refine lv_iconst (v := -1) hx hb dX4_line_21 (by decide) ?_
    have hP9 := hP.sub (ws' := [(m0, .inr (3, [.int rx, .int ry, .int rz, .int rw, .int ri, .int ux, .int uy, .int uz, .int vx, .int vy, .int vz, .int cn, .int mo, .ref qw, .ref qt]))]) [0] rfl
    have hD9 := hD.sub (ws' := [(m0, .inr (3, [.int rx, .int ry, .int rz, .int rw, .int ri, .int ux, .int uy, .int uz, .int vx, .int vy, .int vz, .int cn, .int mo, .ref qw, .ref qt]))]) [0] (by decide) rfl
    exact W.iret (v := -1) hx hb hr (fun t9 ht9 hW9 => ⟨⟨-1, (rx, ry, rz, rw, ri, ux, uy, uz, vx, vy, vz, cn, mo), rfl, Or.inr ⟨rfl, (fun h => hw_1.f c_4 h.1), ⟨rfl, rfl, rfl⟩, ⟨rfl, rfl⟩, ⟨rfl, rfl, rfl⟩, ⟨rfl, rfl, rfl⟩, rfl, rfl⟩, by rw [ht9]; exact hP9, hD9⟩, hS.F ht9⟩) hS.2.2 dX4_line_22
  · refine lv_iload_n hx hb dX4_line_7 rfl (lv_at hl 2 rfl) ?_
    refine ct_calli (va_runS (As := [.int b]) (rest := []) ⟨hx, hb, hml, hown, hts⟩ (rf_isPlace l dC dI cA cB H.size b ) (va_cwS 1 hts gX4_line_X4_isPlace rfl rfl rfl (by decide +kernel) ⟨Nat.le_of_ble_eq_true rfl, Nat.le_of_ble_eq_true rfl⟩) ⟨ct_blind, ct_pre hP hD hK hZ hN hS hA [] rfl (by decide)⟩ rfl rfl hl.1 rfl (lv_room (Nat.le_of_ble_eq_true rfl)) dX4_line_8 ⟨Nat.le_of_ble_eq_true rfl, Nat.le_of_ble_eq_true rfl⟩) hP hD hS hA [] [0] rfl (wr := [(m0, .inr (3, [.int rx, .int ry, .int rz, .int rw, .int ri, .int ux, .int uy, .int uz, .int vx, .int vy, .int vz, .int cn, .int mo, .ref qw, .ref qt]))]) rfl (by decide) (by decide) (fun r_2 u9 H locs hw_2 hP hD hS => ?_)
    have hw_2 : bo_z r_2 (pl_in b) := hw_2
    have hP : va_P (dC, dI) vwCl [(m0, .inr (3, [.int rx, .int ry, .int rz, .int rw, .int ri, .int ux, .int uy, .int uz, .int vx, .int vy, .int vz, .int cn, .int mo, .ref qw, .ref qt]))] H := hP
    have hD : va_D A [(m0, .inr (3, [.int rx, .int ry, .int rz, .int rw, .int ri, .int ux, .int uy, .int uz, .int vx, .int vy, .int vz, .int cn, .int mo, .ref qw, .ref qt]))] := hD
    refine lv_if_eq (tgt := 21) hx hb dX4_line_11 (by decide) (fun c_11 => ?_) (fun c_11 => ?_)
    · refine lv_iconst (v := -1) hx hb dX4_line_21 (by decide) ?_
      have hP9 := hP.sub (ws' := [(m0, .inr (3, [.int rx, .int ry, .int rz, .int rw, .int ri, .int ux, .int uy, .int uz, .int vx, .int vy, .int vz, .int cn, .int mo, .ref qw, .ref qt]))]) [0] rfl
      have hD9 := hD.sub (ws' := [(m0, .inr (3, [.int rx, .int ry, .int rz, .int rw, .int ri, .int ux, .int uy, .int uz, .int vx, .int vy, .int vz, .int cn, .int mo, .ref qw, .ref qt]))]) [0] (by decide) rfl
      exact W.iret (v := -1) hx hb hr (fun t9 ht9 hW9 => ⟨⟨-1, (rx, ry, rz, rw, ri, ux, uy, uz, vx, vy, vz, cn, mo), rfl, Or.inr ⟨rfl, (fun h => hw_2.f c_11 h.2.1), ⟨rfl, rfl, rfl⟩, ⟨rfl, rfl⟩, ⟨rfl, rfl, rfl⟩, ⟨rfl, rfl, rfl⟩, rfl, rfl⟩, by rw [ht9]; exact hP9, hD9⟩, hS.F ht9⟩) hS.2.2 dX4_line_22
    · refine lv_iload_n hx hb dX4_line_14 rfl (lv_at hl 3 rfl) ?_
      refine ct_calli (va_runS (As := [.int d]) (rest := []) ⟨hx, hb, hml, hown, hts⟩ (rf_isPlace l dC dI cA cB H.size d ) (va_cwS 1 hts gX4_line_X4_isPlace rfl rfl rfl (by decide +kernel) ⟨Nat.le_of_ble_eq_true rfl, Nat.le_of_ble_eq_true rfl⟩) ⟨ct_blind, ct_pre hP hD hK hZ hN hS hA [] rfl (by decide)⟩ rfl rfl hl.1 rfl (lv_room (Nat.le_of_ble_eq_true rfl)) dX4_line_15 ⟨Nat.le_of_ble_eq_true rfl, Nat.le_of_ble_eq_true rfl⟩) hP hD hS hA [] [0] rfl (wr := [(m0, .inr (3, [.int rx, .int ry, .int rz, .int rw, .int ri, .int ux, .int uy, .int uz, .int vx, .int vy, .int vz, .int cn, .int mo, .ref qw, .ref qt]))]) rfl (by decide) (by decide) (fun r_3 u9 H locs hw_3 hP hD hS => ?_)
      have hw_3 : bo_z r_3 (pl_in d) := hw_3
      have hP : va_P (dC, dI) vwCl [(m0, .inr (3, [.int rx, .int ry, .int rz, .int rw, .int ri, .int ux, .int uy, .int uz, .int vx, .int vy, .int vz, .int cn, .int mo, .ref qw, .ref qt]))] H := hP
      have hD : va_D A [(m0, .inr (3, [.int rx, .int ry, .int rz, .int rw, .int ri, .int ux, .int uy, .int uz, .int vx, .int vy, .int vz, .int cn, .int mo, .ref qw, .ref qt]))] := hD
      refine lv_if_ne (tgt := 23) hx hb dX4_line_18 (by decide) (fun c_18 => ?_) (fun c_18 => ?_)
      · refine lv_aload_n hx hb dX4_line_23 rfl (lv_at hl 0 rfl) ?_
        refine lv_iload_n hx hb dX4_line_24 rfl (lv_at hl 1 rfl) ?_
        refine lv_aload_n hx hb dX4_line_25 rfl (lv_at hl 0 rfl) ?_
        refine va_get (D := (dC, dI)) (ci := 3) (v := .int rx) (C := RX4) (T := TX4) (N := 15) hx hb hts hiX4 hown hK hP 0 rfl rfl 0 (by decide) (hts (.fieldLink RX4 22 "TickWalksModel" "x" "I") (List.mem_of_getElem? (l := wsX4_line) (i := 1) rfl)) (fun _ h9 => h9) rfl dX4_line_26 ?_
        refine lv_isub hx hb dX4_line_29 ?_
        refine va_put (D := (dC, dI)) (ci := 3) (v := .int (a - rx)) (ty := .int) (C := RX4) (T := TX4) (N := 15) hx hb hts hiX4 tyX4 tyX4_ok nmX4 hown hK hP hD hS 0 rfl rfl 8 (by decide) (hts (.fieldLink RX4 54 "TickWalksModel" "byX" "I") (List.mem_of_getElem? (l := wsX4_line) (i := 2) rfl)) (fun _ h9 => h9) rfl (by decide +kernel) rfl rfl (Nat.le_of_ble_eq_true rfl) dX4_line_30 (fun H locs hP hD hS => ?_)
        have hP : va_P (dC, dI) vwCl [(m0, .inr (3, [.int rx, .int ry, .int rz, .int rw, .int ri, .int ux, .int uy, .int uz, .int (a - rx), .int vy, .int vz, .int cn, .int mo, .ref qw, .ref qt]))] H := hP
        have hD : va_D A [(m0, .inr (3, [.int rx, .int ry, .int rz, .int rw, .int ri, .int ux, .int uy, .int uz, .int (a - rx), .int vy, .int vz, .int cn, .int mo, .ref qw, .ref qt]))] := hD
        refine lv_aload_n hx hb dX4_line_33 rfl (lv_at hl 0 rfl) ?_
        refine lv_iload_n hx hb dX4_line_34 rfl (lv_at hl 2 rfl) ?_
        refine lv_aload_n hx hb dX4_line_35 rfl (lv_at hl 0 rfl) ?_
        refine va_get (D := (dC, dI)) (ci := 3) (v := .int ry) (C := RX4) (T := TX4) (N := 15) hx hb hts hiX4 hown hK hP 0 rfl rfl 1 (by decide) (hts (.fieldLink RX4 26 "TickWalksModel" "y" "I") (List.mem_of_getElem? (l := wsX4_line) (i := 3) rfl)) (fun _ h9 => h9) rfl dX4_line_36 ?_
        refine lv_isub hx hb dX4_line_39 ?_
        refine va_put (D := (dC, dI)) (ci := 3) (v := .int (b - ry)) (ty := .int) (C := RX4) (T := TX4) (N := 15) hx hb hts hiX4 tyX4 tyX4_ok nmX4 hown hK hP hD hS 0 rfl rfl 9 (by decide) (hts (.fieldLink RX4 57 "TickWalksModel" "byY" "I") (List.mem_of_getElem? (l := wsX4_line) (i := 4) rfl)) (fun _ h9 => h9) rfl (by decide +kernel) rfl rfl (Nat.le_of_ble_eq_true rfl) dX4_line_40 (fun H locs hP hD hS => ?_)
        have hP : va_P (dC, dI) vwCl [(m0, .inr (3, [.int rx, .int ry, .int rz, .int rw, .int ri, .int ux, .int uy, .int uz, .int (a - rx), .int (b - ry), .int vz, .int cn, .int mo, .ref qw, .ref qt]))] H := hP
        have hD : va_D A [(m0, .inr (3, [.int rx, .int ry, .int rz, .int rw, .int ri, .int ux, .int uy, .int uz, .int (a - rx), .int (b - ry), .int vz, .int cn, .int mo, .ref qw, .ref qt]))] := hD
        refine lv_aload_n hx hb dX4_line_43 rfl (lv_at hl 0 rfl) ?_
        refine lv_iload_n hx hb dX4_line_44 rfl (lv_at hl 3 rfl) ?_
        refine lv_aload_n hx hb dX4_line_45 rfl (lv_at hl 0 rfl) ?_
        refine va_get (D := (dC, dI)) (ci := 3) (v := .int rz) (C := RX4) (T := TX4) (N := 15) hx hb hts hiX4 hown hK hP 0 rfl rfl 2 (by decide) (hts (.fieldLink RX4 29 "TickWalksModel" "z" "I") (List.mem_of_getElem? (l := wsX4_line) (i := 5) rfl)) (fun _ h9 => h9) rfl dX4_line_46 ?_
        refine lv_isub hx hb dX4_line_49 ?_
        refine va_put (D := (dC, dI)) (ci := 3) (v := .int (d - rz)) (ty := .int) (C := RX4) (T := TX4) (N := 15) hx hb hts hiX4 tyX4 tyX4_ok nmX4 hown hK hP hD hS 0 rfl rfl 10 (by decide) (hts (.fieldLink RX4 60 "TickWalksModel" "byZ" "I") (List.mem_of_getElem? (l := wsX4_line) (i := 6) rfl)) (fun _ h9 => h9) rfl (by decide +kernel) rfl rfl (Nat.le_of_ble_eq_true rfl) dX4_line_50 (fun H locs hP hD hS => ?_)
        have hP : va_P (dC, dI) vwCl [(m0, .inr (3, [.int rx, .int ry, .int rz, .int rw, .int ri, .int ux, .int uy, .int uz, .int (a - rx), .int (b - ry), .int (d - rz), .int cn, .int mo, .ref qw, .ref qt]))] H := hP
        have hD : va_D A [(m0, .inr (3, [.int rx, .int ry, .int rz, .int rw, .int ri, .int ux, .int uy, .int uz, .int (a - rx), .int (b - ry), .int (d - rz), .int cn, .int mo, .ref qw, .ref qt]))] := hD
        refine lv_aload_n hx hb dX4_line_53 rfl (lv_at hl 0 rfl) ?_
        refine lv_iconst (v := 0) hx hb dX4_line_54 (by decide) ?_
        refine lv_aload_n hx hb dX4_line_55 rfl (lv_at hl 0 rfl) ?_
        refine va_get (D := (dC, dI)) (ci := 3) (v := .int (a - rx)) (C := RX4) (T := TX4) (N := 15) hx hb hts hiX4 hown hK hP 0 rfl rfl 8 (by decide) (hts (.fieldLink RX4 54 "TickWalksModel" "byX" "I") (List.mem_of_getElem? (l := wsX4_line) (i := 2) rfl)) (fun _ h9 => h9) rfl dX4_line_56 ?_
        refine ct_calli (va_runS (As := [.int (a - rx)]) (rest := [.int 0, .ref m0]) ⟨hx, hb, hml, hown, hts⟩ (rf_amount l dC dI cA cB H.size (a - rx) ) (va_cwS 1 hts gX4_line_X4_amount rfl rfl rfl (by decide +kernel) ⟨Nat.le_of_ble_eq_true rfl, Nat.le_of_ble_eq_true rfl⟩) ⟨ct_blind, ct_pre hP hD hK hZ hN hS hA [] rfl (by decide)⟩ rfl rfl hl.1 rfl (lv_room (Nat.le_of_ble_eq_true rfl)) dX4_line_59 ⟨Nat.le_of_ble_eq_true rfl, Nat.le_of_ble_eq_true rfl⟩) hP hD hS hA [] [0] rfl (wr := [(m0, .inr (3, [.int rx, .int ry, .int rz, .int rw, .int ri, .int ux, .int uy, .int uz, .int (a - rx), .int (b - ry), .int (d - rz), .int cn, .int mo, .ref qw, .ref qt]))]) rfl (by decide) (by decide) (fun r_4 u9 H locs hw_4 hP hD hS => ?_)
        have hw_4 : r_4 = am_i (a - rx) := hw_4
        have hP : va_P (dC, dI) vwCl [(m0, .inr (3, [.int rx, .int ry, .int rz, .int rw, .int ri, .int ux, .int uy, .int uz, .int (a - rx), .int (b - ry), .int (d - rz), .int cn, .int mo, .ref qw, .ref qt]))] H := hP
        have hD : va_D A [(m0, .inr (3, [.int rx, .int ry, .int rz, .int rw, .int ri, .int ux, .int uy, .int uz, .int (a - rx), .int (b - ry), .int (d - rz), .int cn, .int mo, .ref qw, .ref qt]))] := hD
        refine lv_aload_n hx hb dX4_line_62 rfl (lv_at hl 0 rfl) ?_
        refine va_get (D := (dC, dI)) (ci := 3) (v := .int (b - ry)) (C := RX4) (T := TX4) (N := 15) hx hb hts hiX4 hown hK hP 0 rfl rfl 9 (by decide) (hts (.fieldLink RX4 57 "TickWalksModel" "byY" "I") (List.mem_of_getElem? (l := wsX4_line) (i := 4) rfl)) (fun _ h9 => h9) rfl dX4_line_63 ?_
        refine ct_calli (va_runS (As := [.int (b - ry)]) (rest := [.int r_4, .int 0, .ref m0]) ⟨hx, hb, hml, hown, hts⟩ (rf_amount l dC dI cA cB H.size (b - ry) ) (va_cwS 1 hts gX4_line_X4_amount rfl rfl rfl (by decide +kernel) ⟨Nat.le_of_ble_eq_true rfl, Nat.le_of_ble_eq_true rfl⟩) ⟨ct_blind, ct_pre hP hD hK hZ hN hS hA [] rfl (by decide)⟩ rfl rfl hl.1 rfl (lv_room (Nat.le_of_ble_eq_true rfl)) dX4_line_66 ⟨Nat.le_of_ble_eq_true rfl, Nat.le_of_ble_eq_true rfl⟩) hP hD hS hA [] [0] rfl (wr := [(m0, .inr (3, [.int rx, .int ry, .int rz, .int rw, .int ri, .int ux, .int uy, .int uz, .int (a - rx), .int (b - ry), .int (d - rz), .int cn, .int mo, .ref qw, .ref qt]))]) rfl (by decide) (by decide) (fun r_5 u9 H locs hw_5 hP hD hS => ?_)
        have hw_5 : r_5 = am_i (b - ry) := hw_5
        have hP : va_P (dC, dI) vwCl [(m0, .inr (3, [.int rx, .int ry, .int rz, .int rw, .int ri, .int ux, .int uy, .int uz, .int (a - rx), .int (b - ry), .int (d - rz), .int cn, .int mo, .ref qw, .ref qt]))] H := hP
        have hD : va_D A [(m0, .inr (3, [.int rx, .int ry, .int rz, .int rw, .int ri, .int ux, .int uy, .int uz, .int (a - rx), .int (b - ry), .int (d - rz), .int cn, .int mo, .ref qw, .ref qt]))] := hD
        refine lv_aload_n hx hb dX4_line_69 rfl (lv_at hl 0 rfl) ?_
        refine va_get (D := (dC, dI)) (ci := 3) (v := .int (d - rz)) (C := RX4) (T := TX4) (N := 15) hx hb hts hiX4 hown hK hP 0 rfl rfl 10 (by decide) (hts (.fieldLink RX4 60 "TickWalksModel" "byZ" "I") (List.mem_of_getElem? (l := wsX4_line) (i := 6) rfl)) (fun _ h9 => h9) rfl dX4_line_70 ?_
        refine ct_calli (va_runS (As := [.int (d - rz)]) (rest := [.int r_5, .int r_4, .int 0, .ref m0]) ⟨hx, hb, hml, hown, hts⟩ (rf_amount l dC dI cA cB H.size (d - rz) ) (va_cwS 1 hts gX4_line_X4_amount rfl rfl rfl (by decide +kernel) ⟨Nat.le_of_ble_eq_true rfl, Nat.le_of_ble_eq_true rfl⟩) ⟨ct_blind, ct_pre hP hD hK hZ hN hS hA [] rfl (by decide)⟩ rfl rfl hl.1 rfl (lv_room (Nat.le_of_ble_eq_true rfl)) dX4_line_73 ⟨Nat.le_of_ble_eq_true rfl, Nat.le_of_ble_eq_true rfl⟩) hP hD hS hA [] [0] rfl (wr := [(m0, .inr (3, [.int rx, .int ry, .int rz, .int rw, .int ri, .int ux, .int uy, .int uz, .int (a - rx), .int (b - ry), .int (d - rz), .int cn, .int mo, .ref qw, .ref qt]))]) rfl (by decide) (by decide) (fun r_6 u9 H locs hw_6 hP hD hS => ?_)
        have hw_6 : r_6 = am_i (d - rz) := hw_6
        have hP : va_P (dC, dI) vwCl [(m0, .inr (3, [.int rx, .int ry, .int rz, .int rw, .int ri, .int ux, .int uy, .int uz, .int (a - rx), .int (b - ry), .int (d - rz), .int cn, .int mo, .ref qw, .ref qt]))] H := hP
        have hD : va_D A [(m0, .inr (3, [.int rx, .int ry, .int rz, .int rw, .int ri, .int ux, .int uy, .int uz, .int (a - rx), .int (b - ry), .int (d - rz), .int cn, .int mo, .ref qw, .ref qt]))] := hD
        refine va_mmax hx hb (hml.trans hl.1.symm) hown (hts (.methodLink RX4 67 Lib.Math.max.name) (List.mem_of_getElem? (l := wsX4_line) (i := 7) rfl)) (hts (.static Lib.Math.max.name) (List.mem_of_getElem? (l := wsX4_line) (i := 8) rfl)) (hts (.initialized "java/lang/Math") (List.mem_of_getElem? (l := wsX4_line) (i := 9) rfl)) (hts (.code Lib.Math.max.name Lib.Math.max.code 2 (some .int)) (List.mem_of_getElem? (l := wsX4_line) (i := 10) rfl)) (Nat.le_of_ble_eq_true rfl) (Nat.le_of_ble_eq_true rfl) (Nat.le_of_ble_eq_true rfl) (Nat.le_of_ble_eq_true rfl) dX4_line_76 ?_
        refine va_mmax hx hb (hml.trans hl.1.symm) hown (hts (.methodLink RX4 67 Lib.Math.max.name) (List.mem_of_getElem? (l := wsX4_line) (i := 7) rfl)) (hts (.static Lib.Math.max.name) (List.mem_of_getElem? (l := wsX4_line) (i := 8) rfl)) (hts (.initialized "java/lang/Math") (List.mem_of_getElem? (l := wsX4_line) (i := 9) rfl)) (hts (.code Lib.Math.max.name Lib.Math.max.code 2 (some .int)) (List.mem_of_getElem? (l := wsX4_line) (i := 10) rfl)) (Nat.le_of_ble_eq_true rfl) (Nat.le_of_ble_eq_true rfl) (Nat.le_of_ble_eq_true rfl) (Nat.le_of_ble_eq_true rfl) dX4_line_79 ?_
        refine ct_callv (va_runV (As := [.int 0, .int (if r_4 < (if r_5 < r_6 then r_6 else r_5) then (if r_5 < r_6 then r_6 else r_5) else r_4)]) (rest := []) ⟨hx, hb, hml, hown, hts⟩ (rm_begin l dC dI cA cB H.size m0 rx ry rz rw ri ux uy uz (a - rx) (b - ry) (d - rz) cn mo qw qt 0 (if r_4 < (if r_5 < r_6 then r_6 else r_5) then (if r_5 < r_6 then r_6 else r_5) else r_4) (Or.inl rfl)) (cwV 2 hts gX4_line_X4_begin rfl rfl rfl (by decide +kernel) ⟨Nat.le_of_ble_eq_true rfl, Nat.le_of_ble_eq_true rfl⟩) ⟨ct_blind, va_recv hK hP (ci := 3) (q0 := 0) rfl rfl, ct_pre hP hD hK hZ hN hS hA [0] rfl (by decide)⟩ rfl rfl hl.1 rfl (lv_room (Nat.le_of_ble_eq_true rfl)) dX4_line_82 ⟨Nat.le_of_ble_eq_true rfl, Nat.le_of_ble_eq_true rfl⟩) hP hD hS hA [0] [] rfl (wr := []) rfl (by decide) (by decide) (fun u9 H locs hw_7 hP hD hS => ?_)
        have hw_7 : True := hw_7
        have hP : va_P (dC, dI) vwCl [(m0, .inr (3, [.int rx, .int ry, .int rz, .int 1, .int 0, .int rx, .int ry, .int rz, .int (a - rx), .int (b - ry), .int (d - rz), .int (if r_4 < (if r_5 < r_6 then r_6 else r_5) then (if r_5 < r_6 then r_6 else r_5) else r_4), .int 0, .ref qw, .ref qt]))] H := hP
        have hD : va_D A [(m0, .inr (3, [.int rx, .int ry, .int rz, .int 1, .int 0, .int rx, .int ry, .int rz, .int (a - rx), .int (b - ry), .int (d - rz), .int (if r_4 < (if r_5 < r_6 then r_6 else r_5) then (if r_5 < r_6 then r_6 else r_5) else r_4), .int 0, .ref qw, .ref qt]))] := hD
        refine lv_aload_n hx hb dX4_line_85 rfl (lv_at hl 0 rfl) ?_
        refine lv_iload_n hx hb dX4_line_86 rfl (lv_at hl 1 rfl) ?_
        refine va_put (D := (dC, dI)) (ci := 3) (v := .int a) (ty := .int) (C := RX4) (T := TX4) (N := 15) hx hb hts hiX4 tyX4 tyX4_ok nmX4 hown hK hP hD hS 0 rfl rfl 0 (by decide) (hts (.fieldLink RX4 22 "TickWalksModel" "x" "I") (List.mem_of_getElem? (l := wsX4_line) (i := 1) rfl)) (fun _ h9 => h9) rfl (by decide +kernel) rfl rfl (Nat.le_of_ble_eq_true rfl) dX4_line_87 (fun H locs hP hD hS => ?_)
        have hP : va_P (dC, dI) vwCl [(m0, .inr (3, [.int a, .int ry, .int rz, .int 1, .int 0, .int rx, .int ry, .int rz, .int (a - rx), .int (b - ry), .int (d - rz), .int (if r_4 < (if r_5 < r_6 then r_6 else r_5) then (if r_5 < r_6 then r_6 else r_5) else r_4), .int 0, .ref qw, .ref qt]))] H := hP
        have hD : va_D A [(m0, .inr (3, [.int a, .int ry, .int rz, .int 1, .int 0, .int rx, .int ry, .int rz, .int (a - rx), .int (b - ry), .int (d - rz), .int (if r_4 < (if r_5 < r_6 then r_6 else r_5) then (if r_5 < r_6 then r_6 else r_5) else r_4), .int 0, .ref qw, .ref qt]))] := hD
        refine lv_aload_n hx hb dX4_line_90 rfl (lv_at hl 0 rfl) ?_
        refine lv_iload_n hx hb dX4_line_91 rfl (lv_at hl 2 rfl) ?_
        refine va_put (D := (dC, dI)) (ci := 3) (v := .int b) (ty := .int) (C := RX4) (T := TX4) (N := 15) hx hb hts hiX4 tyX4 tyX4_ok nmX4 hown hK hP hD hS 0 rfl rfl 1 (by decide) (hts (.fieldLink RX4 26 "TickWalksModel" "y" "I") (List.mem_of_getElem? (l := wsX4_line) (i := 3) rfl)) (fun _ h9 => h9) rfl (by decide +kernel) rfl rfl (Nat.le_of_ble_eq_true rfl) dX4_line_92 (fun H locs hP hD hS => ?_)
        have hP : va_P (dC, dI) vwCl [(m0, .inr (3, [.int a, .int b, .int rz, .int 1, .int 0, .int rx, .int ry, .int rz, .int (a - rx), .int (b - ry), .int (d - rz), .int (if r_4 < (if r_5 < r_6 then r_6 else r_5) then (if r_5 < r_6 then r_6 else r_5) else r_4), .int 0, .ref qw, .ref qt]))] H := hP
        have hD : va_D A [(m0, .inr (3, [.int a, .int b, .int rz, .int 1, .int 0, .int rx, .int ry, .int rz, .int (a - rx), .int (b - ry), .int (d - rz), .int (if r_4 < (if r_5 < r_6 then r_6 else r_5) then (if r_5 < r_6 then r_6 else r_5) else r_4), .int 0, .ref qw, .ref qt]))] := hD
        refine lv_aload_n hx hb dX4_line_95 rfl (lv_at hl 0 rfl) ?_
        refine lv_iload_n hx hb dX4_line_96 rfl (lv_at hl 3 rfl) ?_
        refine va_put (D := (dC, dI)) (ci := 3) (v := .int d) (ty := .int) (C := RX4) (T := TX4) (N := 15) hx hb hts hiX4 tyX4 tyX4_ok nmX4 hown hK hP hD hS 0 rfl rfl 2 (by decide) (hts (.fieldLink RX4 29 "TickWalksModel" "z" "I") (List.mem_of_getElem? (l := wsX4_line) (i := 5) rfl)) (fun _ h9 => h9) rfl (by decide +kernel) rfl rfl (Nat.le_of_ble_eq_true rfl) dX4_line_97 (fun H locs hP hD hS => ?_)
        have hP : va_P (dC, dI) vwCl [(m0, .inr (3, [.int a, .int b, .int d, .int 1, .int 0, .int rx, .int ry, .int rz, .int (a - rx), .int (b - ry), .int (d - rz), .int (if r_4 < (if r_5 < r_6 then r_6 else r_5) then (if r_5 < r_6 then r_6 else r_5) else r_4), .int 0, .ref qw, .ref qt]))] H := hP
        have hD : va_D A [(m0, .inr (3, [.int a, .int b, .int d, .int 1, .int 0, .int rx, .int ry, .int rz, .int (a - rx), .int (b - ry), .int (d - rz), .int (if r_4 < (if r_5 < r_6 then r_6 else r_5) then (if r_5 < r_6 then r_6 else r_5) else r_4), .int 0, .ref qw, .ref qt]))] := hD
        refine lv_aload_n hx hb dX4_line_100 rfl (lv_at hl 0 rfl) ?_
        refine va_get (D := (dC, dI)) (ci := 3) (v := .int (if r_4 < (if r_5 < r_6 then r_6 else r_5) then (if r_5 < r_6 then r_6 else r_5) else r_4)) (C := RX4) (T := TX4) (N := 15) hx hb hts hiX4 hown hK hP 0 rfl rfl 11 (by decide) (hts (.fieldLink RX4 36 "TickWalksModel" "count" "I") (List.mem_of_getElem? (l := wsX4_line) (i := 11) rfl)) (fun _ h9 => h9) rfl dX4_line_101 ?_
        have hP9 := hP.sub (ws' := [(m0, .inr (3, [.int a, .int b, .int d, .int 1, .int 0, .int rx, .int ry, .int rz, .int (a - rx), .int (b - ry), .int (d - rz), .int (if r_4 < (if r_5 < r_6 then r_6 else r_5) then (if r_5 < r_6 then r_6 else r_5) else r_4), .int 0, .ref qw, .ref qt]))]) [0] rfl
        have hD9 := hD.sub (ws' := [(m0, .inr (3, [.int a, .int b, .int d, .int 1, .int 0, .int rx, .int ry, .int rz, .int (a - rx), .int (b - ry), .int (d - rz), .int (if r_4 < (if r_5 < r_6 then r_6 else r_5) then (if r_5 < r_6 then r_6 else r_5) else r_4), .int 0, .ref qw, .ref qt]))]) [0] (by decide) rfl
        exact W.iret (v := (if r_4 < (if r_5 < r_6 then r_6 else r_5) then (if r_5 < r_6 then r_6 else r_5) else r_4)) hx hb hr (fun t9 ht9 hW9 => ⟨⟨(if r_4 < (if r_5 < r_6 then r_6 else r_5) then (if r_5 < r_6 then r_6 else r_5) else r_4), (a, b, d, 1, 0, rx, ry, rz, (a - rx), (b - ry), (d - rz), (if r_4 < (if r_5 < r_6 then r_6 else r_5) then (if r_5 < r_6 then r_6 else r_5) else r_4), 0), rfl, Or.inl ⟨rfl, ⟨hw_1.t c_4, hw_2.t c_11, hw_3.t c_18⟩, ⟨rfl, rfl, rfl⟩, ⟨rfl, rfl⟩, ⟨rfl, rfl, rfl⟩, ⟨rfl, rfl, rfl⟩, by rw [hw_4, hw_5, hw_6]; rfl, rfl⟩, by rw [ht9]; exact hP9, hD9⟩, hS.F ht9⟩) hS.2.2 dX4_line_104
      · refine lv_iconst (v := -1) hx hb dX4_line_21 (by decide) ?_
        have hP9 := hP.sub (ws' := [(m0, .inr (3, [.int rx, .int ry, .int rz, .int rw, .int ri, .int ux, .int uy, .int uz, .int vx, .int vy, .int vz, .int cn, .int mo, .ref qw, .ref qt]))]) [0] rfl
        have hD9 := hD.sub (ws' := [(m0, .inr (3, [.int rx, .int ry, .int rz, .int rw, .int ri, .int ux, .int uy, .int uz, .int vx, .int vy, .int vz, .int cn, .int mo, .ref qw, .ref qt]))]) [0] (by decide) rfl
        exact W.iret (v := -1) hx hb hr (fun t9 ht9 hW9 => ⟨⟨-1, (rx, ry, rz, rw, ri, ux, uy, uz, vx, vy, vz, cn, mo), rfl, Or.inr ⟨rfl, (fun h => hw_3.f c_18 h.2.2), ⟨rfl, rfl, rfl⟩, ⟨rfl, rfl⟩, ⟨rfl, rfl, rfl⟩, ⟨rfl, rfl, rfl⟩, rfl, rfl⟩, by rw [ht9]; exact hP9, hD9⟩, hS.F ht9⟩) hS.2.2 dX4_line_22
set_option maxHeartbeats 4000000 in
set_option maxRecDepth 100000 in
/-- TickWalksModel.partOf -/
theorem rm_part (l : Launch) (dC : Nat → ClassId) (dI : Nat → Nat → Nat) (cA cB : ClassId) (sz : Nat) (m0 : Nat) (rx : Int32) (ry : Int32) (rz : Int32) (rw : Int32) (ri : Int32) (ux : Int32) (uy : Int32) (uz : Int32) (vx : Int32) (vy : Int32) (vz : Int32) (cn : Int32) (mo : Int32) (qw : Nat) (qt : Nat) (bv : Int32) (k : Int32) : Met l yX4_partOf wsX4_partOf ({ frames := 1, cells := 0, slots := 0, locals := 24 }) (va_Pc [.ref m0, .int bv, .int k] (ct_P dC dI cA cB sz [(m0, .inr (3, [.int rx, .int ry, .int rz, .int rw, .int ri, .int ux, .int uy, .int uz, .int vx, .int vy, .int vz, .int cn, .int mo, .ref qw, .ref qt]))])) (va_Qi (fun (r : Int32) (u : Unit) => r = pt_v cn bv k) (fun (u : Unit) => ct_B dC dI (va_A [(m0, .inr (3, [.int rx, .int ry, .int rz, .int rw, .int ri, .int ux, .int uy, .int uz, .int vx, .int vy, .int vz, .int cn, .int mo, .ref qw, .ref qt]))] sz) [(m0, .inr (3, [.int rx, .int ry, .int rz, .int rw, .int ri, .int ux, .int uy, .int uz, .int vx, .int vy, .int vz, .int cn, .int mo, .ref qw, .ref qt]))]) (va_A [(m0, .inr (3, [.int rx, .int ry, .int rz, .int rw, .int ri, .int ux, .int uy, .int uz, .int vx, .int vy, .int vz, .int cn, .int mo, .ref qw, .ref qt]))] sz)) 0 0 (va_A [(m0, .inr (3, [.int rx, .int ry, .int rz, .int rw, .int ri, .int ux, .int uy, .int uz, .int vx, .int vy, .int vz, .int cn, .int mo, .ref qw, .ref qt]))] sz) := by
  refine Met.ofW (cc := cX4_partOf) (maxL := 3) (ret := (some .int)) (by decide +kernel) rfl ?_
  intro p e s m args below meth c s₁ B hml hv
  obtain ⟨rfl, hsz, hP, hK, hD0, hZ, hN⟩ := hv
  have hx := B.exec
  have hb := B.bytes
  have hr := B.returns
  have hts := atoms_spec (ws := wsX4_partOf) B.pre
  have hown : s.vm.findClass RX4 = some m.cls := findClass_of_methodNamed B.named
  have hlocks := B.notSynchronized
  have hiX4 : ∀ w ∈ u_ws RX4 TX4 15, w ∈ wsX4_partOf := by decide +kernel
  subst hsz
  have hD := hD0.self (sz := s.heap.size)
  generalize hAe : va_A [(m0, .inr (3, [.int rx, .int ry, .int rz, .int rw, .int ri, .int ux, .int uy, .int uz, .int vx, .int vy, .int vz, .int cn, .int mo, .ref qw, .ref qt]))] s.heap.size = A at hD hZ ⊢
  have hA : ∀ q : Nat, s.heap.size ≤ q → A q := fun q h => by rw [← hAe]; exact Or.inr h
  have hl := lv_entry ([.ref m0, .int bv, .int k]) (n := 3) (Nat.le_of_ble_eq_true rfl)
  rw [lg_entry_eq]
  generalize (lg_sl ([.ref m0, .int bv, .int k]) ++ List.replicate (3 - (lg_sl ([.ref m0, .int bv, .int k])).length) Slot.unset).toArray = ls at hl ⊢
  have hl : lv_has ls 3 [(0, .ref m0), (1, .int bv), (2, .int k)] := hl
  generalize hHe : s.heap = H at hP ⊢
  have hS : va_S A s.heap H [] := by rw [hHe]; exact va_S.rf
  generalize ([] : List Loc) = locs at hS ⊢
  refine lv_aload_n hx hb dX4_partOf_0 rfl (lv_at hl 0 rfl) ?_
  refine va_get (D := (dC, dI)) (ci := 3) (v := .int cn) (C := RX4) (T := TX4) (N := 15) hx hb hts hiX4 hown hK hP 0 rfl rfl 11 (by decide) (hts (.fieldLink RX4 36 "TickWalksModel" "count" "I") (List.mem_of_getElem? (l := wsX4_partOf) (i := 1) rfl)) (fun _ h9 => h9) rfl dX4_partOf_1 ?_
  refine lv_if_ne (tgt := 11) hx hb dX4_partOf_4 (by decide) (fun c_4 => ?_) (fun c_4 => ?_)
  · refine lv_ldc2 (v := 2) hx hb hown (hts (.constantLong RX4 98 (2)) (List.mem_of_getElem? (l := wsX4_partOf) (i := 2) rfl)) dX4_partOf_11 ?_
    refine lv_iload_n hx hb dX4_partOf_14 rfl (lv_at hl 1 rfl) ?_
    refine lv_i2l hx hb dX4_partOf_15 rfl ?_
    refine lv_lmul hx hb dX4_partOf_16 ?_
    refine lv_iload_n hx hb dX4_partOf_17 rfl (lv_at hl 2 rfl) ?_
    refine lv_i2l hx hb dX4_partOf_18 rfl ?_
    refine lv_lmul hx hb dX4_partOf_19 ?_
    refine lv_aload_n hx hb dX4_partOf_20 rfl (lv_at hl 0 rfl) ?_
    refine va_get (D := (dC, dI)) (ci := 3) (v := .int cn) (C := RX4) (T := TX4) (N := 15) hx hb hts hiX4 hown hK hP 0 rfl rfl 11 (by decide) (hts (.fieldLink RX4 36 "TickWalksModel" "count" "I") (List.mem_of_getElem? (l := wsX4_partOf) (i := 1) rfl)) (fun _ h9 => h9) rfl dX4_partOf_21 ?_
    refine lv_i2l hx hb dX4_partOf_24 rfl ?_
    refine lv_ladd hx hb dX4_partOf_25 ?_
    refine lv_ldc2 (v := 2) hx hb hown (hts (.constantLong RX4 98 (2)) (List.mem_of_getElem? (l := wsX4_partOf) (i := 2) rfl)) dX4_partOf_26 ?_
    refine lv_aload_n hx hb dX4_partOf_29 rfl (lv_at hl 0 rfl) ?_
    refine va_get (D := (dC, dI)) (ci := 3) (v := .int cn) (C := RX4) (T := TX4) (N := 15) hx hb hts hiX4 hown hK hP 0 rfl rfl 11 (by decide) (hts (.fieldLink RX4 36 "TickWalksModel" "count" "I") (List.mem_of_getElem? (l := wsX4_partOf) (i := 1) rfl)) (fun _ h9 => h9) rfl dX4_partOf_30 ?_
    refine lv_i2l hx hb dX4_partOf_33 rfl ?_
    refine lv_lmul hx hb dX4_partOf_34 ?_
    refine ct_calli (va_runS (As := [.long (((2 * bv.toInt64) * k.toInt64) + cn.toInt64), .long (2 * cn.toInt64)]) (rest := []) ⟨hx, hb, hml, hown, hts⟩ (rf_down l dC dI cA cB H.size (((2 * bv.toInt64) * k.toInt64) + cn.toInt64) (2 * cn.toInt64) (ne_2l c_4)) (va_cwS 2 hts gX4_partOf_X4_down rfl rfl rfl (by decide +kernel) ⟨Nat.le_of_ble_eq_true rfl, Nat.le_of_ble_eq_true rfl⟩) ⟨ct_blind, ct_pre hP hD hK hZ hN hS hA [] rfl (by decide)⟩ rfl rfl hl.1 rfl (lv_room (Nat.le_of_ble_eq_true rfl)) dX4_partOf_35 ⟨Nat.le_of_ble_eq_true rfl, Nat.le_of_ble_eq_true rfl⟩) hP hD hS hA [] [0] rfl (wr := [(m0, .inr (3, [.int rx, .int ry, .int rz, .int rw, .int ri, .int ux, .int uy, .int uz, .int vx, .int vy, .int vz, .int cn, .int mo, .ref qw, .ref qt]))]) rfl (by decide) (by decide) (fun r_1 u9 H locs hw_1 hP hD hS => ?_)
    have hw_1 : r_1 = (fd_d (((2 * bv.toInt64) * k.toInt64) + cn.toInt64) (2 * cn.toInt64)).toInt32 := hw_1
    have hP : va_P (dC, dI) vwCl [(m0, .inr (3, [.int rx, .int ry, .int rz, .int rw, .int ri, .int ux, .int uy, .int uz, .int vx, .int vy, .int vz, .int cn, .int mo, .ref qw, .ref qt]))] H := hP
    have hD : va_D A [(m0, .inr (3, [.int rx, .int ry, .int rz, .int rw, .int ri, .int ux, .int uy, .int uz, .int vx, .int vy, .int vz, .int cn, .int mo, .ref qw, .ref qt]))] := hD
    have hP9 := hP.sub (ws' := [(m0, .inr (3, [.int rx, .int ry, .int rz, .int rw, .int ri, .int ux, .int uy, .int uz, .int vx, .int vy, .int vz, .int cn, .int mo, .ref qw, .ref qt]))]) [0] rfl
    have hD9 := hD.sub (ws' := [(m0, .inr (3, [.int rx, .int ry, .int rz, .int rw, .int ri, .int ux, .int uy, .int uz, .int vx, .int vy, .int vz, .int cn, .int mo, .ref qw, .ref qt]))]) [0] (by decide) rfl
    exact W.iret (v := r_1) hx hb hr (fun t9 ht9 hW9 => ⟨⟨r_1, (), rfl, (by unfold pt_v; rw [if_neg c_4]; exact hw_1), by rw [ht9]; exact hP9, hD9⟩, hS.F ht9⟩) hS.2.2 dX4_partOf_38
  · refine lv_iconst (v := 0) hx hb dX4_partOf_7 (by decide) ?_
    refine lv_goto (tgt := 38) hx hb dX4_partOf_8 (by decide) ?_
    have hP9 := hP.sub (ws' := [(m0, .inr (3, [.int rx, .int ry, .int rz, .int rw, .int ri, .int ux, .int uy, .int uz, .int vx, .int vy, .int vz, .int cn, .int mo, .ref qw, .ref qt]))]) [0] rfl
    have hD9 := hD.sub (ws' := [(m0, .inr (3, [.int rx, .int ry, .int rz, .int rw, .int ri, .int ux, .int uy, .int uz, .int vx, .int vy, .int vz, .int cn, .int mo, .ref qw, .ref qt]))]) [0] (by decide) rfl
    exact W.iret (v := 0) hx hb hr (fun t9 ht9 hW9 => ⟨⟨0, (), rfl, (by unfold pt_v; rw [if_pos c_4]), by rw [ht9]; exact hP9, hD9⟩, hS.F ht9⟩) hS.2.2 dX4_partOf_38
set_option maxHeartbeats 4000000 in
set_option maxRecDepth 100000 in
/-- TickWalksModel.ticks -/
theorem rm_ticks (l : Launch) (dC : Nat → ClassId) (dI : Nat → Nat → Nat) (cA cB : ClassId) (sz : Nat) (m0 : Nat) (rx : Int32) (ry : Int32) (rz : Int32) (rw : Int32) (ri : Int32) (ux : Int32) (uy : Int32) (uz : Int32) (vx : Int32) (vy : Int32) (vz : Int32) (cn : Int32) (mo : Int32) (qw : Nat) (qt : Nat) : Met l yX4_ticks wsX4_ticks ({ frames := 0, cells := 0, slots := 0, locals := 0 }) (va_Pc [.ref m0] (ct_P dC dI cA cB sz [(m0, .inr (3, [.int rx, .int ry, .int rz, .int rw, .int ri, .int ux, .int uy, .int uz, .int vx, .int vy, .int vz, .int cn, .int mo, .ref qw, .ref qt]))])) (va_Qi (fun (r : Int32) (u : Unit) => r = cn) (fun (u : Unit) => ct_B dC dI (va_A [(m0, .inr (3, [.int rx, .int ry, .int rz, .int rw, .int ri, .int ux, .int uy, .int uz, .int vx, .int vy, .int vz, .int cn, .int mo, .ref qw, .ref qt]))] sz) [(m0, .inr (3, [.int rx, .int ry, .int rz, .int rw, .int ri, .int ux, .int uy, .int uz, .int vx, .int vy, .int vz, .int cn, .int mo, .ref qw, .ref qt]))]) (va_A [(m0, .inr (3, [.int rx, .int ry, .int rz, .int rw, .int ri, .int ux, .int uy, .int uz, .int vx, .int vy, .int vz, .int cn, .int mo, .ref qw, .ref qt]))] sz)) 0 0 (va_A [(m0, .inr (3, [.int rx, .int ry, .int rz, .int rw, .int ri, .int ux, .int uy, .int uz, .int vx, .int vy, .int vz, .int cn, .int mo, .ref qw, .ref qt]))] sz) := by
  refine Met.ofW (cc := cX4_ticks) (maxL := 1) (ret := (some .int)) (by decide +kernel) rfl ?_
  intro p e s m args below meth c s₁ B hml hv
  obtain ⟨rfl, hsz, hP, hK, hD0, hZ, hN⟩ := hv
  have hx := B.exec
  have hb := B.bytes
  have hr := B.returns
  have hts := atoms_spec (ws := wsX4_ticks) B.pre
  have hown : s.vm.findClass RX4 = some m.cls := findClass_of_methodNamed B.named
  have hlocks := B.notSynchronized
  have hiX4 : ∀ w ∈ u_ws RX4 TX4 15, w ∈ wsX4_ticks := by decide +kernel
  subst hsz
  have hD := hD0.self (sz := s.heap.size)
  generalize hAe : va_A [(m0, .inr (3, [.int rx, .int ry, .int rz, .int rw, .int ri, .int ux, .int uy, .int uz, .int vx, .int vy, .int vz, .int cn, .int mo, .ref qw, .ref qt]))] s.heap.size = A at hD hZ ⊢
  have hA : ∀ q : Nat, s.heap.size ≤ q → A q := fun q h => by rw [← hAe]; exact Or.inr h
  have hl := lv_entry ([.ref m0]) (n := 1) (Nat.le_of_ble_eq_true rfl)
  rw [lg_entry_eq]
  generalize (lg_sl ([.ref m0]) ++ List.replicate (1 - (lg_sl ([.ref m0])).length) Slot.unset).toArray = ls at hl ⊢
  have hl : lv_has ls 1 [(0, .ref m0)] := hl
  generalize hHe : s.heap = H at hP ⊢
  have hS : va_S A s.heap H [] := by rw [hHe]; exact va_S.rf
  generalize ([] : List Loc) = locs at hS ⊢
  refine lv_aload_n hx hb dX4_ticks_0 rfl (lv_at hl 0 rfl) ?_
  refine va_get (D := (dC, dI)) (ci := 3) (v := .int cn) (C := RX4) (T := TX4) (N := 15) hx hb hts hiX4 hown hK hP 0 rfl rfl 11 (by decide) (hts (.fieldLink RX4 36 "TickWalksModel" "count" "I") (List.mem_of_getElem? (l := wsX4_ticks) (i := 1) rfl)) (fun _ h9 => h9) rfl dX4_ticks_1 ?_
  have hP9 := hP.sub (ws' := [(m0, .inr (3, [.int rx, .int ry, .int rz, .int rw, .int ri, .int ux, .int uy, .int uz, .int vx, .int vy, .int vz, .int cn, .int mo, .ref qw, .ref qt]))]) [0] rfl
  have hD9 := hD.sub (ws' := [(m0, .inr (3, [.int rx, .int ry, .int rz, .int rw, .int ri, .int ux, .int uy, .int uz, .int vx, .int vy, .int vz, .int cn, .int mo, .ref qw, .ref qt]))]) [0] (by decide) rfl
  exact W.iret (v := cn) hx hb hr (fun t9 ht9 hW9 => ⟨⟨cn, (), rfl, rfl, by rw [ht9]; exact hP9, hD9⟩, hS.F ht9⟩) hS.2.2 dX4_ticks_4
set_option maxHeartbeats 4000000 in
set_option maxRecDepth 100000 in
/-- TickWalksModel.off -/
theorem rm_off (l : Launch) (dC : Nat → ClassId) (dI : Nat → Nat → Nat) (cA cB : ClassId) (sz : Nat) (m0 : Nat) (rx : Int32) (ry : Int32) (rz : Int32) (rw : Int32) (ri : Int32) (ux : Int32) (uy : Int32) (uz : Int32) (vx : Int32) (vy : Int32) (vz : Int32) (cn : Int32) (mo : Int32) (qw : Nat) (qt : Nat) : Met l yX4_off wsX4_off ({ frames := 0, cells := 0, slots := 0, locals := 0 }) (va_Pc [.ref m0] (ct_P dC dI cA cB sz [(m0, .inr (3, [.int rx, .int ry, .int rz, .int rw, .int ri, .int ux, .int uy, .int uz, .int vx, .int vy, .int vz, .int cn, .int mo, .ref qw, .ref qt]))])) (va_Qi (fun (r : Int32) (u : Unit) => r = mo) (fun (u : Unit) => ct_B dC dI (va_A [(m0, .inr (3, [.int rx, .int ry, .int rz, .int rw, .int ri, .int ux, .int uy, .int uz, .int vx, .int vy, .int vz, .int cn, .int mo, .ref qw, .ref qt]))] sz) [(m0, .inr (3, [.int rx, .int ry, .int rz, .int rw, .int ri, .int ux, .int uy, .int uz, .int vx, .int vy, .int vz, .int cn, .int mo, .ref qw, .ref qt]))]) (va_A [(m0, .inr (3, [.int rx, .int ry, .int rz, .int rw, .int ri, .int ux, .int uy, .int uz, .int vx, .int vy, .int vz, .int cn, .int mo, .ref qw, .ref qt]))] sz)) 0 0 (va_A [(m0, .inr (3, [.int rx, .int ry, .int rz, .int rw, .int ri, .int ux, .int uy, .int uz, .int vx, .int vy, .int vz, .int cn, .int mo, .ref qw, .ref qt]))] sz) := by
  refine Met.ofW (cc := cX4_off) (maxL := 1) (ret := (some .int)) (by decide +kernel) rfl ?_
  intro p e s m args below meth c s₁ B hml hv
  obtain ⟨rfl, hsz, hP, hK, hD0, hZ, hN⟩ := hv
  have hx := B.exec
  have hb := B.bytes
  have hr := B.returns
  have hts := atoms_spec (ws := wsX4_off) B.pre
  have hown : s.vm.findClass RX4 = some m.cls := findClass_of_methodNamed B.named
  have hlocks := B.notSynchronized
  have hiX4 : ∀ w ∈ u_ws RX4 TX4 15, w ∈ wsX4_off := by decide +kernel
  subst hsz
  have hD := hD0.self (sz := s.heap.size)
  generalize hAe : va_A [(m0, .inr (3, [.int rx, .int ry, .int rz, .int rw, .int ri, .int ux, .int uy, .int uz, .int vx, .int vy, .int vz, .int cn, .int mo, .ref qw, .ref qt]))] s.heap.size = A at hD hZ ⊢
  have hA : ∀ q : Nat, s.heap.size ≤ q → A q := fun q h => by rw [← hAe]; exact Or.inr h
  have hl := lv_entry ([.ref m0]) (n := 1) (Nat.le_of_ble_eq_true rfl)
  rw [lg_entry_eq]
  generalize (lg_sl ([.ref m0]) ++ List.replicate (1 - (lg_sl ([.ref m0])).length) Slot.unset).toArray = ls at hl ⊢
  have hl : lv_has ls 1 [(0, .ref m0)] := hl
  generalize hHe : s.heap = H at hP ⊢
  have hS : va_S A s.heap H [] := by rw [hHe]; exact va_S.rf
  generalize ([] : List Loc) = locs at hS ⊢
  refine lv_aload_n hx hb dX4_off_0 rfl (lv_at hl 0 rfl) ?_
  refine va_get (D := (dC, dI)) (ci := 3) (v := .int mo) (C := RX4) (T := TX4) (N := 15) hx hb hts hiX4 hown hK hP 0 rfl rfl 12 (by decide) (hts (.fieldLink RX4 39 "TickWalksModel" "most" "I") (List.mem_of_getElem? (l := wsX4_off) (i := 1) rfl)) (fun _ h9 => h9) rfl dX4_off_1 ?_
  have hP9 := hP.sub (ws' := [(m0, .inr (3, [.int rx, .int ry, .int rz, .int rw, .int ri, .int ux, .int uy, .int uz, .int vx, .int vy, .int vz, .int cn, .int mo, .ref qw, .ref qt]))]) [0] rfl
  have hD9 := hD.sub (ws' := [(m0, .inr (3, [.int rx, .int ry, .int rz, .int rw, .int ri, .int ux, .int uy, .int uz, .int vx, .int vy, .int vz, .int cn, .int mo, .ref qw, .ref qt]))]) [0] (by decide) rfl
  exact W.iret (v := mo) hx hb hr (fun t9 ht9 hW9 => ⟨⟨mo, (), rfl, rfl, by rw [ht9]; exact hP9, hD9⟩, hS.F ht9⟩) hS.2.2 dX4_off_4
set_option maxHeartbeats 4000000 in
set_option maxRecDepth 100000 in
/-- TickWalksModel.at -/
theorem rm_at (l : Launch) (dC : Nat → ClassId) (dI : Nat → Nat → Nat) (cA cB : ClassId) (sz : Nat) (m0 : Nat) (rx : Int32) (ry : Int32) (rz : Int32) (rw : Int32) (ri : Int32) (ux : Int32) (uy : Int32) (uz : Int32) (vx : Int32) (vy : Int32) (vz : Int32) (cn : Int32) (mo : Int32) (qw : Nat) (qt : Nat) (a : Int32) : Met l yX4_at wsX4_at ({ frames := 0, cells := 0, slots := 0, locals := 0 }) (va_Pc [.ref m0, .int a] (ct_P dC dI cA cB sz [(m0, .inr (3, [.int rx, .int ry, .int rz, .int rw, .int ri, .int ux, .int uy, .int uz, .int vx, .int vy, .int vz, .int cn, .int mo, .ref qw, .ref qt]))])) (va_Qi (fun (r : Int32) (u : Unit) => r = (if a = 0 then rx else if a = 1 then ry else if a = 2 then rz else 0)) (fun (u : Unit) => ct_B dC dI (va_A [(m0, .inr (3, [.int rx, .int ry, .int rz, .int rw, .int ri, .int ux, .int uy, .int uz, .int vx, .int vy, .int vz, .int cn, .int mo, .ref qw, .ref qt]))] sz) [(m0, .inr (3, [.int rx, .int ry, .int rz, .int rw, .int ri, .int ux, .int uy, .int uz, .int vx, .int vy, .int vz, .int cn, .int mo, .ref qw, .ref qt]))]) (va_A [(m0, .inr (3, [.int rx, .int ry, .int rz, .int rw, .int ri, .int ux, .int uy, .int uz, .int vx, .int vy, .int vz, .int cn, .int mo, .ref qw, .ref qt]))] sz)) 0 0 (va_A [(m0, .inr (3, [.int rx, .int ry, .int rz, .int rw, .int ri, .int ux, .int uy, .int uz, .int vx, .int vy, .int vz, .int cn, .int mo, .ref qw, .ref qt]))] sz) := by
  refine Met.ofW (cc := cX4_at) (maxL := 2) (ret := (some .int)) (by decide +kernel) rfl ?_
  intro p e s m args below meth c s₁ B hml hv
  obtain ⟨rfl, hsz, hP, hK, hD0, hZ, hN⟩ := hv
  have hx := B.exec
  have hb := B.bytes
  have hr := B.returns
  have hts := atoms_spec (ws := wsX4_at) B.pre
  have hown : s.vm.findClass RX4 = some m.cls := findClass_of_methodNamed B.named
  have hlocks := B.notSynchronized
  have hiX4 : ∀ w ∈ u_ws RX4 TX4 15, w ∈ wsX4_at := by decide +kernel
  subst hsz
  have hD := hD0.self (sz := s.heap.size)
  generalize hAe : va_A [(m0, .inr (3, [.int rx, .int ry, .int rz, .int rw, .int ri, .int ux, .int uy, .int uz, .int vx, .int vy, .int vz, .int cn, .int mo, .ref qw, .ref qt]))] s.heap.size = A at hD hZ ⊢
  have hA : ∀ q : Nat, s.heap.size ≤ q → A q := fun q h => by rw [← hAe]; exact Or.inr h
  have hl := lv_entry ([.ref m0, .int a]) (n := 2) (Nat.le_of_ble_eq_true rfl)
  rw [lg_entry_eq]
  generalize (lg_sl ([.ref m0, .int a]) ++ List.replicate (2 - (lg_sl ([.ref m0, .int a])).length) Slot.unset).toArray = ls at hl ⊢
  have hl : lv_has ls 2 [(0, .ref m0), (1, .int a)] := hl
  generalize hHe : s.heap = H at hP ⊢
  have hS : va_S A s.heap H [] := by rw [hHe]; exact va_S.rf
  generalize ([] : List Loc) = locs at hS ⊢
  refine lv_iload_n hx hb dX4_at_0 rfl (lv_at hl 1 rfl) ?_
  refine lv_if_ne (tgt := 11) hx hb dX4_at_1 (by decide) (fun c_1 => ?_) (fun c_1 => ?_)
  · refine lv_iload_n hx hb dX4_at_11 rfl (lv_at hl 1 rfl) ?_
    refine lv_iconst (v := 1) hx hb dX4_at_12 (by decide) ?_
    refine lv_icmp_ne (tgt := 23) hx hb dX4_at_13 (by decide) (fun c_13 => ?_) (fun c_13 => ?_)
    · refine lv_iload_n hx hb dX4_at_23 rfl (lv_at hl 1 rfl) ?_
      refine lv_iconst (v := 2) hx hb dX4_at_24 (by decide) ?_
      refine lv_icmp_ne (tgt := 35) hx hb dX4_at_25 (by decide) (fun c_25 => ?_) (fun c_25 => ?_)
      · refine lv_iconst (v := 0) hx hb dX4_at_35 (by decide) ?_
        have hP9 := hP.sub (ws' := [(m0, .inr (3, [.int rx, .int ry, .int rz, .int rw, .int ri, .int ux, .int uy, .int uz, .int vx, .int vy, .int vz, .int cn, .int mo, .ref qw, .ref qt]))]) [0] rfl
        have hD9 := hD.sub (ws' := [(m0, .inr (3, [.int rx, .int ry, .int rz, .int rw, .int ri, .int ux, .int uy, .int uz, .int vx, .int vy, .int vz, .int cn, .int mo, .ref qw, .ref qt]))]) [0] (by decide) rfl
        exact W.iret (v := 0) hx hb hr (fun t9 ht9 hW9 => ⟨⟨0, (), rfl, (by rw [if_neg c_1, if_neg c_13, if_neg c_25]), by rw [ht9]; exact hP9, hD9⟩, hS.F ht9⟩) hS.2.2 dX4_at_36
      · refine lv_aload_n hx hb dX4_at_28 rfl (lv_at hl 0 rfl) ?_
        refine va_get (D := (dC, dI)) (ci := 3) (v := .int rz) (C := RX4) (T := TX4) (N := 15) hx hb hts hiX4 hown hK hP 0 rfl rfl 2 (by decide) (hts (.fieldLink RX4 29 "TickWalksModel" "z" "I") (List.mem_of_getElem? (l := wsX4_at) (i := 3) rfl)) (fun _ h9 => h9) rfl dX4_at_29 ?_
        refine lv_goto (tgt := 36) hx hb dX4_at_32 (by decide) ?_
        have hP9 := hP.sub (ws' := [(m0, .inr (3, [.int rx, .int ry, .int rz, .int rw, .int ri, .int ux, .int uy, .int uz, .int vx, .int vy, .int vz, .int cn, .int mo, .ref qw, .ref qt]))]) [0] rfl
        have hD9 := hD.sub (ws' := [(m0, .inr (3, [.int rx, .int ry, .int rz, .int rw, .int ri, .int ux, .int uy, .int uz, .int vx, .int vy, .int vz, .int cn, .int mo, .ref qw, .ref qt]))]) [0] (by decide) rfl
        exact W.iret (v := rz) hx hb hr (fun t9 ht9 hW9 => ⟨⟨rz, (), rfl, (by rw [if_neg c_1, if_neg c_13, if_pos c_25]), by rw [ht9]; exact hP9, hD9⟩, hS.F ht9⟩) hS.2.2 dX4_at_36
    · refine lv_aload_n hx hb dX4_at_16 rfl (lv_at hl 0 rfl) ?_
      refine va_get (D := (dC, dI)) (ci := 3) (v := .int ry) (C := RX4) (T := TX4) (N := 15) hx hb hts hiX4 hown hK hP 0 rfl rfl 1 (by decide) (hts (.fieldLink RX4 26 "TickWalksModel" "y" "I") (List.mem_of_getElem? (l := wsX4_at) (i := 2) rfl)) (fun _ h9 => h9) rfl dX4_at_17 ?_
      refine lv_goto (tgt := 36) hx hb dX4_at_20 (by decide) ?_
      have hP9 := hP.sub (ws' := [(m0, .inr (3, [.int rx, .int ry, .int rz, .int rw, .int ri, .int ux, .int uy, .int uz, .int vx, .int vy, .int vz, .int cn, .int mo, .ref qw, .ref qt]))]) [0] rfl
      have hD9 := hD.sub (ws' := [(m0, .inr (3, [.int rx, .int ry, .int rz, .int rw, .int ri, .int ux, .int uy, .int uz, .int vx, .int vy, .int vz, .int cn, .int mo, .ref qw, .ref qt]))]) [0] (by decide) rfl
      exact W.iret (v := ry) hx hb hr (fun t9 ht9 hW9 => ⟨⟨ry, (), rfl, (by rw [if_neg c_1, if_pos c_13]), by rw [ht9]; exact hP9, hD9⟩, hS.F ht9⟩) hS.2.2 dX4_at_36
  · refine lv_aload_n hx hb dX4_at_4 rfl (lv_at hl 0 rfl) ?_
    refine va_get (D := (dC, dI)) (ci := 3) (v := .int rx) (C := RX4) (T := TX4) (N := 15) hx hb hts hiX4 hown hK hP 0 rfl rfl 0 (by decide) (hts (.fieldLink RX4 22 "TickWalksModel" "x" "I") (List.mem_of_getElem? (l := wsX4_at) (i := 1) rfl)) (fun _ h9 => h9) rfl dX4_at_5 ?_
    refine lv_goto (tgt := 36) hx hb dX4_at_8 (by decide) ?_
    have hP9 := hP.sub (ws' := [(m0, .inr (3, [.int rx, .int ry, .int rz, .int rw, .int ri, .int ux, .int uy, .int uz, .int vx, .int vy, .int vz, .int cn, .int mo, .ref qw, .ref qt]))]) [0] rfl
    have hD9 := hD.sub (ws' := [(m0, .inr (3, [.int rx, .int ry, .int rz, .int rw, .int ri, .int ux, .int uy, .int uz, .int vx, .int vy, .int vz, .int cn, .int mo, .ref qw, .ref qt]))]) [0] (by decide) rfl
    exact W.iret (v := rx) hx hb hr (fun t9 ht9 hW9 => ⟨⟨rx, (), rfl, (by rw [if_pos c_1]), by rw [ht9]; exact hP9, hD9⟩, hS.F ht9⟩) hS.2.2 dX4_at_36
set_option maxHeartbeats 4000000 in
set_option maxRecDepth 100000 in
/-- TickWalksModel.strays -/
theorem rm_strays (l : Launch) (dC : Nat → ClassId) (dI : Nat → Nat → Nat) (cA cB : ClassId) (sz : Nat) (m0 : Nat) (rx : Int32) (ry : Int32) (rz : Int32) (rw : Int32) (ri : Int32) (ux : Int32) (uy : Int32) (uz : Int32) (vx : Int32) (vy : Int32) (vz : Int32) (cn : Int32) (mo : Int32) (qw : Nat) (qt : Nat) (N : Nat) (hN2 : cn = nI N ∧ N < 1000000) : Met l yX4_strays wsX4_strays ({ frames := 2, cells := 0, slots := 0, locals := 50 }) (va_Pc [.ref m0] (ct_P dC dI cA cB sz [(m0, .inr (3, [.int rx, .int ry, .int rz, .int rw, .int ri, .int ux, .int uy, .int uz, .int vx, .int vy, .int vz, .int cn, .int mo, .ref qw, .ref qt]))])) (va_Qi (fun (r : Int32) (u : Unit) => r = (if ri = 0 then rs_c vx vy vz cn N else 0)) (fun (u : Unit) => ct_B dC dI (va_A [(m0, .inr (3, [.int rx, .int ry, .int rz, .int rw, .int ri, .int ux, .int uy, .int uz, .int vx, .int vy, .int vz, .int cn, .int mo, .ref qw, .ref qt]))] sz) [(m0, .inr (3, [.int rx, .int ry, .int rz, .int rw, .int ri, .int ux, .int uy, .int uz, .int vx, .int vy, .int vz, .int cn, .int mo, .ref qw, .ref qt]))]) (va_A [(m0, .inr (3, [.int rx, .int ry, .int rz, .int rw, .int ri, .int ux, .int uy, .int uz, .int vx, .int vy, .int vz, .int cn, .int mo, .ref qw, .ref qt]))] sz)) 0 0 (va_A [(m0, .inr (3, [.int rx, .int ry, .int rz, .int rw, .int ri, .int ux, .int uy, .int uz, .int vx, .int vy, .int vz, .int cn, .int mo, .ref qw, .ref qt]))] sz) := by
  refine Met.ofW (cc := cX4_strays) (maxL := 6) (ret := (some .int)) (by decide +kernel) rfl ?_
  intro p e s m args below meth c s₁ B hml hv
  obtain ⟨rfl, hsz, hP, hK, hD0, hZ, hN⟩ := hv
  have hx := B.exec
  have hb := B.bytes
  have hr := B.returns
  have hts := atoms_spec (ws := wsX4_strays) B.pre
  have hown : s.vm.findClass RX4 = some m.cls := findClass_of_methodNamed B.named
  have hlocks := B.notSynchronized
  have hiX4 : ∀ w ∈ u_ws RX4 TX4 15, w ∈ wsX4_strays := by decide +kernel
  subst hsz
  have hD := hD0.self (sz := s.heap.size)
  generalize hAe : va_A [(m0, .inr (3, [.int rx, .int ry, .int rz, .int rw, .int ri, .int ux, .int uy, .int uz, .int vx, .int vy, .int vz, .int cn, .int mo, .ref qw, .ref qt]))] s.heap.size = A at hD hZ ⊢
  have hA : ∀ q : Nat, s.heap.size ≤ q → A q := fun q h => by rw [← hAe]; exact Or.inr h
  have hl := lv_entry ([.ref m0]) (n := 6) (Nat.le_of_ble_eq_true rfl)
  rw [lg_entry_eq]
  generalize (lg_sl ([.ref m0]) ++ List.replicate (6 - (lg_sl ([.ref m0])).length) Slot.unset).toArray = ls at hl ⊢
  have hl : lv_has ls 6 [(0, .ref m0)] := hl
  generalize hHe : s.heap = H at hP ⊢
  have hS : va_S A s.heap H [] := by rw [hHe]; exact va_S.rf
  generalize ([] : List Loc) = locs at hS ⊢
  refine lv_iconst (v := 0) hx hb dX4_strays_0 (by decide) ?_
  refine lv_istore_n (lv' := [(1, .int 0), (0, .ref m0)]) hx hb dX4_strays_1 rfl hl (by decide) rfl (fun ls hl => ?_)
  refine lv_iconst (v := 1) hx hb dX4_strays_2 (by decide) ?_
  refine lv_istore_n (lv' := [(2, .int 1), (1, .int 0), (0, .ref m0)]) hx hb dX4_strays_3 rfl hl (by decide) rfl (fun ls hl => ?_)
  refine ct_loop (σ := Nat × Int32) (fun n9 w9 H locs ls => n9 = N + 1 - w9.1 ∧ (1 ≤ w9.1 ∧ w9.1 ≤ N + 1) ∧ (w9.2 = rs_c vx vy vz cn (w9.1 - 1)) ∧ (w9.1 = 1 ∨ ri = 0) ∧ va_P (dC, dI) vwCl [(m0, .inr (3, [.int rx, .int ry, .int rz, .int rw, .int ri, .int ux, .int uy, .int uz, .int vx, .int vy, .int vz, .int cn, .int mo, .ref qw, .ref qt]))] H ∧ va_D A [(m0, .inr (3, [.int rx, .int ry, .int rz, .int rw, .int ri, .int ux, .int uy, .int uz, .int vx, .int vy, .int vz, .int cn, .int mo, .ref qw, .ref qt]))] ∧ va_S A s.heap H locs ∧ lv_has ls 6 [(2, .int (nI w9.1)), (0, .ref m0), (1, .int w9.2)]) (fun n9 w9 H locs ls hJ ih_4 => ?_) (N + 1 - 1) (1, 0) _ _ _ ⟨rfl, (⟨Nat.le_refl 1, by omega⟩), rfl, (Or.inl rfl), (hP.sub [0] rfl), (hD.sub [0] (by decide) rfl), hS, (lv_sub hl [0, 2, 1] rfl)⟩
  obtain ⟨i, mn⟩ := w9
  obtain ⟨hn_4, hi, hc, hri, hP, hD, hS, hl⟩ := hJ
  have hn_4 : n9 = N + 1 - i := hn_4
  have hi : 1 ≤ i ∧ i ≤ N + 1 := hi
  have hc : mn = rs_c vx vy vz cn (i - 1) := hc
  have hri : i = 1 ∨ ri = 0 := hri
  have hP : va_P (dC, dI) vwCl [(m0, .inr (3, [.int rx, .int ry, .int rz, .int rw, .int ri, .int ux, .int uy, .int uz, .int vx, .int vy, .int vz, .int cn, .int mo, .ref qw, .ref qt]))] H := hP
  have hD : va_D A [(m0, .inr (3, [.int rx, .int ry, .int rz, .int rw, .int ri, .int ux, .int uy, .int uz, .int vx, .int vy, .int vz, .int cn, .int mo, .ref qw, .ref qt]))] := hD
  have hl : lv_has ls 6 [(2, .int (nI i)), (0, .ref m0), (1, .int mn)] := hl
  refine lv_iload_n hx hb dX4_strays_4 rfl (lv_at hl 0 rfl) ?_
  refine lv_aload_n hx hb dX4_strays_5 rfl (lv_at hl 1 rfl) ?_
  refine va_get (D := (dC, dI)) (ci := 3) (v := .int cn) (C := RX4) (T := TX4) (N := 15) hx hb hts hiX4 hown hK hP 0 rfl rfl 11 (by decide) (hts (.fieldLink RX4 36 "TickWalksModel" "count" "I") (List.mem_of_getElem? (l := wsX4_strays) (i := 1) rfl)) (fun _ h9 => h9) rfl dX4_strays_6 ?_
  refine lv_icmp_gt (tgt := 132) hx hb dX4_strays_9 (by decide) (fun c_9 => ?_) (fun c_9 => ?_)
  · refine lv_iload_n hx hb dX4_strays_132 rfl (lv_at hl 2 rfl) ?_
    have hP9 := hP.sub (ws' := [(m0, .inr (3, [.int rx, .int ry, .int rz, .int rw, .int ri, .int ux, .int uy, .int uz, .int vx, .int vy, .int vz, .int cn, .int mo, .ref qw, .ref qt]))]) [0] rfl
    have hD9 := hD.sub (ws' := [(m0, .inr (3, [.int rx, .int ry, .int rz, .int rw, .int ri, .int ux, .int uy, .int uz, .int vx, .int vy, .int vz, .int cn, .int mo, .ref qw, .ref qt]))]) [0] (by decide) rfl
    exact W.iret (v := mn) hx hb hr (fun t9 ht9 hW9 => ⟨⟨mn, (), rfl, (rm_end hN2 hi c_9 hc hri), by rw [ht9]; exact hP9, hD9⟩, hS.F ht9⟩) hS.2.2 dX4_strays_133
  · refine lv_aload_n hx hb dX4_strays_12 rfl (lv_at hl 1 rfl) ?_
    refine va_get (D := (dC, dI)) (ci := 3) (v := .int ri) (C := RX4) (T := TX4) (N := 15) hx hb hts hiX4 hown hK hP 0 rfl rfl 4 (by decide) (hts (.fieldLink RX4 42 "TickWalksModel" "isArc" "Z") (List.mem_of_getElem? (l := wsX4_strays) (i := 2) rfl)) (fun _ h9 => h9) rfl dX4_strays_13 ?_
    refine lv_if_ne (tgt := 132) hx hb dX4_strays_16 (by decide) (fun c_16 => ?_) (fun c_16 => ?_)
    · refine lv_iload_n hx hb dX4_strays_132 rfl (lv_at hl 2 rfl) ?_
      have hP9 := hP.sub (ws' := [(m0, .inr (3, [.int rx, .int ry, .int rz, .int rw, .int ri, .int ux, .int uy, .int uz, .int vx, .int vy, .int vz, .int cn, .int mo, .ref qw, .ref qt]))]) [0] rfl
      have hD9 := hD.sub (ws' := [(m0, .inr (3, [.int rx, .int ry, .int rz, .int rw, .int ri, .int ux, .int uy, .int uz, .int vx, .int vy, .int vz, .int cn, .int mo, .ref qw, .ref qt]))]) [0] (by decide) rfl
      exact W.iret (v := mn) hx hb hr (fun t9 ht9 hW9 => ⟨⟨mn, (), rfl, (by rw [if_neg c_16]; rcases hri with h | h; rw [hc, h]; rfl; exact absurd h c_16), by rw [ht9]; exact hP9, hD9⟩, hS.F ht9⟩) hS.2.2 dX4_strays_133
    · have hle : i ≤ N := by
        rcases Nat.lt_or_ge N i with h | h
        · exact absurd (show cn < nI i by rw [hN2.1]; exact nI_lt h (by omega)) c_9
        · exact h
      obtain ⟨k, rfl⟩ : ∃ k, i = k + 1 := ⟨i - 1, by omega⟩
      refine lv_aload_n hx hb dX4_strays_19 rfl (lv_at hl 1 rfl) ?_
      refine lv_aload_n hx hb dX4_strays_20 rfl (lv_at hl 1 rfl) ?_
      refine va_get (D := (dC, dI)) (ci := 3) (v := .int vx) (C := RX4) (T := TX4) (N := 15) hx hb hts hiX4 hown hK hP 0 rfl rfl 8 (by decide) (hts (.fieldLink RX4 54 "TickWalksModel" "byX" "I") (List.mem_of_getElem? (l := wsX4_strays) (i := 3) rfl)) (fun _ h9 => h9) rfl dX4_strays_21 ?_
      refine lv_iload_n hx hb dX4_strays_24 rfl (lv_at hl 0 rfl) ?_
      refine ct_calli (va_runV (As := [.int vx, .int (nI (k + 1))]) (rest := []) ⟨hx, hb, hml, hown, hts⟩ (rm_part l dC dI cA cB H.size m0 rx ry rz rw ri ux uy uz vx vy vz cn mo qw qt vx (nI (k + 1)) ) (cwV 2 hts gX4_strays_X4_partOf rfl rfl rfl (by decide +kernel) ⟨Nat.le_of_ble_eq_true rfl, Nat.le_of_ble_eq_true rfl⟩) ⟨ct_blind, va_recv hK hP (ci := 3) (q0 := 0) rfl rfl, ct_pre hP hD hK hZ hN hS hA [0] rfl (by decide)⟩ rfl rfl hl.1 rfl (lv_room (Nat.le_of_ble_eq_true rfl)) dX4_strays_25 ⟨Nat.le_of_ble_eq_true rfl, Nat.le_of_ble_eq_true rfl⟩) hP hD hS hA [0] [] rfl (wr := []) rfl (by decide) (by decide) (fun r_1 u9 H locs hw_1 hP hD hS => ?_)
      have hw_1 : r_1 = pt_v cn vx (nI (k + 1)) := hw_1
      have hP : va_P (dC, dI) vwCl [(m0, .inr (3, [.int rx, .int ry, .int rz, .int rw, .int ri, .int ux, .int uy, .int uz, .int vx, .int vy, .int vz, .int cn, .int mo, .ref qw, .ref qt]))] H := hP
      have hD : va_D A [(m0, .inr (3, [.int rx, .int ry, .int rz, .int rw, .int ri, .int ux, .int uy, .int uz, .int vx, .int vy, .int vz, .int cn, .int mo, .ref qw, .ref qt]))] := hD
      refine lv_aload_n hx hb dX4_strays_28 rfl (lv_at hl 1 rfl) ?_
      refine lv_aload_n hx hb dX4_strays_29 rfl (lv_at hl 1 rfl) ?_
      refine va_get (D := (dC, dI)) (ci := 3) (v := .int vx) (C := RX4) (T := TX4) (N := 15) hx hb hts hiX4 hown hK hP 0 rfl rfl 8 (by decide) (hts (.fieldLink RX4 54 "TickWalksModel" "byX" "I") (List.mem_of_getElem? (l := wsX4_strays) (i := 3) rfl)) (fun _ h9 => h9) rfl dX4_strays_30 ?_
      refine lv_iload_n hx hb dX4_strays_33 rfl (lv_at hl 0 rfl) ?_
      refine lv_iconst (v := 1) hx hb dX4_strays_34 (by decide) ?_
      refine lv_isub hx hb dX4_strays_35 ?_
      refine ct_topi (y := nI k) (nI_pred k) ?_
      refine ct_calli (va_runV (As := [.int vx, .int (nI k)]) (rest := [.int r_1]) ⟨hx, hb, hml, hown, hts⟩ (rm_part l dC dI cA cB H.size m0 rx ry rz rw ri ux uy uz vx vy vz cn mo qw qt vx (nI k) ) (cwV 2 hts gX4_strays_X4_partOf rfl rfl rfl (by decide +kernel) ⟨Nat.le_of_ble_eq_true rfl, Nat.le_of_ble_eq_true rfl⟩) ⟨ct_blind, va_recv hK hP (ci := 3) (q0 := 0) rfl rfl, ct_pre hP hD hK hZ hN hS hA [0] rfl (by decide)⟩ rfl rfl hl.1 rfl (lv_room (Nat.le_of_ble_eq_true rfl)) dX4_strays_36 ⟨Nat.le_of_ble_eq_true rfl, Nat.le_of_ble_eq_true rfl⟩) hP hD hS hA [0] [] rfl (wr := []) rfl (by decide) (by decide) (fun r_2 u9 H locs hw_2 hP hD hS => ?_)
      have hw_2 : r_2 = pt_v cn vx (nI k) := hw_2
      have hP : va_P (dC, dI) vwCl [(m0, .inr (3, [.int rx, .int ry, .int rz, .int rw, .int ri, .int ux, .int uy, .int uz, .int vx, .int vy, .int vz, .int cn, .int mo, .ref qw, .ref qt]))] H := hP
      have hD : va_D A [(m0, .inr (3, [.int rx, .int ry, .int rz, .int rw, .int ri, .int ux, .int uy, .int uz, .int vx, .int vy, .int vz, .int cn, .int mo, .ref qw, .ref qt]))] := hD
      refine lv_isub hx hb dX4_strays_39 ?_
      refine ct_calli (va_runS (As := [.int (r_1 - r_2)]) (rest := []) ⟨hx, hb, hml, hown, hts⟩ (rf_amount l dC dI cA cB H.size (r_1 - r_2) ) (va_cwS 1 hts gX4_strays_X4_amount rfl rfl rfl (by decide +kernel) ⟨Nat.le_of_ble_eq_true rfl, Nat.le_of_ble_eq_true rfl⟩) ⟨ct_blind, ct_pre hP hD hK hZ hN hS hA [] rfl (by decide)⟩ rfl rfl hl.1 rfl (lv_room (Nat.le_of_ble_eq_true rfl)) dX4_strays_40 ⟨Nat.le_of_ble_eq_true rfl, Nat.le_of_ble_eq_true rfl⟩) hP hD hS hA [] [0] rfl (wr := [(m0, .inr (3, [.int rx, .int ry, .int rz, .int rw, .int ri, .int ux, .int uy, .int uz, .int vx, .int vy, .int vz, .int cn, .int mo, .ref qw, .ref qt]))]) rfl (by decide) (by decide) (fun r_3 u9 H locs hw_3 hP hD hS => ?_)
      have hw_3 : r_3 = am_i (r_1 - r_2) := hw_3
      have hP : va_P (dC, dI) vwCl [(m0, .inr (3, [.int rx, .int ry, .int rz, .int rw, .int ri, .int ux, .int uy, .int uz, .int vx, .int vy, .int vz, .int cn, .int mo, .ref qw, .ref qt]))] H := hP
      have hD : va_D A [(m0, .inr (3, [.int rx, .int ry, .int rz, .int rw, .int ri, .int ux, .int uy, .int uz, .int vx, .int vy, .int vz, .int cn, .int mo, .ref qw, .ref qt]))] := hD
      refine lv_istore_n (lv' := [(3, .int r_3), (2, .int (nI (k + 1))), (0, .ref m0), (1, .int mn)]) hx hb dX4_strays_43 rfl hl (by decide) rfl (fun ls hl => ?_)
      refine lv_aload_n hx hb dX4_strays_44 rfl (lv_at hl 2 rfl) ?_
      refine lv_aload_n hx hb dX4_strays_45 rfl (lv_at hl 2 rfl) ?_
      refine va_get (D := (dC, dI)) (ci := 3) (v := .int vy) (C := RX4) (T := TX4) (N := 15) hx hb hts hiX4 hown hK hP 0 rfl rfl 9 (by decide) (hts (.fieldLink RX4 57 "TickWalksModel" "byY" "I") (List.mem_of_getElem? (l := wsX4_strays) (i := 4) rfl)) (fun _ h9 => h9) rfl dX4_strays_46 ?_
      refine lv_iload_n hx hb dX4_strays_49 rfl (lv_at hl 1 rfl) ?_
      refine ct_calli (va_runV (As := [.int vy, .int (nI (k + 1))]) (rest := []) ⟨hx, hb, hml, hown, hts⟩ (rm_part l dC dI cA cB H.size m0 rx ry rz rw ri ux uy uz vx vy vz cn mo qw qt vy (nI (k + 1)) ) (cwV 2 hts gX4_strays_X4_partOf rfl rfl rfl (by decide +kernel) ⟨Nat.le_of_ble_eq_true rfl, Nat.le_of_ble_eq_true rfl⟩) ⟨ct_blind, va_recv hK hP (ci := 3) (q0 := 0) rfl rfl, ct_pre hP hD hK hZ hN hS hA [0] rfl (by decide)⟩ rfl rfl hl.1 rfl (lv_room (Nat.le_of_ble_eq_true rfl)) dX4_strays_50 ⟨Nat.le_of_ble_eq_true rfl, Nat.le_of_ble_eq_true rfl⟩) hP hD hS hA [0] [] rfl (wr := []) rfl (by decide) (by decide) (fun r_4 u9 H locs hw_4 hP hD hS => ?_)
      have hw_4 : r_4 = pt_v cn vy (nI (k + 1)) := hw_4
      have hP : va_P (dC, dI) vwCl [(m0, .inr (3, [.int rx, .int ry, .int rz, .int rw, .int ri, .int ux, .int uy, .int uz, .int vx, .int vy, .int vz, .int cn, .int mo, .ref qw, .ref qt]))] H := hP
      have hD : va_D A [(m0, .inr (3, [.int rx, .int ry, .int rz, .int rw, .int ri, .int ux, .int uy, .int uz, .int vx, .int vy, .int vz, .int cn, .int mo, .ref qw, .ref qt]))] := hD
      refine lv_aload_n hx hb dX4_strays_53 rfl (lv_at hl 2 rfl) ?_
      refine lv_aload_n hx hb dX4_strays_54 rfl (lv_at hl 2 rfl) ?_
      refine va_get (D := (dC, dI)) (ci := 3) (v := .int vy) (C := RX4) (T := TX4) (N := 15) hx hb hts hiX4 hown hK hP 0 rfl rfl 9 (by decide) (hts (.fieldLink RX4 57 "TickWalksModel" "byY" "I") (List.mem_of_getElem? (l := wsX4_strays) (i := 4) rfl)) (fun _ h9 => h9) rfl dX4_strays_55 ?_
      refine lv_iload_n hx hb dX4_strays_58 rfl (lv_at hl 1 rfl) ?_
      refine lv_iconst (v := 1) hx hb dX4_strays_59 (by decide) ?_
      refine lv_isub hx hb dX4_strays_60 ?_
      refine ct_topi (y := nI k) (nI_pred k) ?_
      refine ct_calli (va_runV (As := [.int vy, .int (nI k)]) (rest := [.int r_4]) ⟨hx, hb, hml, hown, hts⟩ (rm_part l dC dI cA cB H.size m0 rx ry rz rw ri ux uy uz vx vy vz cn mo qw qt vy (nI k) ) (cwV 2 hts gX4_strays_X4_partOf rfl rfl rfl (by decide +kernel) ⟨Nat.le_of_ble_eq_true rfl, Nat.le_of_ble_eq_true rfl⟩) ⟨ct_blind, va_recv hK hP (ci := 3) (q0 := 0) rfl rfl, ct_pre hP hD hK hZ hN hS hA [0] rfl (by decide)⟩ rfl rfl hl.1 rfl (lv_room (Nat.le_of_ble_eq_true rfl)) dX4_strays_61 ⟨Nat.le_of_ble_eq_true rfl, Nat.le_of_ble_eq_true rfl⟩) hP hD hS hA [0] [] rfl (wr := []) rfl (by decide) (by decide) (fun r_5 u9 H locs hw_5 hP hD hS => ?_)
      have hw_5 : r_5 = pt_v cn vy (nI k) := hw_5
      have hP : va_P (dC, dI) vwCl [(m0, .inr (3, [.int rx, .int ry, .int rz, .int rw, .int ri, .int ux, .int uy, .int uz, .int vx, .int vy, .int vz, .int cn, .int mo, .ref qw, .ref qt]))] H := hP
      have hD : va_D A [(m0, .inr (3, [.int rx, .int ry, .int rz, .int rw, .int ri, .int ux, .int uy, .int uz, .int vx, .int vy, .int vz, .int cn, .int mo, .ref qw, .ref qt]))] := hD
      refine lv_isub hx hb dX4_strays_64 ?_
      refine ct_calli (va_runS (As := [.int (r_4 - r_5)]) (rest := []) ⟨hx, hb, hml, hown, hts⟩ (rf_amount l dC dI cA cB H.size (r_4 - r_5) ) (va_cwS 1 hts gX4_strays_X4_amount rfl rfl rfl (by decide +kernel) ⟨Nat.le_of_ble_eq_true rfl, Nat.le_of_ble_eq_true rfl⟩) ⟨ct_blind, ct_pre hP hD hK hZ hN hS hA [] rfl (by decide)⟩ rfl rfl hl.1 rfl (lv_room (Nat.le_of_ble_eq_true rfl)) dX4_strays_65 ⟨Nat.le_of_ble_eq_true rfl, Nat.le_of_ble_eq_true rfl⟩) hP hD hS hA [] [0] rfl (wr := [(m0, .inr (3, [.int rx, .int ry, .int rz, .int rw, .int ri, .int ux, .int uy, .int uz, .int vx, .int vy, .int vz, .int cn, .int mo, .ref qw, .ref qt]))]) rfl (by decide) (by decide) (fun r_6 u9 H locs hw_6 hP hD hS => ?_)
      have hw_6 : r_6 = am_i (r_4 - r_5) := hw_6
      have hP : va_P (dC, dI) vwCl [(m0, .inr (3, [.int rx, .int ry, .int rz, .int rw, .int ri, .int ux, .int uy, .int uz, .int vx, .int vy, .int vz, .int cn, .int mo, .ref qw, .ref qt]))] H := hP
      have hD : va_D A [(m0, .inr (3, [.int rx, .int ry, .int rz, .int rw, .int ri, .int ux, .int uy, .int uz, .int vx, .int vy, .int vz, .int cn, .int mo, .ref qw, .ref qt]))] := hD
      refine lv_istore (lv' := [(4, .int r_6), (3, .int r_3), (2, .int (nI (k + 1))), (0, .ref m0), (1, .int mn)]) hx hb dX4_strays_68 hl (by decide) rfl (fun ls hl => ?_)
      refine lv_aload_n hx hb dX4_strays_70 rfl (lv_at hl 3 rfl) ?_
      refine lv_aload_n hx hb dX4_strays_71 rfl (lv_at hl 3 rfl) ?_
      refine va_get (D := (dC, dI)) (ci := 3) (v := .int vz) (C := RX4) (T := TX4) (N := 15) hx hb hts hiX4 hown hK hP 0 rfl rfl 10 (by decide) (hts (.fieldLink RX4 60 "TickWalksModel" "byZ" "I") (List.mem_of_getElem? (l := wsX4_strays) (i := 5) rfl)) (fun _ h9 => h9) rfl dX4_strays_72 ?_
      refine lv_iload_n hx hb dX4_strays_75 rfl (lv_at hl 2 rfl) ?_
      refine ct_calli (va_runV (As := [.int vz, .int (nI (k + 1))]) (rest := []) ⟨hx, hb, hml, hown, hts⟩ (rm_part l dC dI cA cB H.size m0 rx ry rz rw ri ux uy uz vx vy vz cn mo qw qt vz (nI (k + 1)) ) (cwV 2 hts gX4_strays_X4_partOf rfl rfl rfl (by decide +kernel) ⟨Nat.le_of_ble_eq_true rfl, Nat.le_of_ble_eq_true rfl⟩) ⟨ct_blind, va_recv hK hP (ci := 3) (q0 := 0) rfl rfl, ct_pre hP hD hK hZ hN hS hA [0] rfl (by decide)⟩ rfl rfl hl.1 rfl (lv_room (Nat.le_of_ble_eq_true rfl)) dX4_strays_76 ⟨Nat.le_of_ble_eq_true rfl, Nat.le_of_ble_eq_true rfl⟩) hP hD hS hA [0] [] rfl (wr := []) rfl (by decide) (by decide) (fun r_7 u9 H locs hw_7 hP hD hS => ?_)
      have hw_7 : r_7 = pt_v cn vz (nI (k + 1)) := hw_7
      have hP : va_P (dC, dI) vwCl [(m0, .inr (3, [.int rx, .int ry, .int rz, .int rw, .int ri, .int ux, .int uy, .int uz, .int vx, .int vy, .int vz, .int cn, .int mo, .ref qw, .ref qt]))] H := hP
      have hD : va_D A [(m0, .inr (3, [.int rx, .int ry, .int rz, .int rw, .int ri, .int ux, .int uy, .int uz, .int vx, .int vy, .int vz, .int cn, .int mo, .ref qw, .ref qt]))] := hD
      refine lv_aload_n hx hb dX4_strays_79 rfl (lv_at hl 3 rfl) ?_
      refine lv_aload_n hx hb dX4_strays_80 rfl (lv_at hl 3 rfl) ?_
      refine va_get (D := (dC, dI)) (ci := 3) (v := .int vz) (C := RX4) (T := TX4) (N := 15) hx hb hts hiX4 hown hK hP 0 rfl rfl 10 (by decide) (hts (.fieldLink RX4 60 "TickWalksModel" "byZ" "I") (List.mem_of_getElem? (l := wsX4_strays) (i := 5) rfl)) (fun _ h9 => h9) rfl dX4_strays_81 ?_
      refine lv_iload_n hx hb dX4_strays_84 rfl (lv_at hl 2 rfl) ?_
      refine lv_iconst (v := 1) hx hb dX4_strays_85 (by decide) ?_
      refine lv_isub hx hb dX4_strays_86 ?_
      refine ct_topi (y := nI k) (nI_pred k) ?_
      refine ct_calli (va_runV (As := [.int vz, .int (nI k)]) (rest := [.int r_7]) ⟨hx, hb, hml, hown, hts⟩ (rm_part l dC dI cA cB H.size m0 rx ry rz rw ri ux uy uz vx vy vz cn mo qw qt vz (nI k) ) (cwV 2 hts gX4_strays_X4_partOf rfl rfl rfl (by decide +kernel) ⟨Nat.le_of_ble_eq_true rfl, Nat.le_of_ble_eq_true rfl⟩) ⟨ct_blind, va_recv hK hP (ci := 3) (q0 := 0) rfl rfl, ct_pre hP hD hK hZ hN hS hA [0] rfl (by decide)⟩ rfl rfl hl.1 rfl (lv_room (Nat.le_of_ble_eq_true rfl)) dX4_strays_87 ⟨Nat.le_of_ble_eq_true rfl, Nat.le_of_ble_eq_true rfl⟩) hP hD hS hA [0] [] rfl (wr := []) rfl (by decide) (by decide) (fun r_8 u9 H locs hw_8 hP hD hS => ?_)
      have hw_8 : r_8 = pt_v cn vz (nI k) := hw_8
      have hP : va_P (dC, dI) vwCl [(m0, .inr (3, [.int rx, .int ry, .int rz, .int rw, .int ri, .int ux, .int uy, .int uz, .int vx, .int vy, .int vz, .int cn, .int mo, .ref qw, .ref qt]))] H := hP
      have hD : va_D A [(m0, .inr (3, [.int rx, .int ry, .int rz, .int rw, .int ri, .int ux, .int uy, .int uz, .int vx, .int vy, .int vz, .int cn, .int mo, .ref qw, .ref qt]))] := hD
      refine lv_isub hx hb dX4_strays_90 ?_
      refine ct_calli (va_runS (As := [.int (r_7 - r_8)]) (rest := []) ⟨hx, hb, hml, hown, hts⟩ (rf_amount l dC dI cA cB H.size (r_7 - r_8) ) (va_cwS 1 hts gX4_strays_X4_amount rfl rfl rfl (by decide +kernel) ⟨Nat.le_of_ble_eq_true rfl, Nat.le_of_ble_eq_true rfl⟩) ⟨ct_blind, ct_pre hP hD hK hZ hN hS hA [] rfl (by decide)⟩ rfl rfl hl.1 rfl (lv_room (Nat.le_of_ble_eq_true rfl)) dX4_strays_91 ⟨Nat.le_of_ble_eq_true rfl, Nat.le_of_ble_eq_true rfl⟩) hP hD hS hA [] [0] rfl (wr := [(m0, .inr (3, [.int rx, .int ry, .int rz, .int rw, .int ri, .int ux, .int uy, .int uz, .int vx, .int vy, .int vz, .int cn, .int mo, .ref qw, .ref qt]))]) rfl (by decide) (by decide) (fun r_9 u9 H locs hw_9 hP hD hS => ?_)
      have hw_9 : r_9 = am_i (r_7 - r_8) := hw_9
      have hP : va_P (dC, dI) vwCl [(m0, .inr (3, [.int rx, .int ry, .int rz, .int rw, .int ri, .int ux, .int uy, .int uz, .int vx, .int vy, .int vz, .int cn, .int mo, .ref qw, .ref qt]))] H := hP
      have hD : va_D A [(m0, .inr (3, [.int rx, .int ry, .int rz, .int rw, .int ri, .int ux, .int uy, .int uz, .int vx, .int vy, .int vz, .int cn, .int mo, .ref qw, .ref qt]))] := hD
      refine lv_istore (lv' := [(5, .int r_9), (4, .int r_6), (3, .int r_3), (2, .int (nI (k + 1))), (0, .ref m0), (1, .int mn)]) hx hb dX4_strays_94 hl (by decide) rfl (fun ls hl => ?_)
      have ha : r_3 = am_i (pt_v cn vx (nI (k + 1)) - pt_v cn vx (nI k)) := by rw [hw_3, hw_1, hw_2]
      have hbb : r_6 = am_i (pt_v cn vy (nI (k + 1)) - pt_v cn vy (nI k)) := by rw [hw_6, hw_4, hw_5]
      have hcc : r_9 = am_i (pt_v cn vz (nI (k + 1)) - pt_v cn vz (nI k)) := by rw [hw_9, hw_7, hw_8]
      refine lv_iload_n hx hb dX4_strays_96 rfl (lv_at hl 2 rfl) ?_
      refine lv_iconst (v := 1) hx hb dX4_strays_97 (by decide) ?_
      refine lv_icmp_gt (tgt := 123) hx hb dX4_strays_98 (by decide) (fun c_98 => ?_) (fun c_98 => ?_)
      · have hc2 : mn + 1 = rs_c vx vy vz cn (k + 1) := by rw [rs_y (Or.inl (by rw [← ha]; exact c_98)), hc]; rfl
        refine lv_iinc (v := mn + 1) (lv' := [(1, .int (mn + 1)), (5, .int r_9), (4, .int r_6), (3, .int r_3), (2, .int (nI (k + 1))), (0, .ref m0)]) hx hb dX4_strays_123 hl (k := 5) rfl rfl (by decide) rfl (fun ls hl => ?_)
        refine lv_iinc (v := nI (k + 1 + 1)) (lv' := [(2, .int (nI (k + 1 + 1))), (1, .int (mn + 1)), (5, .int r_9), (4, .int r_6), (3, .int r_3), (0, .ref m0)]) hx hb dX4_strays_126 hl (k := 4) rfl (nI_1 (k + 1)) (by decide) rfl (fun ls hl => ?_)
        refine lv_goto (tgt := 4) hx hb dX4_strays_129 (by decide) ?_
        exact ih_4 _ ((k + 1 + 1), mn + 1) _ _ _ (by rw [hn_4]; omega) ⟨rfl, (⟨by omega, by omega⟩), hc2, (Or.inr c_16), (hP.sub [0] rfl), (hD.sub [0] (by decide) rfl), hS, (lv_sub hl [0, 5, 1] rfl)⟩
      · refine lv_iload hx hb dX4_strays_101 (lv_at hl 1 rfl) ?_
        refine lv_iconst (v := 1) hx hb dX4_strays_103 (by decide) ?_
        refine lv_icmp_gt (tgt := 123) hx hb dX4_strays_104 (by decide) (fun c_104 => ?_) (fun c_104 => ?_)
        · have hc2 : mn + 1 = rs_c vx vy vz cn (k + 1) := by rw [rs_y (Or.inr (Or.inl (by rw [← hbb]; exact c_104))), hc]; rfl
          refine lv_iinc (v := mn + 1) (lv' := [(1, .int (mn + 1)), (5, .int r_9), (4, .int r_6), (3, .int r_3), (2, .int (nI (k + 1))), (0, .ref m0)]) hx hb dX4_strays_123 hl (k := 5) rfl rfl (by decide) rfl (fun ls hl => ?_)
          refine lv_iinc (v := nI (k + 1 + 1)) (lv' := [(2, .int (nI (k + 1 + 1))), (1, .int (mn + 1)), (5, .int r_9), (4, .int r_6), (3, .int r_3), (0, .ref m0)]) hx hb dX4_strays_126 hl (k := 4) rfl (nI_1 (k + 1)) (by decide) rfl (fun ls hl => ?_)
          refine lv_goto (tgt := 4) hx hb dX4_strays_129 (by decide) ?_
          exact ih_4 _ ((k + 1 + 1), mn + 1) _ _ _ (by rw [hn_4]; omega) ⟨rfl, (⟨by omega, by omega⟩), hc2, (Or.inr c_16), (hP.sub [0] rfl), (hD.sub [0] (by decide) rfl), hS, (lv_sub hl [0, 5, 1] rfl)⟩
        · refine lv_iload hx hb dX4_strays_107 (lv_at hl 0 rfl) ?_
          refine lv_iconst (v := 1) hx hb dX4_strays_109 (by decide) ?_
          refine lv_icmp_gt (tgt := 123) hx hb dX4_strays_110 (by decide) (fun c_110 => ?_) (fun c_110 => ?_)
          · have hc2 : mn + 1 = rs_c vx vy vz cn (k + 1) := by rw [rs_y (Or.inr (Or.inr (Or.inl (by rw [← hcc]; exact c_110)))), hc]; rfl
            refine lv_iinc (v := mn + 1) (lv' := [(1, .int (mn + 1)), (5, .int r_9), (4, .int r_6), (3, .int r_3), (2, .int (nI (k + 1))), (0, .ref m0)]) hx hb dX4_strays_123 hl (k := 5) rfl rfl (by decide) rfl (fun ls hl => ?_)
            refine lv_iinc (v := nI (k + 1 + 1)) (lv' := [(2, .int (nI (k + 1 + 1))), (1, .int (mn + 1)), (5, .int r_9), (4, .int r_6), (3, .int r_3), (0, .ref m0)]) hx hb dX4_strays_126 hl (k := 4) rfl (nI_1 (k + 1)) (by decide) rfl (fun ls hl => ?_)
            refine lv_goto (tgt := 4) hx hb dX4_strays_129 (by decide) ?_
            exact ih_4 _ ((k + 1 + 1), mn + 1) _ _ _ (by rw [hn_4]; omega) ⟨rfl, (⟨by omega, by omega⟩), hc2, (Or.inr c_16), (hP.sub [0] rfl), (hD.sub [0] (by decide) rfl), hS, (lv_sub hl [0, 5, 1] rfl)⟩
          · refine lv_iload_n hx hb dX4_strays_113 rfl (lv_at hl 2 rfl) ?_
            refine lv_iload hx hb dX4_strays_114 (lv_at hl 1 rfl) ?_
            refine lv_iadd hx hb dX4_strays_116 ?_
            refine lv_iload hx hb dX4_strays_117 (lv_at hl 0 rfl) ?_
            refine lv_iadd hx hb dX4_strays_119 ?_
            refine lv_if_ne (tgt := 126) hx hb dX4_strays_120 (by decide) (fun c_120 => ?_) (fun c_120 => ?_)
            · have hc2 : mn = rs_c vx vy vz cn (k + 1) := by
                rw [rs_n (fun h => by unfold rs_b at h; rw [← ha, ← hbb, ← hcc] at h; rcases h with h | h | h | h; exact c_98 h; exact c_104 h; exact c_110 h; exact c_120 h)]
                exact hc
              refine lv_iinc (v := nI (k + 1 + 1)) (lv' := [(2, .int (nI (k + 1 + 1))), (5, .int r_9), (4, .int r_6), (3, .int r_3), (0, .ref m0), (1, .int mn)]) hx hb dX4_strays_126 hl (k := 3) rfl (nI_1 (k + 1)) (by decide) rfl (fun ls hl => ?_)
              refine lv_goto (tgt := 4) hx hb dX4_strays_129 (by decide) ?_
              exact ih_4 _ ((k + 1 + 1), mn) _ _ _ (by rw [hn_4]; omega) ⟨rfl, (⟨by omega, by omega⟩), hc2, (Or.inr c_16), (hP.sub [0] rfl), (hD.sub [0] (by decide) rfl), hS, (lv_sub hl [0, 4, 5] rfl)⟩
            · have hc2 : mn + 1 = rs_c vx vy vz cn (k + 1) := by rw [rs_y (Or.inr (Or.inr (Or.inr (by rw [← ha, ← hbb, ← hcc]; exact c_120)))), hc]; rfl
              refine lv_iinc (v := mn + 1) (lv' := [(1, .int (mn + 1)), (5, .int r_9), (4, .int r_6), (3, .int r_3), (2, .int (nI (k + 1))), (0, .ref m0)]) hx hb dX4_strays_123 hl (k := 5) rfl rfl (by decide) rfl (fun ls hl => ?_)
              refine lv_iinc (v := nI (k + 1 + 1)) (lv' := [(2, .int (nI (k + 1 + 1))), (1, .int (mn + 1)), (5, .int r_9), (4, .int r_6), (3, .int r_3), (0, .ref m0)]) hx hb dX4_strays_126 hl (k := 4) rfl (nI_1 (k + 1)) (by decide) rfl (fun ls hl => ?_)
              refine lv_goto (tgt := 4) hx hb dX4_strays_129 (by decide) ?_
              exact ih_4 _ ((k + 1 + 1), mn + 1) _ _ _ (by rw [hn_4]; omega) ⟨rfl, (⟨by omega, by omega⟩), hc2, (Or.inr c_16), (hP.sub [0] rfl), (hD.sub [0] (by decide) rfl), hS, (lv_sub hl [0, 5, 1] rfl)⟩
set_option maxHeartbeats 4000000 in
set_option maxRecDepth 100000 in
/-- TickWalksModel.tick, nothing walked -/
theorem rm_tick_n (l : Launch) (dC : Nat → ClassId) (dI : Nat → Nat → Nat) (cA cB : ClassId) (sz : Nat) (m0 : Nat) (rx : Int32) (ry : Int32) (rz : Int32) (rw : Int32) (ri : Int32) (ux : Int32) (uy : Int32) (uz : Int32) (vx : Int32) (vy : Int32) (vz : Int32) (cn : Int32) (mo : Int32) (qw : Nat) (qt : Nat) (k : Int32) (ax : Int32) (hrw : rw = 0) : Met l yX4_tick wsX4_tick ({ frames := 2, cells := 0, slots := 0, locals := 50 }) (va_Pc [.ref m0, .int k, .int ax] (ct_P dC dI cA cB sz [(m0, .inr (3, [.int rx, .int ry, .int rz, .int rw, .int ri, .int ux, .int uy, .int uz, .int vx, .int vy, .int vz, .int cn, .int mo, .ref qw, .ref qt]))])) (va_Qi (fun (r : Int32) (u : Unit) => r = 0) (fun (u : Unit) => ct_B dC dI (va_A [(m0, .inr (3, [.int rx, .int ry, .int rz, .int rw, .int ri, .int ux, .int uy, .int uz, .int vx, .int vy, .int vz, .int cn, .int mo, .ref qw, .ref qt]))] sz) [(m0, .inr (3, [.int rx, .int ry, .int rz, .int rw, .int ri, .int ux, .int uy, .int uz, .int vx, .int vy, .int vz, .int cn, .int mo, .ref qw, .ref qt]))]) (va_A [(m0, .inr (3, [.int rx, .int ry, .int rz, .int rw, .int ri, .int ux, .int uy, .int uz, .int vx, .int vy, .int vz, .int cn, .int mo, .ref qw, .ref qt]))] sz)) 0 0 (va_A [(m0, .inr (3, [.int rx, .int ry, .int rz, .int rw, .int ri, .int ux, .int uy, .int uz, .int vx, .int vy, .int vz, .int cn, .int mo, .ref qw, .ref qt]))] sz) := by
  refine Met.ofW (cc := cX4_tick) (maxL := 5) (ret := (some .int)) (by decide +kernel) rfl ?_
  intro p e s m args below meth c s₁ B hml hv
  obtain ⟨rfl, hsz, hP, hK, hD0, hZ, hN⟩ := hv
  have hx := B.exec
  have hb := B.bytes
  have hr := B.returns
  have hts := atoms_spec (ws := wsX4_tick) B.pre
  have hown : s.vm.findClass RX4 = some m.cls := findClass_of_methodNamed B.named
  have hlocks := B.notSynchronized
  have hiX4 : ∀ w ∈ u_ws RX4 TX4 15, w ∈ wsX4_tick := by decide +kernel
  subst hsz
  have hD := hD0.self (sz := s.heap.size)
  generalize hAe : va_A [(m0, .inr (3, [.int rx, .int ry, .int rz, .int rw, .int ri, .int ux, .int uy, .int uz, .int vx, .int vy, .int vz, .int cn, .int mo, .ref qw, .ref qt]))] s.heap.size = A at hD hZ ⊢
  have hA : ∀ q : Nat, s.heap.size ≤ q → A q := fun q h => by rw [← hAe]; exact Or.inr h
  have hl := lv_entry ([.ref m0, .int k, .int ax]) (n := 5) (Nat.le_of_ble_eq_true rfl)
  rw [lg_entry_eq]
  generalize (lg_sl ([.ref m0, .int k, .int ax]) ++ List.replicate (5 - (lg_sl ([.ref m0, .int k, .int ax])).length) Slot.unset).toArray = ls at hl ⊢
  have hl : lv_has ls 5 [(0, .ref m0), (1, .int k), (2, .int ax)] := hl
  generalize hHe : s.heap = H at hP ⊢
  have hS : va_S A s.heap H [] := by rw [hHe]; exact va_S.rf
  generalize ([] : List Loc) = locs at hS ⊢
  refine lv_aload_n hx hb dX4_tick_0 rfl (lv_at hl 0 rfl) ?_
  refine va_get (D := (dC, dI)) (ci := 3) (v := .int rw) (C := RX4) (T := TX4) (N := 15) hx hb hts hiX4 hown hK hP 0 rfl rfl 3 (by decide) (hts (.fieldLink RX4 32 "TickWalksModel" "walked" "Z") (List.mem_of_getElem? (l := wsX4_tick) (i := 1) rfl)) (fun _ h9 => h9) rfl dX4_tick_1 ?_
  refine lv_if_eq (tgt := 28) hx hb dX4_tick_4 (by decide) (fun c_4 => ?_) (fun c_4 => ?_)
  · refine lv_iconst (v := 0) hx hb dX4_tick_28 (by decide) ?_
    have hP9 := hP.sub (ws' := [(m0, .inr (3, [.int rx, .int ry, .int rz, .int rw, .int ri, .int ux, .int uy, .int uz, .int vx, .int vy, .int vz, .int cn, .int mo, .ref qw, .ref qt]))]) [0] rfl
    have hD9 := hD.sub (ws' := [(m0, .inr (3, [.int rx, .int ry, .int rz, .int rw, .int ri, .int ux, .int uy, .int uz, .int vx, .int vy, .int vz, .int cn, .int mo, .ref qw, .ref qt]))]) [0] (by decide) rfl
    exact W.iret (v := 0) hx hb hr (fun t9 ht9 hW9 => ⟨⟨0, (), rfl, rfl, by rw [ht9]; exact hP9, hD9⟩, hS.F ht9⟩) hS.2.2 dX4_tick_29
  · exact absurd hrw c_4
set_option maxHeartbeats 4000000 in
set_option maxRecDepth 100000 in
/-- TickWalksModel.tick, a line -/
theorem rm_tick_l (l : Launch) (dC : Nat → ClassId) (dI : Nat → Nat → Nat) (cA cB : ClassId) (sz : Nat) (m0 : Nat) (rx : Int32) (ry : Int32) (rz : Int32) (rw : Int32) (ri : Int32) (ux : Int32) (uy : Int32) (uz : Int32) (vx : Int32) (vy : Int32) (vz : Int32) (cn : Int32) (mo : Int32) (qw : Nat) (qt : Nat) (k : Int32) (ax : Int32) (hrw : rw = 1) (hri : ri = 0) : Met l yX4_tick wsX4_tick ({ frames := 2, cells := 0, slots := 0, locals := 50 }) (va_Pc [.ref m0, .int k, .int ax] (ct_P dC dI cA cB sz [(m0, .inr (3, [.int rx, .int ry, .int rz, .int rw, .int ri, .int ux, .int uy, .int uz, .int vx, .int vy, .int vz, .int cn, .int mo, .ref qw, .ref qt]))])) (va_Qi (fun (r : Int32) (u : Unit) => r = rl_t ux uy uz vx vy vz cn k ax) (fun (u : Unit) => ct_B dC dI (va_A [(m0, .inr (3, [.int rx, .int ry, .int rz, .int rw, .int ri, .int ux, .int uy, .int uz, .int vx, .int vy, .int vz, .int cn, .int mo, .ref qw, .ref qt]))] sz) [(m0, .inr (3, [.int rx, .int ry, .int rz, .int rw, .int ri, .int ux, .int uy, .int uz, .int vx, .int vy, .int vz, .int cn, .int mo, .ref qw, .ref qt]))]) (va_A [(m0, .inr (3, [.int rx, .int ry, .int rz, .int rw, .int ri, .int ux, .int uy, .int uz, .int vx, .int vy, .int vz, .int cn, .int mo, .ref qw, .ref qt]))] sz)) 0 0 (va_A [(m0, .inr (3, [.int rx, .int ry, .int rz, .int rw, .int ri, .int ux, .int uy, .int uz, .int vx, .int vy, .int vz, .int cn, .int mo, .ref qw, .ref qt]))] sz) := by
  refine Met.ofW (cc := cX4_tick) (maxL := 5) (ret := (some .int)) (by decide +kernel) rfl ?_
  intro p e s m args below meth c s₁ B hml hv
  obtain ⟨rfl, hsz, hP, hK, hD0, hZ, hN⟩ := hv
  have hx := B.exec
  have hb := B.bytes
  have hr := B.returns
  have hts := atoms_spec (ws := wsX4_tick) B.pre
  have hown : s.vm.findClass RX4 = some m.cls := findClass_of_methodNamed B.named
  have hlocks := B.notSynchronized
  have hiX4 : ∀ w ∈ u_ws RX4 TX4 15, w ∈ wsX4_tick := by decide +kernel
  subst hsz
  have hD := hD0.self (sz := s.heap.size)
  generalize hAe : va_A [(m0, .inr (3, [.int rx, .int ry, .int rz, .int rw, .int ri, .int ux, .int uy, .int uz, .int vx, .int vy, .int vz, .int cn, .int mo, .ref qw, .ref qt]))] s.heap.size = A at hD hZ ⊢
  have hA : ∀ q : Nat, s.heap.size ≤ q → A q := fun q h => by rw [← hAe]; exact Or.inr h
  have hl := lv_entry ([.ref m0, .int k, .int ax]) (n := 5) (Nat.le_of_ble_eq_true rfl)
  rw [lg_entry_eq]
  generalize (lg_sl ([.ref m0, .int k, .int ax]) ++ List.replicate (5 - (lg_sl ([.ref m0, .int k, .int ax])).length) Slot.unset).toArray = ls at hl ⊢
  have hl : lv_has ls 5 [(0, .ref m0), (1, .int k), (2, .int ax)] := hl
  generalize hHe : s.heap = H at hP ⊢
  have hS : va_S A s.heap H [] := by rw [hHe]; exact va_S.rf
  generalize ([] : List Loc) = locs at hS ⊢
  refine lv_aload_n hx hb dX4_tick_0 rfl (lv_at hl 0 rfl) ?_
  refine va_get (D := (dC, dI)) (ci := 3) (v := .int rw) (C := RX4) (T := TX4) (N := 15) hx hb hts hiX4 hown hK hP 0 rfl rfl 3 (by decide) (hts (.fieldLink RX4 32 "TickWalksModel" "walked" "Z") (List.mem_of_getElem? (l := wsX4_tick) (i := 1) rfl)) (fun _ h9 => h9) rfl dX4_tick_1 ?_
  refine lv_if_eq (tgt := 28) hx hb dX4_tick_4 (by decide) (fun c_4 => ?_) (fun c_4 => ?_)
  · exact absurd (hrw.symm.trans c_4) (by decide)
  · refine lv_iload_n hx hb dX4_tick_7 rfl (lv_at hl 1 rfl) ?_
    refine lv_if_lt (tgt := 28) hx hb dX4_tick_8 (by decide) (fun c_8 => ?_) (fun c_8 => ?_)
    · refine lv_iconst (v := 0) hx hb dX4_tick_28 (by decide) ?_
      have hP9 := hP.sub (ws' := [(m0, .inr (3, [.int rx, .int ry, .int rz, .int rw, .int ri, .int ux, .int uy, .int uz, .int vx, .int vy, .int vz, .int cn, .int mo, .ref qw, .ref qt]))]) [0] rfl
      have hD9 := hD.sub (ws' := [(m0, .inr (3, [.int rx, .int ry, .int rz, .int rw, .int ri, .int ux, .int uy, .int uz, .int vx, .int vy, .int vz, .int cn, .int mo, .ref qw, .ref qt]))]) [0] (by decide) rfl
      exact W.iret (v := 0) hx hb hr (fun t9 ht9 hW9 => ⟨⟨0, (), rfl, (by unfold rl_t; rw [if_neg (fun h => absurd h.2.1 (Int32.not_le.mpr c_8))]), by rw [ht9]; exact hP9, hD9⟩, hS.F ht9⟩) hS.2.2 dX4_tick_29
    · refine lv_iload_n hx hb dX4_tick_11 rfl (lv_at hl 1 rfl) ?_
      refine lv_aload_n hx hb dX4_tick_12 rfl (lv_at hl 0 rfl) ?_
      refine va_get (D := (dC, dI)) (ci := 3) (v := .int cn) (C := RX4) (T := TX4) (N := 15) hx hb hts hiX4 hown hK hP 0 rfl rfl 11 (by decide) (hts (.fieldLink RX4 36 "TickWalksModel" "count" "I") (List.mem_of_getElem? (l := wsX4_tick) (i := 2) rfl)) (fun _ h9 => h9) rfl dX4_tick_13 ?_
      refine lv_icmp_gt (tgt := 28) hx hb dX4_tick_16 (by decide) (fun c_16 => ?_) (fun c_16 => ?_)
      · refine lv_iconst (v := 0) hx hb dX4_tick_28 (by decide) ?_
        have hP9 := hP.sub (ws' := [(m0, .inr (3, [.int rx, .int ry, .int rz, .int rw, .int ri, .int ux, .int uy, .int uz, .int vx, .int vy, .int vz, .int cn, .int mo, .ref qw, .ref qt]))]) [0] rfl
        have hD9 := hD.sub (ws' := [(m0, .inr (3, [.int rx, .int ry, .int rz, .int rw, .int ri, .int ux, .int uy, .int uz, .int vx, .int vy, .int vz, .int cn, .int mo, .ref qw, .ref qt]))]) [0] (by decide) rfl
        exact W.iret (v := 0) hx hb hr (fun t9 ht9 hW9 => ⟨⟨0, (), rfl, (by unfold rl_t; rw [if_neg (fun h => absurd h.2.2 (Int32.not_le.mpr c_16))]), by rw [ht9]; exact hP9, hD9⟩, hS.F ht9⟩) hS.2.2 dX4_tick_29
      · refine lv_iload_n hx hb dX4_tick_19 rfl (lv_at hl 2 rfl) ?_
        refine lv_if_lt (tgt := 28) hx hb dX4_tick_20 (by decide) (fun c_20 => ?_) (fun c_20 => ?_)
        · refine lv_iconst (v := 0) hx hb dX4_tick_28 (by decide) ?_
          have hP9 := hP.sub (ws' := [(m0, .inr (3, [.int rx, .int ry, .int rz, .int rw, .int ri, .int ux, .int uy, .int uz, .int vx, .int vy, .int vz, .int cn, .int mo, .ref qw, .ref qt]))]) [0] rfl
          have hD9 := hD.sub (ws' := [(m0, .inr (3, [.int rx, .int ry, .int rz, .int rw, .int ri, .int ux, .int uy, .int uz, .int vx, .int vy, .int vz, .int cn, .int mo, .ref qw, .ref qt]))]) [0] (by decide) rfl
          exact W.iret (v := 0) hx hb hr (fun t9 ht9 hW9 => ⟨⟨0, (), rfl, (by unfold rl_t; rw [if_neg (fun h => absurd h.1.1 (Int32.not_le.mpr c_20))]), by rw [ht9]; exact hP9, hD9⟩, hS.F ht9⟩) hS.2.2 dX4_tick_29
        · refine lv_iload_n hx hb dX4_tick_23 rfl (lv_at hl 2 rfl) ?_
          refine lv_iconst (v := 2) hx hb dX4_tick_24 (by decide) ?_
          refine lv_icmp_le (tgt := 30) hx hb dX4_tick_25 (by decide) (fun c_25 => ?_) (fun c_25 => ?_)
          · have hok : (0 ≤ ax ∧ ax < 3) ∧ 0 ≤ k ∧ k ≤ cn := ⟨⟨Int32.not_lt.mp c_20, ax_le.mp c_25⟩, Int32.not_lt.mp c_8, Int32.not_lt.mp c_16⟩
            refine lv_aload_n hx hb dX4_tick_30 rfl (lv_at hl 0 rfl) ?_
            refine va_get (D := (dC, dI)) (ci := 3) (v := .int ri) (C := RX4) (T := TX4) (N := 15) hx hb hts hiX4 hown hK hP 0 rfl rfl 4 (by decide) (hts (.fieldLink RX4 42 "TickWalksModel" "isArc" "Z") (List.mem_of_getElem? (l := wsX4_tick) (i := 3) rfl)) (fun _ h9 => h9) rfl dX4_tick_31 ?_
            refine lv_if_ne (tgt := 95) hx hb dX4_tick_34 (by decide) (fun c_34 => ?_) (fun c_34 => ?_)
            · exact absurd hri c_34
            · refine lv_iload_n hx hb dX4_tick_37 rfl (lv_at hl 2 rfl) ?_
              refine lv_if_ne (tgt := 58) hx hb dX4_tick_38 (by decide) (fun c_38 => ?_) (fun c_38 => ?_)
              · refine lv_iload_n hx hb dX4_tick_58 rfl (lv_at hl 2 rfl) ?_
                refine lv_iconst (v := 1) hx hb dX4_tick_59 (by decide) ?_
                refine lv_icmp_ne (tgt := 80) hx hb dX4_tick_60 (by decide) (fun c_60 => ?_) (fun c_60 => ?_)
                · refine lv_aload_n hx hb dX4_tick_80 rfl (lv_at hl 0 rfl) ?_
                  refine va_get (D := (dC, dI)) (ci := 3) (v := .int uz) (C := RX4) (T := TX4) (N := 15) hx hb hts hiX4 hown hK hP 0 rfl rfl 7 (by decide) (hts (.fieldLink RX4 51 "TickWalksModel" "fromZ" "I") (List.mem_of_getElem? (l := wsX4_tick) (i := 8) rfl)) (fun _ h9 => h9) rfl dX4_tick_81 ?_
                  refine lv_aload_n hx hb dX4_tick_84 rfl (lv_at hl 0 rfl) ?_
                  refine lv_aload_n hx hb dX4_tick_85 rfl (lv_at hl 0 rfl) ?_
                  refine va_get (D := (dC, dI)) (ci := 3) (v := .int vz) (C := RX4) (T := TX4) (N := 15) hx hb hts hiX4 hown hK hP 0 rfl rfl 10 (by decide) (hts (.fieldLink RX4 60 "TickWalksModel" "byZ" "I") (List.mem_of_getElem? (l := wsX4_tick) (i := 9) rfl)) (fun _ h9 => h9) rfl dX4_tick_86 ?_
                  refine lv_iload_n hx hb dX4_tick_89 rfl (lv_at hl 1 rfl) ?_
                  refine ct_calli (va_runV (As := [.int vz, .int k]) (rest := [.int uz]) ⟨hx, hb, hml, hown, hts⟩ (rm_part l dC dI cA cB H.size m0 rx ry rz rw ri ux uy uz vx vy vz cn mo qw qt vz k ) (cwV 2 hts gX4_tick_X4_partOf rfl rfl rfl (by decide +kernel) ⟨Nat.le_of_ble_eq_true rfl, Nat.le_of_ble_eq_true rfl⟩) ⟨ct_blind, va_recv hK hP (ci := 3) (q0 := 0) rfl rfl, ct_pre hP hD hK hZ hN hS hA [0] rfl (by decide)⟩ rfl rfl hl.1 rfl (lv_room (Nat.le_of_ble_eq_true rfl)) dX4_tick_90 ⟨Nat.le_of_ble_eq_true rfl, Nat.le_of_ble_eq_true rfl⟩) hP hD hS hA [0] [] rfl (wr := []) rfl (by decide) (by decide) (fun r_1 u9 H locs hw_1 hP hD hS => ?_)
                  have hw_1 : r_1 = pt_v cn vz k := hw_1
                  have hP : va_P (dC, dI) vwCl [(m0, .inr (3, [.int rx, .int ry, .int rz, .int rw, .int ri, .int ux, .int uy, .int uz, .int vx, .int vy, .int vz, .int cn, .int mo, .ref qw, .ref qt]))] H := hP
                  have hD : va_D A [(m0, .inr (3, [.int rx, .int ry, .int rz, .int rw, .int ri, .int ux, .int uy, .int uz, .int vx, .int vy, .int vz, .int cn, .int mo, .ref qw, .ref qt]))] := hD
                  refine lv_iadd hx hb dX4_tick_93 ?_
                  have hP9 := hP.sub (ws' := [(m0, .inr (3, [.int rx, .int ry, .int rz, .int rw, .int ri, .int ux, .int uy, .int uz, .int vx, .int vy, .int vz, .int cn, .int mo, .ref qw, .ref qt]))]) [0] rfl
                  have hD9 := hD.sub (ws' := [(m0, .inr (3, [.int rx, .int ry, .int rz, .int rw, .int ri, .int ux, .int uy, .int uz, .int vx, .int vy, .int vz, .int cn, .int mo, .ref qw, .ref qt]))]) [0] (by decide) rfl
                  exact W.iret (v := uz + r_1) hx hb hr (fun t9 ht9 hW9 => ⟨⟨uz + r_1, (), rfl, (by unfold rl_t; rw [if_pos hok, if_neg c_38, if_neg c_60, hw_1]), by rw [ht9]; exact hP9, hD9⟩, hS.F ht9⟩) hS.2.2 dX4_tick_94
                · refine lv_aload_n hx hb dX4_tick_63 rfl (lv_at hl 0 rfl) ?_
                  refine va_get (D := (dC, dI)) (ci := 3) (v := .int uy) (C := RX4) (T := TX4) (N := 15) hx hb hts hiX4 hown hK hP 0 rfl rfl 6 (by decide) (hts (.fieldLink RX4 48 "TickWalksModel" "fromY" "I") (List.mem_of_getElem? (l := wsX4_tick) (i := 6) rfl)) (fun _ h9 => h9) rfl dX4_tick_64 ?_
                  refine lv_aload_n hx hb dX4_tick_67 rfl (lv_at hl 0 rfl) ?_
                  refine lv_aload_n hx hb dX4_tick_68 rfl (lv_at hl 0 rfl) ?_
                  refine va_get (D := (dC, dI)) (ci := 3) (v := .int vy) (C := RX4) (T := TX4) (N := 15) hx hb hts hiX4 hown hK hP 0 rfl rfl 9 (by decide) (hts (.fieldLink RX4 57 "TickWalksModel" "byY" "I") (List.mem_of_getElem? (l := wsX4_tick) (i := 7) rfl)) (fun _ h9 => h9) rfl dX4_tick_69 ?_
                  refine lv_iload_n hx hb dX4_tick_72 rfl (lv_at hl 1 rfl) ?_
                  refine ct_calli (va_runV (As := [.int vy, .int k]) (rest := [.int uy]) ⟨hx, hb, hml, hown, hts⟩ (rm_part l dC dI cA cB H.size m0 rx ry rz rw ri ux uy uz vx vy vz cn mo qw qt vy k ) (cwV 2 hts gX4_tick_X4_partOf rfl rfl rfl (by decide +kernel) ⟨Nat.le_of_ble_eq_true rfl, Nat.le_of_ble_eq_true rfl⟩) ⟨ct_blind, va_recv hK hP (ci := 3) (q0 := 0) rfl rfl, ct_pre hP hD hK hZ hN hS hA [0] rfl (by decide)⟩ rfl rfl hl.1 rfl (lv_room (Nat.le_of_ble_eq_true rfl)) dX4_tick_73 ⟨Nat.le_of_ble_eq_true rfl, Nat.le_of_ble_eq_true rfl⟩) hP hD hS hA [0] [] rfl (wr := []) rfl (by decide) (by decide) (fun r_2 u9 H locs hw_2 hP hD hS => ?_)
                  have hw_2 : r_2 = pt_v cn vy k := hw_2
                  have hP : va_P (dC, dI) vwCl [(m0, .inr (3, [.int rx, .int ry, .int rz, .int rw, .int ri, .int ux, .int uy, .int uz, .int vx, .int vy, .int vz, .int cn, .int mo, .ref qw, .ref qt]))] H := hP
                  have hD : va_D A [(m0, .inr (3, [.int rx, .int ry, .int rz, .int rw, .int ri, .int ux, .int uy, .int uz, .int vx, .int vy, .int vz, .int cn, .int mo, .ref qw, .ref qt]))] := hD
                  refine lv_iadd hx hb dX4_tick_76 ?_
                  refine lv_goto (tgt := 94) hx hb dX4_tick_77 (by decide) ?_
                  have hP9 := hP.sub (ws' := [(m0, .inr (3, [.int rx, .int ry, .int rz, .int rw, .int ri, .int ux, .int uy, .int uz, .int vx, .int vy, .int vz, .int cn, .int mo, .ref qw, .ref qt]))]) [0] rfl
                  have hD9 := hD.sub (ws' := [(m0, .inr (3, [.int rx, .int ry, .int rz, .int rw, .int ri, .int ux, .int uy, .int uz, .int vx, .int vy, .int vz, .int cn, .int mo, .ref qw, .ref qt]))]) [0] (by decide) rfl
                  exact W.iret (v := uy + r_2) hx hb hr (fun t9 ht9 hW9 => ⟨⟨uy + r_2, (), rfl, (by unfold rl_t; rw [if_pos hok, if_neg c_38, if_pos c_60, hw_2]), by rw [ht9]; exact hP9, hD9⟩, hS.F ht9⟩) hS.2.2 dX4_tick_94
              · refine lv_aload_n hx hb dX4_tick_41 rfl (lv_at hl 0 rfl) ?_
                refine va_get (D := (dC, dI)) (ci := 3) (v := .int ux) (C := RX4) (T := TX4) (N := 15) hx hb hts hiX4 hown hK hP 0 rfl rfl 5 (by decide) (hts (.fieldLink RX4 45 "TickWalksModel" "fromX" "I") (List.mem_of_getElem? (l := wsX4_tick) (i := 4) rfl)) (fun _ h9 => h9) rfl dX4_tick_42 ?_
                refine lv_aload_n hx hb dX4_tick_45 rfl (lv_at hl 0 rfl) ?_
                refine lv_aload_n hx hb dX4_tick_46 rfl (lv_at hl 0 rfl) ?_
                refine va_get (D := (dC, dI)) (ci := 3) (v := .int vx) (C := RX4) (T := TX4) (N := 15) hx hb hts hiX4 hown hK hP 0 rfl rfl 8 (by decide) (hts (.fieldLink RX4 54 "TickWalksModel" "byX" "I") (List.mem_of_getElem? (l := wsX4_tick) (i := 5) rfl)) (fun _ h9 => h9) rfl dX4_tick_47 ?_
                refine lv_iload_n hx hb dX4_tick_50 rfl (lv_at hl 1 rfl) ?_
                refine ct_calli (va_runV (As := [.int vx, .int k]) (rest := [.int ux]) ⟨hx, hb, hml, hown, hts⟩ (rm_part l dC dI cA cB H.size m0 rx ry rz rw ri ux uy uz vx vy vz cn mo qw qt vx k ) (cwV 2 hts gX4_tick_X4_partOf rfl rfl rfl (by decide +kernel) ⟨Nat.le_of_ble_eq_true rfl, Nat.le_of_ble_eq_true rfl⟩) ⟨ct_blind, va_recv hK hP (ci := 3) (q0 := 0) rfl rfl, ct_pre hP hD hK hZ hN hS hA [0] rfl (by decide)⟩ rfl rfl hl.1 rfl (lv_room (Nat.le_of_ble_eq_true rfl)) dX4_tick_51 ⟨Nat.le_of_ble_eq_true rfl, Nat.le_of_ble_eq_true rfl⟩) hP hD hS hA [0] [] rfl (wr := []) rfl (by decide) (by decide) (fun r_3 u9 H locs hw_3 hP hD hS => ?_)
                have hw_3 : r_3 = pt_v cn vx k := hw_3
                have hP : va_P (dC, dI) vwCl [(m0, .inr (3, [.int rx, .int ry, .int rz, .int rw, .int ri, .int ux, .int uy, .int uz, .int vx, .int vy, .int vz, .int cn, .int mo, .ref qw, .ref qt]))] H := hP
                have hD : va_D A [(m0, .inr (3, [.int rx, .int ry, .int rz, .int rw, .int ri, .int ux, .int uy, .int uz, .int vx, .int vy, .int vz, .int cn, .int mo, .ref qw, .ref qt]))] := hD
                refine lv_iadd hx hb dX4_tick_54 ?_
                refine lv_goto (tgt := 94) hx hb dX4_tick_55 (by decide) ?_
                have hP9 := hP.sub (ws' := [(m0, .inr (3, [.int rx, .int ry, .int rz, .int rw, .int ri, .int ux, .int uy, .int uz, .int vx, .int vy, .int vz, .int cn, .int mo, .ref qw, .ref qt]))]) [0] rfl
                have hD9 := hD.sub (ws' := [(m0, .inr (3, [.int rx, .int ry, .int rz, .int rw, .int ri, .int ux, .int uy, .int uz, .int vx, .int vy, .int vz, .int cn, .int mo, .ref qw, .ref qt]))]) [0] (by decide) rfl
                exact W.iret (v := ux + r_3) hx hb hr (fun t9 ht9 hW9 => ⟨⟨ux + r_3, (), rfl, (by unfold rl_t; rw [if_pos hok, if_pos c_38, hw_3]), by rw [ht9]; exact hP9, hD9⟩, hS.F ht9⟩) hS.2.2 dX4_tick_94
          · refine lv_iconst (v := 0) hx hb dX4_tick_28 (by decide) ?_
            have hP9 := hP.sub (ws' := [(m0, .inr (3, [.int rx, .int ry, .int rz, .int rw, .int ri, .int ux, .int uy, .int uz, .int vx, .int vy, .int vz, .int cn, .int mo, .ref qw, .ref qt]))]) [0] rfl
            have hD9 := hD.sub (ws' := [(m0, .inr (3, [.int rx, .int ry, .int rz, .int rw, .int ri, .int ux, .int uy, .int uz, .int vx, .int vy, .int vz, .int cn, .int mo, .ref qw, .ref qt]))]) [0] (by decide) rfl
            exact W.iret (v := 0) hx hb hr (fun t9 ht9 hW9 => ⟨⟨0, (), rfl, (by unfold rl_t; rw [if_neg (fun h => c_25 (ax_le.mpr h.1.2))]), by rw [ht9]; exact hP9, hD9⟩, hS.F ht9⟩) hS.2.2 dX4_tick_29
set_option maxHeartbeats 4000000 in
set_option maxRecDepth 100000 in
/-- TickWalksModel.tick, an arc -/
theorem rm_tick_a (l : Launch) (dC : Nat → ClassId) (dI : Nat → Nat → Nat) (cA cB : ClassId) (sz : Nat) (m0 : Nat) (rx : Int32) (ry : Int32) (rz : Int32) (rw : Int32) (ri : Int32) (ux : Int32) (uy : Int32) (uz : Int32) (vx : Int32) (vy : Int32) (vz : Int32) (cn : Int32) (mo : Int32) (qw : Nat) (qt : Nat) (wf : Nat → Int32) (k : Int32) (ax : Int32) (N : Nat) (lf : Int32) (sq : Int64) (cx : Int32) (cy : Int32) (hrw : rw = 1) (hri : ri = 1) (hN3 : cn = nI N ∧ N ≤ 40000) (hW : wy_P lf sq cx cy (ux, uy) wf N) : Met l yX4_tick wsX4_tick ({ frames := 2, cells := 0, slots := 0, locals := 50 }) (va_Pc [.ref m0, .int k, .int ax] (ct_P dC dI cA cB sz [(m0, .inr (3, [.int rx, .int ry, .int rz, .int rw, .int ri, .int ux, .int uy, .int uz, .int vx, .int vy, .int vz, .int cn, .int mo, .ref qw, .ref qt])), (qw, .inl (cB, 40000, .inl wf))])) (va_Qi (fun (r : Int32) (u : Unit) => r = tk_a lf sq cx cy (ux, uy) uz cn k ax) (fun (u : Unit) => ct_B dC dI (va_A [(m0, .inr (3, [.int rx, .int ry, .int rz, .int rw, .int ri, .int ux, .int uy, .int uz, .int vx, .int vy, .int vz, .int cn, .int mo, .ref qw, .ref qt])), (qw, .inl (cB, 40000, .inl wf))] sz) [(m0, .inr (3, [.int rx, .int ry, .int rz, .int rw, .int ri, .int ux, .int uy, .int uz, .int vx, .int vy, .int vz, .int cn, .int mo, .ref qw, .ref qt])), (qw, .inl (cB, 40000, .inl wf))]) (va_A [(m0, .inr (3, [.int rx, .int ry, .int rz, .int rw, .int ri, .int ux, .int uy, .int uz, .int vx, .int vy, .int vz, .int cn, .int mo, .ref qw, .ref qt])), (qw, .inl (cB, 40000, .inl wf))] sz)) 0 0 (va_A [(m0, .inr (3, [.int rx, .int ry, .int rz, .int rw, .int ri, .int ux, .int uy, .int uz, .int vx, .int vy, .int vz, .int cn, .int mo, .ref qw, .ref qt])), (qw, .inl (cB, 40000, .inl wf))] sz) := by
  refine Met.ofW (cc := cX4_tick) (maxL := 5) (ret := (some .int)) (by decide +kernel) rfl ?_
  intro p e s m args below meth c s₁ B hml hv
  obtain ⟨rfl, hsz, hP, hK, hD0, hZ, hN⟩ := hv
  have hx := B.exec
  have hb := B.bytes
  have hr := B.returns
  have hts := atoms_spec (ws := wsX4_tick) B.pre
  have hown : s.vm.findClass RX4 = some m.cls := findClass_of_methodNamed B.named
  have hlocks := B.notSynchronized
  have hiX4 : ∀ w ∈ u_ws RX4 TX4 15, w ∈ wsX4_tick := by decide +kernel
  subst hsz
  have hD := hD0.self (sz := s.heap.size)
  generalize hAe : va_A [(m0, .inr (3, [.int rx, .int ry, .int rz, .int rw, .int ri, .int ux, .int uy, .int uz, .int vx, .int vy, .int vz, .int cn, .int mo, .ref qw, .ref qt])), (qw, .inl (cB, 40000, .inl wf))] s.heap.size = A at hD hZ ⊢
  have hA : ∀ q : Nat, s.heap.size ≤ q → A q := fun q h => by rw [← hAe]; exact Or.inr h
  have hl := lv_entry ([.ref m0, .int k, .int ax]) (n := 5) (Nat.le_of_ble_eq_true rfl)
  rw [lg_entry_eq]
  generalize (lg_sl ([.ref m0, .int k, .int ax]) ++ List.replicate (5 - (lg_sl ([.ref m0, .int k, .int ax])).length) Slot.unset).toArray = ls at hl ⊢
  have hl : lv_has ls 5 [(0, .ref m0), (1, .int k), (2, .int ax)] := hl
  generalize hHe : s.heap = H at hP ⊢
  have hS : va_S A s.heap H [] := by rw [hHe]; exact va_S.rf
  generalize ([] : List Loc) = locs at hS ⊢
  refine lv_aload_n hx hb dX4_tick_0 rfl (lv_at hl 0 rfl) ?_
  refine va_get (D := (dC, dI)) (ci := 3) (v := .int rw) (C := RX4) (T := TX4) (N := 15) hx hb hts hiX4 hown hK hP 0 rfl rfl 3 (by decide) (hts (.fieldLink RX4 32 "TickWalksModel" "walked" "Z") (List.mem_of_getElem? (l := wsX4_tick) (i := 1) rfl)) (fun _ h9 => h9) rfl dX4_tick_1 ?_
  refine lv_if_eq (tgt := 28) hx hb dX4_tick_4 (by decide) (fun c_4 => ?_) (fun c_4 => ?_)
  · exact absurd (hrw.symm.trans c_4) (by decide)
  · refine lv_iload_n hx hb dX4_tick_7 rfl (lv_at hl 1 rfl) ?_
    refine lv_if_lt (tgt := 28) hx hb dX4_tick_8 (by decide) (fun c_8 => ?_) (fun c_8 => ?_)
    · refine lv_iconst (v := 0) hx hb dX4_tick_28 (by decide) ?_
      have hP9 := hP.sub (ws' := [(m0, .inr (3, [.int rx, .int ry, .int rz, .int rw, .int ri, .int ux, .int uy, .int uz, .int vx, .int vy, .int vz, .int cn, .int mo, .ref qw, .ref qt])), (qw, .inl (cB, 40000, .inl wf))]) [0, 1] rfl
      have hD9 := hD.sub (ws' := [(m0, .inr (3, [.int rx, .int ry, .int rz, .int rw, .int ri, .int ux, .int uy, .int uz, .int vx, .int vy, .int vz, .int cn, .int mo, .ref qw, .ref qt])), (qw, .inl (cB, 40000, .inl wf))]) [0, 1] (by decide) rfl
      exact W.iret (v := 0) hx hb hr (fun t9 ht9 hW9 => ⟨⟨0, (), rfl, (by unfold tk_a; rw [if_neg (fun h => absurd h.2.1 (Int32.not_le.mpr c_8))]), by rw [ht9]; exact hP9, hD9⟩, hS.F ht9⟩) hS.2.2 dX4_tick_29
    · refine lv_iload_n hx hb dX4_tick_11 rfl (lv_at hl 1 rfl) ?_
      refine lv_aload_n hx hb dX4_tick_12 rfl (lv_at hl 0 rfl) ?_
      refine va_get (D := (dC, dI)) (ci := 3) (v := .int cn) (C := RX4) (T := TX4) (N := 15) hx hb hts hiX4 hown hK hP 0 rfl rfl 11 (by decide) (hts (.fieldLink RX4 36 "TickWalksModel" "count" "I") (List.mem_of_getElem? (l := wsX4_tick) (i := 2) rfl)) (fun _ h9 => h9) rfl dX4_tick_13 ?_
      refine lv_icmp_gt (tgt := 28) hx hb dX4_tick_16 (by decide) (fun c_16 => ?_) (fun c_16 => ?_)
      · refine lv_iconst (v := 0) hx hb dX4_tick_28 (by decide) ?_
        have hP9 := hP.sub (ws' := [(m0, .inr (3, [.int rx, .int ry, .int rz, .int rw, .int ri, .int ux, .int uy, .int uz, .int vx, .int vy, .int vz, .int cn, .int mo, .ref qw, .ref qt])), (qw, .inl (cB, 40000, .inl wf))]) [0, 1] rfl
        have hD9 := hD.sub (ws' := [(m0, .inr (3, [.int rx, .int ry, .int rz, .int rw, .int ri, .int ux, .int uy, .int uz, .int vx, .int vy, .int vz, .int cn, .int mo, .ref qw, .ref qt])), (qw, .inl (cB, 40000, .inl wf))]) [0, 1] (by decide) rfl
        exact W.iret (v := 0) hx hb hr (fun t9 ht9 hW9 => ⟨⟨0, (), rfl, (by unfold tk_a; rw [if_neg (fun h => absurd h.2.2 (Int32.not_le.mpr c_16))]), by rw [ht9]; exact hP9, hD9⟩, hS.F ht9⟩) hS.2.2 dX4_tick_29
      · refine lv_iload_n hx hb dX4_tick_19 rfl (lv_at hl 2 rfl) ?_
        refine lv_if_lt (tgt := 28) hx hb dX4_tick_20 (by decide) (fun c_20 => ?_) (fun c_20 => ?_)
        · refine lv_iconst (v := 0) hx hb dX4_tick_28 (by decide) ?_
          have hP9 := hP.sub (ws' := [(m0, .inr (3, [.int rx, .int ry, .int rz, .int rw, .int ri, .int ux, .int uy, .int uz, .int vx, .int vy, .int vz, .int cn, .int mo, .ref qw, .ref qt])), (qw, .inl (cB, 40000, .inl wf))]) [0, 1] rfl
          have hD9 := hD.sub (ws' := [(m0, .inr (3, [.int rx, .int ry, .int rz, .int rw, .int ri, .int ux, .int uy, .int uz, .int vx, .int vy, .int vz, .int cn, .int mo, .ref qw, .ref qt])), (qw, .inl (cB, 40000, .inl wf))]) [0, 1] (by decide) rfl
          exact W.iret (v := 0) hx hb hr (fun t9 ht9 hW9 => ⟨⟨0, (), rfl, (by unfold tk_a; rw [if_neg (fun h => absurd h.1.1 (Int32.not_le.mpr c_20))]), by rw [ht9]; exact hP9, hD9⟩, hS.F ht9⟩) hS.2.2 dX4_tick_29
        · refine lv_iload_n hx hb dX4_tick_23 rfl (lv_at hl 2 rfl) ?_
          refine lv_iconst (v := 2) hx hb dX4_tick_24 (by decide) ?_
          refine lv_icmp_le (tgt := 30) hx hb dX4_tick_25 (by decide) (fun c_25 => ?_) (fun c_25 => ?_)
          · have hok : (0 ≤ ax ∧ ax < 3) ∧ 0 ≤ k ∧ k ≤ cn := ⟨⟨Int32.not_lt.mp c_20, ax_le.mp c_25⟩, Int32.not_lt.mp c_8, Int32.not_lt.mp c_16⟩
            obtain ⟨K, hK1, ek⟩ := nI_of c_8
            have hKN : K ≤ N := by
              have h := hok.2.2
              rw [ek, hN3.1] at h
              exact (nI_leI hK1 (by omega)).mp h
            refine lv_aload_n hx hb dX4_tick_30 rfl (lv_at hl 0 rfl) ?_
            refine va_get (D := (dC, dI)) (ci := 3) (v := .int ri) (C := RX4) (T := TX4) (N := 15) hx hb hts hiX4 hown hK hP 0 rfl rfl 4 (by decide) (hts (.fieldLink RX4 42 "TickWalksModel" "isArc" "Z") (List.mem_of_getElem? (l := wsX4_tick) (i := 3) rfl)) (fun _ h9 => h9) rfl dX4_tick_31 ?_
            refine lv_if_ne (tgt := 95) hx hb dX4_tick_34 (by decide) (fun c_34 => ?_) (fun c_34 => ?_)
            · refine lv_iload_n hx hb dX4_tick_95 rfl (lv_at hl 2 rfl) ?_
              refine lv_iconst (v := 2) hx hb dX4_tick_96 (by decide) ?_
              refine lv_icmp_ne (tgt := 105) hx hb dX4_tick_97 (by decide) (fun c_97 => ?_) (fun c_97 => ?_)
              · refine lv_iload_n hx hb dX4_tick_105 rfl (lv_at hl 2 rfl) ?_
                refine lv_if_ne (tgt := 116) hx hb dX4_tick_106 (by decide) (fun c_106 => ?_) (fun c_106 => ?_)
                · refine lv_aload_n hx hb dX4_tick_116 rfl (lv_at hl 0 rfl) ?_
                  refine va_get (D := (dC, dI)) (ci := 3) (v := .int uy) (C := RX4) (T := TX4) (N := 15) hx hb hts hiX4 hown hK hP 0 rfl rfl 6 (by decide) (hts (.fieldLink RX4 48 "TickWalksModel" "fromY" "I") (List.mem_of_getElem? (l := wsX4_tick) (i := 6) rfl)) (fun _ h9 => h9) rfl dX4_tick_117 ?_
                  refine lv_istore_n (lv' := [(3, .int uy), (0, .ref m0), (1, .int k), (2, .int ax)]) hx hb dX4_tick_120 rfl hl (by decide) rfl (fun ls hl => ?_)
                  refine lv_iconst (v := 0) hx hb dX4_tick_121 (by decide) ?_
                  refine lv_istore (lv' := [(4, .int 0), (3, .int uy), (0, .ref m0), (1, .int k), (2, .int ax)]) hx hb dX4_tick_122 hl (by decide) rfl (fun ls hl => ?_)
                  refine ct_loop (σ := Nat × Int32) (fun n9 w9 H locs ls => n9 = K - w9.1 ∧ (w9.1 ≤ K) ∧ (w9.2 = (ob_p lf sq cx cy (ux, uy) w9.1).2) ∧ va_P (dC, dI) vwCl [(m0, .inr (3, [.int rx, .int ry, .int rz, .int rw, .int ri, .int ux, .int uy, .int uz, .int vx, .int vy, .int vz, .int cn, .int mo, .ref qw, .ref qt])), (qw, .inl (cB, 40000, .inl wf))] H ∧ va_D A [(m0, .inr (3, [.int rx, .int ry, .int rz, .int rw, .int ri, .int ux, .int uy, .int uz, .int vx, .int vy, .int vz, .int cn, .int mo, .ref qw, .ref qt])), (qw, .inl (cB, 40000, .inl wf))] ∧ va_S A s.heap H locs ∧ lv_has ls 5 [(4, .int (nI w9.1)), (0, .ref m0), (1, .int k), (2, .int ax), (3, .int w9.2)]) (fun n9 w9 H locs ls hJ ih_124 => ?_) (K - 0) (0, uy) _ _ _ ⟨rfl, (Nat.zero_le K), rfl, (hP.sub [0, 1] rfl), (hD.sub [0, 1] (by decide) rfl), hS, (lv_sub hl [0, 2, 3, 4, 1] rfl)⟩
                  obtain ⟨i, pv⟩ := w9
                  obtain ⟨hn_124, hi, hpv, hP, hD, hS, hl⟩ := hJ
                  have hn_124 : n9 = K - i := hn_124
                  have hi : i ≤ K := hi
                  have hpv : pv = (ob_p lf sq cx cy (ux, uy) i).2 := hpv
                  have hP : va_P (dC, dI) vwCl [(m0, .inr (3, [.int rx, .int ry, .int rz, .int rw, .int ri, .int ux, .int uy, .int uz, .int vx, .int vy, .int vz, .int cn, .int mo, .ref qw, .ref qt])), (qw, .inl (cB, 40000, .inl wf))] H := hP
                  have hD : va_D A [(m0, .inr (3, [.int rx, .int ry, .int rz, .int rw, .int ri, .int ux, .int uy, .int uz, .int vx, .int vy, .int vz, .int cn, .int mo, .ref qw, .ref qt])), (qw, .inl (cB, 40000, .inl wf))] := hD
                  have hl : lv_has ls 5 [(4, .int (nI i)), (0, .ref m0), (1, .int k), (2, .int ax), (3, .int pv)] := hl
                  refine lv_iload hx hb dX4_tick_124 (lv_at hl 0 rfl) ?_
                  refine lv_iload_n hx hb dX4_tick_126 rfl (lv_at hl 2 rfl) ?_
                  refine lv_icmp_ge (tgt := 166) hx hb dX4_tick_127 (by decide) (fun c_127 => ?_) (fun c_127 => ?_)
                  · refine lv_iload_n hx hb dX4_tick_166 rfl (lv_at hl 4 rfl) ?_
                    have hP9 := hP.sub (ws' := [(m0, .inr (3, [.int rx, .int ry, .int rz, .int rw, .int ri, .int ux, .int uy, .int uz, .int vx, .int vy, .int vz, .int cn, .int mo, .ref qw, .ref qt])), (qw, .inl (cB, 40000, .inl wf))]) [0, 1] rfl
                    have hD9 := hD.sub (ws' := [(m0, .inr (3, [.int rx, .int ry, .int rz, .int rw, .int ri, .int ux, .int uy, .int uz, .int vx, .int vy, .int vz, .int cn, .int mo, .ref qw, .ref qt])), (qw, .inl (cB, 40000, .inl wf))]) [0, 1] (by decide) rfl
                    exact W.iret (v := pv) hx hb hr (fun t9 ht9 hW9 => ⟨⟨pv, (), rfl, (by unfold tk_a; have h := c_127; rw [ek] at h; have h2 := (nI_leI hK1 (by omega)).mp h; rw [if_pos hok, if_neg c_97, if_neg c_106, ek, nI_clamp hK1, hpv, show i = K by omega]), by rw [ht9]; exact hP9, hD9⟩, hS.F ht9⟩) hS.2.2 dX4_tick_167
                  · have hlt : i < K := by
                      rcases Nat.lt_or_ge i K with h | h
                      · exact h
                      · exact absurd (show k ≤ nI i by rw [ek]; exact nI_le h (by omega)) c_127
                    obtain ⟨j, hj, hwj, hpj⟩ := hW i (by omega)
                    refine lv_iload_n hx hb dX4_tick_130 rfl (lv_at hl 4 rfl) ?_
                    refine lv_iload_n hx hb dX4_tick_131 rfl (lv_at hl 3 rfl) ?_
                    refine lv_if_ne (tgt := 148) hx hb dX4_tick_132 (by decide) (fun c_132 => ?_) (fun c_132 => ?_)
                    · refine lv_aload_n hx hb dX4_tick_148 rfl (lv_at hl 1 rfl) ?_
                      refine va_get (D := (dC, dI)) (ci := 3) (v := .ref qw) (C := RX4) (T := TX4) (N := 15) hx hb hts hiX4 hown hK hP 0 rfl rfl 13 (by decide) (hts (.fieldLink RX4 10 "TickWalksModel" "way" "[B") (List.mem_of_getElem? (l := wsX4_tick) (i := 10) rfl)) (fun _ h9 => h9) rfl dX4_tick_149 ?_
                      refine lv_iload hx hb dX4_tick_152 (lv_at hl 0 rfl) ?_
                      refine va_bald hx hb hK hP 1 1 rfl rfl (vp_in_nI (by omega) (by decide)) dX4_tick_154 ?_
                      refine ct_topi (y := wf i) (congrArg wf (nI_clamp (show i < 2 ^ 31 by omega))) ?_
                      refine ct_topi (y := nI j) hwj ?_
                      refine ct_calli (va_runS (As := [.int (nI j)]) (rest := [.int pv]) ⟨hx, hb, hml, hown, hts⟩ (rf_north l dC dI cA cB H.size j hj) (va_cwS 1 hts gX4_tick_X4_northOf rfl rfl rfl (by decide +kernel) ⟨Nat.le_of_ble_eq_true rfl, Nat.le_of_ble_eq_true rfl⟩) ⟨ct_blind, ct_pre hP hD hK hZ hN hS hA [] rfl (by decide)⟩ rfl rfl hl.1 rfl (lv_room (Nat.le_of_ble_eq_true rfl)) dX4_tick_155 ⟨Nat.le_of_ble_eq_true rfl, Nat.le_of_ble_eq_true rfl⟩) hP hD hS hA [] [0, 1] rfl (wr := [(m0, .inr (3, [.int rx, .int ry, .int rz, .int rw, .int ri, .int ux, .int uy, .int uz, .int vx, .int vy, .int vz, .int cn, .int mo, .ref qw, .ref qt])), (qw, .inl (cB, 40000, .inl wf))]) rfl (by decide) (by decide) (fun r_1 u9 H locs hw_1 hP hD hS => ?_)
                      have hw_1 : r_1 = st_Y j := hw_1
                      have hP : va_P (dC, dI) vwCl [(m0, .inr (3, [.int rx, .int ry, .int rz, .int rw, .int ri, .int ux, .int uy, .int uz, .int vx, .int vy, .int vz, .int cn, .int mo, .ref qw, .ref qt])), (qw, .inl (cB, 40000, .inl wf))] H := hP
                      have hD : va_D A [(m0, .inr (3, [.int rx, .int ry, .int rz, .int rw, .int ri, .int ux, .int uy, .int uz, .int vx, .int vy, .int vz, .int cn, .int mo, .ref qw, .ref qt])), (qw, .inl (cB, 40000, .inl wf))] := hD
                      have hpv2 : pv + r_1 = (ob_p lf sq cx cy (ux, uy) (i + 1)).2 := by rw [hpj, hpv, hw_1]
                      refine lv_iadd hx hb dX4_tick_158 ?_
                      refine lv_istore_n (lv' := [(3, .int (pv + r_1)), (4, .int (nI i)), (0, .ref m0), (1, .int k), (2, .int ax)]) hx hb dX4_tick_159 rfl hl (by decide) rfl (fun ls hl => ?_)
                      refine lv_iinc (v := nI (i + 1)) (lv' := [(4, .int (nI (i + 1))), (3, .int (pv + r_1)), (0, .ref m0), (1, .int k), (2, .int ax)]) hx hb dX4_tick_160 hl (k := 1) rfl (nI_1 i) (by decide) rfl (fun ls hl => ?_)
                      refine lv_goto (tgt := 124) hx hb dX4_tick_163 (by decide) ?_
                      exact ih_124 _ ((i + 1), pv + r_1) _ _ _ (by rw [hn_124]; omega) ⟨rfl, (show i + 1 ≤ K by omega), hpv2, (hP.sub [0, 1] rfl), (hD.sub [0, 1] (by decide) rfl), hS, (lv_sub hl [0, 2, 3, 4, 1] rfl)⟩
                    · exact absurd c_132 c_106
                · refine lv_aload_n hx hb dX4_tick_109 rfl (lv_at hl 0 rfl) ?_
                  refine va_get (D := (dC, dI)) (ci := 3) (v := .int ux) (C := RX4) (T := TX4) (N := 15) hx hb hts hiX4 hown hK hP 0 rfl rfl 5 (by decide) (hts (.fieldLink RX4 45 "TickWalksModel" "fromX" "I") (List.mem_of_getElem? (l := wsX4_tick) (i := 4) rfl)) (fun _ h9 => h9) rfl dX4_tick_110 ?_
                  refine lv_goto (tgt := 120) hx hb dX4_tick_113 (by decide) ?_
                  refine lv_istore_n (lv' := [(3, .int ux), (0, .ref m0), (1, .int k), (2, .int ax)]) hx hb dX4_tick_120 rfl hl (by decide) rfl (fun ls hl => ?_)
                  refine lv_iconst (v := 0) hx hb dX4_tick_121 (by decide) ?_
                  refine lv_istore (lv' := [(4, .int 0), (3, .int ux), (0, .ref m0), (1, .int k), (2, .int ax)]) hx hb dX4_tick_122 hl (by decide) rfl (fun ls hl => ?_)
                  refine ct_loop (σ := Nat × Int32) (fun n9 w9 H locs ls => n9 = K - w9.1 ∧ (w9.1 ≤ K) ∧ (w9.2 = (ob_p lf sq cx cy (ux, uy) w9.1).1) ∧ va_P (dC, dI) vwCl [(m0, .inr (3, [.int rx, .int ry, .int rz, .int rw, .int ri, .int ux, .int uy, .int uz, .int vx, .int vy, .int vz, .int cn, .int mo, .ref qw, .ref qt])), (qw, .inl (cB, 40000, .inl wf))] H ∧ va_D A [(m0, .inr (3, [.int rx, .int ry, .int rz, .int rw, .int ri, .int ux, .int uy, .int uz, .int vx, .int vy, .int vz, .int cn, .int mo, .ref qw, .ref qt])), (qw, .inl (cB, 40000, .inl wf))] ∧ va_S A s.heap H locs ∧ lv_has ls 5 [(4, .int (nI w9.1)), (0, .ref m0), (1, .int k), (2, .int ax), (3, .int w9.2)]) (fun n9 w9 H locs ls hJ ih_124 => ?_) (K - 0) (0, ux) _ _ _ ⟨rfl, (Nat.zero_le K), rfl, (hP.sub [0, 1] rfl), (hD.sub [0, 1] (by decide) rfl), hS, (lv_sub hl [0, 2, 3, 4, 1] rfl)⟩
                  obtain ⟨i, pv⟩ := w9
                  obtain ⟨hn_124, hi, hpv, hP, hD, hS, hl⟩ := hJ
                  have hn_124 : n9 = K - i := hn_124
                  have hi : i ≤ K := hi
                  have hpv : pv = (ob_p lf sq cx cy (ux, uy) i).1 := hpv
                  have hP : va_P (dC, dI) vwCl [(m0, .inr (3, [.int rx, .int ry, .int rz, .int rw, .int ri, .int ux, .int uy, .int uz, .int vx, .int vy, .int vz, .int cn, .int mo, .ref qw, .ref qt])), (qw, .inl (cB, 40000, .inl wf))] H := hP
                  have hD : va_D A [(m0, .inr (3, [.int rx, .int ry, .int rz, .int rw, .int ri, .int ux, .int uy, .int uz, .int vx, .int vy, .int vz, .int cn, .int mo, .ref qw, .ref qt])), (qw, .inl (cB, 40000, .inl wf))] := hD
                  have hl : lv_has ls 5 [(4, .int (nI i)), (0, .ref m0), (1, .int k), (2, .int ax), (3, .int pv)] := hl
                  refine lv_iload hx hb dX4_tick_124 (lv_at hl 0 rfl) ?_
                  refine lv_iload_n hx hb dX4_tick_126 rfl (lv_at hl 2 rfl) ?_
                  refine lv_icmp_ge (tgt := 166) hx hb dX4_tick_127 (by decide) (fun c_127 => ?_) (fun c_127 => ?_)
                  · refine lv_iload_n hx hb dX4_tick_166 rfl (lv_at hl 4 rfl) ?_
                    have hP9 := hP.sub (ws' := [(m0, .inr (3, [.int rx, .int ry, .int rz, .int rw, .int ri, .int ux, .int uy, .int uz, .int vx, .int vy, .int vz, .int cn, .int mo, .ref qw, .ref qt])), (qw, .inl (cB, 40000, .inl wf))]) [0, 1] rfl
                    have hD9 := hD.sub (ws' := [(m0, .inr (3, [.int rx, .int ry, .int rz, .int rw, .int ri, .int ux, .int uy, .int uz, .int vx, .int vy, .int vz, .int cn, .int mo, .ref qw, .ref qt])), (qw, .inl (cB, 40000, .inl wf))]) [0, 1] (by decide) rfl
                    exact W.iret (v := pv) hx hb hr (fun t9 ht9 hW9 => ⟨⟨pv, (), rfl, (by unfold tk_a; have h := c_127; rw [ek] at h; have h2 := (nI_leI hK1 (by omega)).mp h; rw [if_pos hok, if_neg c_97, if_pos c_106, ek, nI_clamp hK1, hpv, show i = K by omega]), by rw [ht9]; exact hP9, hD9⟩, hS.F ht9⟩) hS.2.2 dX4_tick_167
                  · have hlt : i < K := by
                      rcases Nat.lt_or_ge i K with h | h
                      · exact h
                      · exact absurd (show k ≤ nI i by rw [ek]; exact nI_le h (by omega)) c_127
                    obtain ⟨j, hj, hwj, hpj⟩ := hW i (by omega)
                    refine lv_iload_n hx hb dX4_tick_130 rfl (lv_at hl 4 rfl) ?_
                    refine lv_iload_n hx hb dX4_tick_131 rfl (lv_at hl 3 rfl) ?_
                    refine lv_if_ne (tgt := 148) hx hb dX4_tick_132 (by decide) (fun c_132 => ?_) (fun c_132 => ?_)
                    · exact absurd c_106 c_132
                    · refine lv_aload_n hx hb dX4_tick_135 rfl (lv_at hl 1 rfl) ?_
                      refine va_get (D := (dC, dI)) (ci := 3) (v := .ref qw) (C := RX4) (T := TX4) (N := 15) hx hb hts hiX4 hown hK hP 0 rfl rfl 13 (by decide) (hts (.fieldLink RX4 10 "TickWalksModel" "way" "[B") (List.mem_of_getElem? (l := wsX4_tick) (i := 10) rfl)) (fun _ h9 => h9) rfl dX4_tick_136 ?_
                      refine lv_iload hx hb dX4_tick_139 (lv_at hl 0 rfl) ?_
                      refine va_bald hx hb hK hP 1 1 rfl rfl (vp_in_nI (by omega) (by decide)) dX4_tick_141 ?_
                      refine ct_topi (y := wf i) (congrArg wf (nI_clamp (show i < 2 ^ 31 by omega))) ?_
                      refine ct_topi (y := nI j) hwj ?_
                      refine ct_calli (va_runS (As := [.int (nI j)]) (rest := [.int pv]) ⟨hx, hb, hml, hown, hts⟩ (rf_east l dC dI cA cB H.size j hj) (va_cwS 1 hts gX4_tick_X4_eastOf rfl rfl rfl (by decide +kernel) ⟨Nat.le_of_ble_eq_true rfl, Nat.le_of_ble_eq_true rfl⟩) ⟨ct_blind, ct_pre hP hD hK hZ hN hS hA [] rfl (by decide)⟩ rfl rfl hl.1 rfl (lv_room (Nat.le_of_ble_eq_true rfl)) dX4_tick_142 ⟨Nat.le_of_ble_eq_true rfl, Nat.le_of_ble_eq_true rfl⟩) hP hD hS hA [] [0, 1] rfl (wr := [(m0, .inr (3, [.int rx, .int ry, .int rz, .int rw, .int ri, .int ux, .int uy, .int uz, .int vx, .int vy, .int vz, .int cn, .int mo, .ref qw, .ref qt])), (qw, .inl (cB, 40000, .inl wf))]) rfl (by decide) (by decide) (fun r_2 u9 H locs hw_2 hP hD hS => ?_)
                      have hw_2 : r_2 = st_X j := hw_2
                      have hP : va_P (dC, dI) vwCl [(m0, .inr (3, [.int rx, .int ry, .int rz, .int rw, .int ri, .int ux, .int uy, .int uz, .int vx, .int vy, .int vz, .int cn, .int mo, .ref qw, .ref qt])), (qw, .inl (cB, 40000, .inl wf))] H := hP
                      have hD : va_D A [(m0, .inr (3, [.int rx, .int ry, .int rz, .int rw, .int ri, .int ux, .int uy, .int uz, .int vx, .int vy, .int vz, .int cn, .int mo, .ref qw, .ref qt])), (qw, .inl (cB, 40000, .inl wf))] := hD
                      refine lv_goto (tgt := 158) hx hb dX4_tick_145 (by decide) ?_
                      have hpv2 : pv + r_2 = (ob_p lf sq cx cy (ux, uy) (i + 1)).1 := by rw [hpj, hpv, hw_2]
                      refine lv_iadd hx hb dX4_tick_158 ?_
                      refine lv_istore_n (lv' := [(3, .int (pv + r_2)), (4, .int (nI i)), (0, .ref m0), (1, .int k), (2, .int ax)]) hx hb dX4_tick_159 rfl hl (by decide) rfl (fun ls hl => ?_)
                      refine lv_iinc (v := nI (i + 1)) (lv' := [(4, .int (nI (i + 1))), (3, .int (pv + r_2)), (0, .ref m0), (1, .int k), (2, .int ax)]) hx hb dX4_tick_160 hl (k := 1) rfl (nI_1 i) (by decide) rfl (fun ls hl => ?_)
                      refine lv_goto (tgt := 124) hx hb dX4_tick_163 (by decide) ?_
                      exact ih_124 _ ((i + 1), pv + r_2) _ _ _ (by rw [hn_124]; omega) ⟨rfl, (show i + 1 ≤ K by omega), hpv2, (hP.sub [0, 1] rfl), (hD.sub [0, 1] (by decide) rfl), hS, (lv_sub hl [0, 2, 3, 4, 1] rfl)⟩
              · refine lv_aload_n hx hb dX4_tick_100 rfl (lv_at hl 0 rfl) ?_
                refine va_get (D := (dC, dI)) (ci := 3) (v := .int uz) (C := RX4) (T := TX4) (N := 15) hx hb hts hiX4 hown hK hP 0 rfl rfl 7 (by decide) (hts (.fieldLink RX4 51 "TickWalksModel" "fromZ" "I") (List.mem_of_getElem? (l := wsX4_tick) (i := 8) rfl)) (fun _ h9 => h9) rfl dX4_tick_101 ?_
                have hP9 := hP.sub (ws' := [(m0, .inr (3, [.int rx, .int ry, .int rz, .int rw, .int ri, .int ux, .int uy, .int uz, .int vx, .int vy, .int vz, .int cn, .int mo, .ref qw, .ref qt])), (qw, .inl (cB, 40000, .inl wf))]) [0, 1] rfl
                have hD9 := hD.sub (ws' := [(m0, .inr (3, [.int rx, .int ry, .int rz, .int rw, .int ri, .int ux, .int uy, .int uz, .int vx, .int vy, .int vz, .int cn, .int mo, .ref qw, .ref qt])), (qw, .inl (cB, 40000, .inl wf))]) [0, 1] (by decide) rfl
                exact W.iret (v := uz) hx hb hr (fun t9 ht9 hW9 => ⟨⟨uz, (), rfl, (by unfold tk_a; rw [if_pos hok, if_pos c_97]), by rw [ht9]; exact hP9, hD9⟩, hS.F ht9⟩) hS.2.2 dX4_tick_104
            · exact absurd (hri.symm.trans c_34) (by decide)
          · refine lv_iconst (v := 0) hx hb dX4_tick_28 (by decide) ?_
            have hP9 := hP.sub (ws' := [(m0, .inr (3, [.int rx, .int ry, .int rz, .int rw, .int ri, .int ux, .int uy, .int uz, .int vx, .int vy, .int vz, .int cn, .int mo, .ref qw, .ref qt])), (qw, .inl (cB, 40000, .inl wf))]) [0, 1] rfl
            have hD9 := hD.sub (ws' := [(m0, .inr (3, [.int rx, .int ry, .int rz, .int rw, .int ri, .int ux, .int uy, .int uz, .int vx, .int vy, .int vz, .int cn, .int mo, .ref qw, .ref qt])), (qw, .inl (cB, 40000, .inl wf))]) [0, 1] (by decide) rfl
            exact W.iret (v := 0) hx hb hr (fun t9 ht9 hW9 => ⟨⟨0, (), rfl, (by unfold tk_a; rw [if_neg (fun h => c_25 (ax_le.mpr h.1.2))]), by rw [ht9]; exact hP9, hD9⟩, hS.F ht9⟩) hS.2.2 dX4_tick_29
end
section
set_option maxHeartbeats 4000000 in
set_option maxRecDepth 100000 in
/-- TickWalksModel.tried -/
theorem rm_tried (l : Launch) (dC : Nat → ClassId) (dI : Nat → Nat → Nat) (cA cB : ClassId) (sz : Nat) (m0 : Nat) (rx : Int32) (ry : Int32) (rz : Int32) (rw : Int32) (ri : Int32) (ux : Int32) (uy : Int32) (uz : Int32) (vx : Int32) (vy : Int32) (vz : Int32) (cn : Int32) (mo : Int32) (qw : Nat) (qt : Nat) (tf : Nat → Int32) (gx : Int64) (gy : Int64) (cx : Int32) (cy : Int32) (sq : Int64) (al : Int32) (a : Int32) (b : Int32) (hgx : gx = (a - cx).toInt64) (hgy : gy = (b - cy).toInt64) (hpx : (pl_in rx ∧ pl_in ry) ∧ ce_in cx ∧ ce_in cy) : Met l yX4_tried wsX4_tried ({ frames := 1, cells := 0, slots := 0, locals := 20 }) (va_Pc [.ref m0, .long gx, .long gy, .int cx, .int cy, .long sq, .int al] (ct_P dC dI cA cB sz [(m0, .inr (3, [.int rx, .int ry, .int rz, .int rw, .int ri, .int ux, .int uy, .int uz, .int vx, .int vy, .int vz, .int cn, .int mo, .ref qw, .ref qt])), (qt, .inl (cB, 40000, .inl tf))])) (va_Qi (fun (r : Int32) (u : (Nat → Int32)) => (∃ n, r = nI n ∧ ob_H al sq cx cy (rx, ry) (a, b) n ∧ wy_P al sq cx cy (rx, ry) u n) ∨ (r = -1 ∧ ∀ n, ¬ ob_H al sq cx cy (rx, ry) (a, b) n)) (fun (u : (Nat → Int32)) => ct_B dC dI (va_A [(m0, .inr (3, [.int rx, .int ry, .int rz, .int rw, .int ri, .int ux, .int uy, .int uz, .int vx, .int vy, .int vz, .int cn, .int mo, .ref qw, .ref qt])), (qt, .inl (cB, 40000, .inl tf))] sz) [(m0, .inr (3, [.int rx, .int ry, .int rz, .int rw, .int ri, .int ux, .int uy, .int uz, .int vx, .int vy, .int vz, .int cn, .int mo, .ref qw, .ref qt])), (qt, .inl (cB, 40000, .inl u))]) (va_A [(m0, .inr (3, [.int rx, .int ry, .int rz, .int rw, .int ri, .int ux, .int uy, .int uz, .int vx, .int vy, .int vz, .int cn, .int mo, .ref qw, .ref qt])), (qt, .inl (cB, 40000, .inl tf))] sz)) 0 0 (va_A [(m0, .inr (3, [.int rx, .int ry, .int rz, .int rw, .int ri, .int ux, .int uy, .int uz, .int vx, .int vy, .int vz, .int cn, .int mo, .ref qw, .ref qt])), (qt, .inl (cB, 40000, .inl tf))] sz) := by
  refine Met.ofW (cc := cX4_tried) (maxL := 27) (ret := (some .int)) (by decide +kernel) rfl ?_
  intro p e s m args below meth c s₁ B hml hv
  obtain ⟨rfl, hsz, hP, hK, hD0, hZ, hN⟩ := hv
  have hx := B.exec
  have hb := B.bytes
  have hr := B.returns
  have hts := atoms_spec (ws := wsX4_tried) B.pre
  have hown : s.vm.findClass RX4 = some m.cls := findClass_of_methodNamed B.named
  have hlocks := B.notSynchronized
  have hiX4 : ∀ w ∈ u_ws RX4 TX4 15, w ∈ wsX4_tried := by decide +kernel
  subst hsz
  have hD := hD0.self (sz := s.heap.size)
  generalize hAe : va_A [(m0, .inr (3, [.int rx, .int ry, .int rz, .int rw, .int ri, .int ux, .int uy, .int uz, .int vx, .int vy, .int vz, .int cn, .int mo, .ref qw, .ref qt])), (qt, .inl (cB, 40000, .inl tf))] s.heap.size = A at hD hZ ⊢
  have hA : ∀ q : Nat, s.heap.size ≤ q → A q := fun q h => by rw [← hAe]; exact Or.inr h
  have hl := lv_entry ([.ref m0, .long gx, .long gy, .int cx, .int cy, .long sq, .int al]) (n := 27) (Nat.le_of_ble_eq_true rfl)
  rw [lg_entry_eq]
  generalize (lg_sl ([.ref m0, .long gx, .long gy, .int cx, .int cy, .long sq, .int al]) ++ List.replicate (27 - (lg_sl ([.ref m0, .long gx, .long gy, .int cx, .int cy, .long sq, .int al])).length) Slot.unset).toArray = ls at hl ⊢
  have hl : lv_has ls 27 [(0, .ref m0), (1, .long gx), (3, .long gy), (5, .int cx), (6, .int cy), (7, .long sq), (9, .int al)] := hl
  generalize hHe : s.heap = H at hP ⊢
  have hS : va_S A s.heap H [] := by rw [hHe]; exact va_S.rf
  generalize ([] : List Loc) = locs at hS ⊢
  refine lv_aload_n hx hb dX4_tried_0 rfl (lv_at hl 0 rfl) ?_
  refine va_get (D := (dC, dI)) (ci := 3) (v := .int rx) (C := RX4) (T := TX4) (N := 15) hx hb hts hiX4 hown hK hP 0 rfl rfl 0 (by decide) (hts (.fieldLink RX4 22 "TickWalksModel" "x" "I") (List.mem_of_getElem? (l := wsX4_tried) (i := 1) rfl)) (fun _ h9 => h9) rfl dX4_tried_1 ?_
  refine lv_iload hx hb dX4_tried_4 (lv_at hl 3 rfl) ?_
  refine lv_isub hx hb dX4_tried_6 ?_
  refine lv_i2l hx hb dX4_tried_7 rfl ?_
  refine lv_lstore (lv' := [(10, .long ((rx - cx).toInt64)), (0, .ref m0), (1, .long gx), (3, .long gy), (5, .int cx), (6, .int cy), (7, .long sq), (9, .int al)]) hx hb dX4_tried_8 hl (by decide) rfl (fun ls hl => ?_)
  refine lv_aload_n hx hb dX4_tried_10 rfl (lv_at hl 1 rfl) ?_
  refine va_get (D := (dC, dI)) (ci := 3) (v := .int ry) (C := RX4) (T := TX4) (N := 15) hx hb hts hiX4 hown hK hP 0 rfl rfl 1 (by decide) (hts (.fieldLink RX4 26 "TickWalksModel" "y" "I") (List.mem_of_getElem? (l := wsX4_tried) (i := 2) rfl)) (fun _ h9 => h9) rfl dX4_tried_11 ?_
  refine lv_iload hx hb dX4_tried_14 (lv_at hl 5 rfl) ?_
  refine lv_isub hx hb dX4_tried_16 ?_
  refine lv_i2l hx hb dX4_tried_17 rfl ?_
  refine lv_lstore (lv' := [(12, .long ((ry - cy).toInt64)), (10, .long ((rx - cx).toInt64)), (0, .ref m0), (1, .long gx), (3, .long gy), (5, .int cx), (6, .int cy), (7, .long sq), (9, .int al)]) hx hb dX4_tried_18 hl (by decide) rfl (fun ls hl => ?_)
  refine lv_iconst (v := 0) hx hb dX4_tried_20 (by decide) ?_
  refine lv_istore (lv' := [(14, .int 0), (12, .long ((ry - cy).toInt64)), (10, .long ((rx - cx).toInt64)), (0, .ref m0), (1, .long gx), (3, .long gy), (5, .int cx), (6, .int cy), (7, .long sq), (9, .int al)]) hx hb dX4_tried_21 hl (by decide) rfl (fun ls hl => ?_)
  refine ct_loop (σ := Nat × (Nat → Int32) × Int64 × Int64) (fun n9 w9 H locs ls => n9 = 40000 - w9.1 ∧ (w9.1 ≤ 40000) ∧ (w9.2.2.1 = ((ob_p al sq cx cy (rx, ry) w9.1).1 - cx).toInt64) ∧ (w9.2.2.2 = ((ob_p al sq cx cy (rx, ry) w9.1).2 - cy).toInt64) ∧ (∀ j, 1 ≤ j → j ≤ w9.1 → ob_p al sq cx cy (rx, ry) j ≠ (a, b)) ∧ (wy_P al sq cx cy (rx, ry) w9.2.1 w9.1) ∧ (∀ j, j < w9.1 → ¬ ob_d al sq cx cy (ob_p al sq cx cy (rx, ry) j) < 0) ∧ va_P (dC, dI) vwCl [(m0, .inr (3, [.int rx, .int ry, .int rz, .int rw, .int ri, .int ux, .int uy, .int uz, .int vx, .int vy, .int vz, .int cn, .int mo, .ref qw, .ref qt])), (qt, .inl (cB, 40000, .inl w9.2.1))] H ∧ va_D A [(m0, .inr (3, [.int rx, .int ry, .int rz, .int rw, .int ri, .int ux, .int uy, .int uz, .int vx, .int vy, .int vz, .int cn, .int mo, .ref qw, .ref qt])), (qt, .inl (cB, 40000, .inl w9.2.1))] ∧ va_S A s.heap H locs ∧ lv_has ls 27 [(14, .int (nI w9.1)), (10, .long w9.2.2.1), (12, .long w9.2.2.2), (0, .ref m0), (1, .long gx), (3, .long gy), (5, .int cx), (6, .int cy), (7, .long sq), (9, .int al)]) (fun n9 w9 H locs ls hJ ih_23 => ?_) (40000 - 0) (0, tf, (rx - cx).toInt64, (ry - cy).toInt64) _ _ _ ⟨rfl, (Nat.zero_le _), rfl, rfl, (fun j h1 h2 => absurd h1 (by omega)), (fun j h => absurd h (by omega)), (fun j h => absurd h (by omega)), (hP.sub [0, 1] rfl), (hD.sub [0, 1] (by decide) rfl), hS, (lv_sub hl [0, 2, 1, 3, 4, 5, 6, 7, 8, 9] rfl)⟩
  obtain ⟨i, zf, u, v⟩ := w9
  obtain ⟨hn_23, hi, hu, hv2, hT, hW, hd, hP, hD, hS, hl⟩ := hJ
  have hn_23 : n9 = 40000 - i := hn_23
  have hi : i ≤ 40000 := hi
  have hu : u = ((ob_p al sq cx cy (rx, ry) i).1 - cx).toInt64 := hu
  have hv2 : v = ((ob_p al sq cx cy (rx, ry) i).2 - cy).toInt64 := hv2
  have hT : ∀ j, 1 ≤ j → j ≤ i → ob_p al sq cx cy (rx, ry) j ≠ (a, b) := hT
  have hW : wy_P al sq cx cy (rx, ry) zf i := hW
  have hd : ∀ j, j < i → ¬ ob_d al sq cx cy (ob_p al sq cx cy (rx, ry) j) < 0 := hd
  have hP : va_P (dC, dI) vwCl [(m0, .inr (3, [.int rx, .int ry, .int rz, .int rw, .int ri, .int ux, .int uy, .int uz, .int vx, .int vy, .int vz, .int cn, .int mo, .ref qw, .ref qt])), (qt, .inl (cB, 40000, .inl zf))] H := hP
  have hD : va_D A [(m0, .inr (3, [.int rx, .int ry, .int rz, .int rw, .int ri, .int ux, .int uy, .int uz, .int vx, .int vy, .int vz, .int cn, .int mo, .ref qw, .ref qt])), (qt, .inl (cB, 40000, .inl zf))] := hD
  have hl : lv_has ls 27 [(14, .int (nI i)), (10, .long u), (12, .long v), (0, .ref m0), (1, .long gx), (3, .long gy), (5, .int cx), (6, .int cy), (7, .long sq), (9, .int al)] := hl
  refine lv_iload hx hb dX4_tried_23 (lv_at hl 0 rfl) ?_
  refine lv_ldc (v := 40000) hx hb hown (hts (.constant RX4 9 (40000)) (List.mem_of_getElem? (l := wsX4_tried) (i := 3) rfl)) dX4_tried_25 ?_
  refine lv_icmp_ge (tgt := 228) hx hb dX4_tried_27 (by decide) (fun c_27 => ?_) (fun c_27 => ?_)
  · refine lv_iconst (v := -1) hx hb dX4_tried_228 (by decide) ?_
    have hP9 := hP.sub (ws' := [(m0, .inr (3, [.int rx, .int ry, .int rz, .int rw, .int ri, .int ux, .int uy, .int uz, .int vx, .int vy, .int vz, .int cn, .int mo, .ref qw, .ref qt])), (qt, .inl (cB, 40000, .inl zf))]) [0, 1] rfl
    have hD9 := hD.sub (ws' := [(m0, .inr (3, [.int rx, .int ry, .int rz, .int rw, .int ri, .int ux, .int uy, .int uz, .int vx, .int vy, .int vz, .int cn, .int mo, .ref qw, .ref qt])), (qt, .inl (cB, 40000, .inl zf))]) [0, 1] (by decide) rfl
    exact W.iret (v := -1) hx hb hr (fun t9 ht9 hW9 => ⟨⟨-1, (zf), rfl, (Or.inr ⟨rfl, ob_no_e (fun j h1 h2 => hT j h1 (by have h := (nI_leI (a := 40000) (by omega) (by omega)).mp c_27; omega))⟩), by rw [ht9]; exact hP9, hD9⟩, hS.F ht9⟩) hS.2.2 dX4_tried_229
  · have hi2 : i < 40000 := by
      rcases Nat.lt_or_ge i 40000 with h | h
      · exact h
      · exact absurd (show (40000 : Int32) ≤ nI i from nI_le (a := 40000) h (by omega)) c_27
    refine lv_iconst (v := -1) hx hb dX4_tried_30 (by decide) ?_
    refine lv_istore (lv' := [(15, .int (-1)), (14, .int (nI i)), (10, .long u), (12, .long v), (0, .ref m0), (1, .long gx), (3, .long gy), (5, .int cx), (6, .int cy), (7, .long sq), (9, .int al)]) hx hb dX4_tried_31 hl (by decide) rfl (fun ls hl => ?_)
    refine lv_lconst (v := 0) hx hb dX4_tried_33 (by decide) ?_
    refine lv_lstore (lv' := [(16, .long 0), (15, .int (-1)), (14, .int (nI i)), (10, .long u), (12, .long v), (0, .ref m0), (1, .long gx), (3, .long gy), (5, .int cx), (6, .int cy), (7, .long sq), (9, .int al)]) hx hb dX4_tried_34 hl (by decide) rfl (fun ls hl => ?_)
    refine lv_iconst (v := 0) hx hb dX4_tried_36 (by decide) ?_
    refine lv_istore (lv' := [(18, .int 0), (16, .long 0), (15, .int (-1)), (14, .int (nI i)), (10, .long u), (12, .long v), (0, .ref m0), (1, .long gx), (3, .long gy), (5, .int cx), (6, .int cy), (7, .long sq), (9, .int al)]) hx hb dX4_tried_37 hl (by decide) rfl (fun ls hl => ?_)
    refine ct_loop (σ := Nat × Int32 × Int64) (fun n9 w9 H locs ls => n9 = 8 - w9.1 ∧ (w9.1 ≤ 8) ∧ ((w9.2.1, w9.2.2) = st_F al u v sq w9.1) ∧ va_P (dC, dI) vwCl [(m0, .inr (3, [.int rx, .int ry, .int rz, .int rw, .int ri, .int ux, .int uy, .int uz, .int vx, .int vy, .int vz, .int cn, .int mo, .ref qw, .ref qt])), (qt, .inl (cB, 40000, .inl zf))] H ∧ va_D A [(m0, .inr (3, [.int rx, .int ry, .int rz, .int rw, .int ri, .int ux, .int uy, .int uz, .int vx, .int vy, .int vz, .int cn, .int mo, .ref qw, .ref qt])), (qt, .inl (cB, 40000, .inl zf))] ∧ va_S A s.heap H locs ∧ lv_has ls 27 [(18, .int (nI w9.1)), (15, .int w9.2.1), (16, .long w9.2.2), (14, .int (nI i)), (10, .long u), (12, .long v), (0, .ref m0), (1, .long gx), (3, .long gy), (5, .int cx), (6, .int cy), (7, .long sq), (9, .int al)]) (fun n9 w9 H locs ls hJ ih_39 => ?_) (8 - 0) (0, -1, 0) _ _ _ ⟨rfl, (Nat.zero_le 8), rfl, (hP.sub [0, 1] rfl), (hD.sub [0, 1] (by decide) rfl), hS, (lv_sub hl [0, 2, 1, 3, 4, 5, 6, 7, 8, 9, 10, 11, 12] rfl)⟩
    obtain ⟨g, ne, le⟩ := w9
    obtain ⟨hn_39, hg, hI, hP, hD, hS, hl⟩ := hJ
    have hn_39 : n9 = 8 - g := hn_39
    have hg : g ≤ 8 := hg
    have hI : (ne, le) = st_F al u v sq g := hI
    have hP : va_P (dC, dI) vwCl [(m0, .inr (3, [.int rx, .int ry, .int rz, .int rw, .int ri, .int ux, .int uy, .int uz, .int vx, .int vy, .int vz, .int cn, .int mo, .ref qw, .ref qt])), (qt, .inl (cB, 40000, .inl zf))] H := hP
    have hD : va_D A [(m0, .inr (3, [.int rx, .int ry, .int rz, .int rw, .int ri, .int ux, .int uy, .int uz, .int vx, .int vy, .int vz, .int cn, .int mo, .ref qw, .ref qt])), (qt, .inl (cB, 40000, .inl zf))] := hD
    have hl : lv_has ls 27 [(18, .int (nI g)), (15, .int ne), (16, .long le), (14, .int (nI i)), (10, .long u), (12, .long v), (0, .ref m0), (1, .long gx), (3, .long gy), (5, .int cx), (6, .int cy), (7, .long sq), (9, .int al)] := hl
    refine lv_iload hx hb dX4_tried_39 (lv_at hl 0 rfl) ?_
    refine lv_bipush (v := 8) hx hb dX4_tried_41 (by decide) ?_
    refine lv_icmp_ge (tgt := 164) hx hb dX4_tried_43 (by decide) (fun c_43 => ?_) (fun c_43 => ?_)
    · have h8 : g = 8 := i8_le hg c_43
      subst h8
      have hdi : ne = ob_d al sq cx cy (ob_p al sq cx cy (rx, ry) i) := by
        unfold ob_d
        rw [← hu, ← hv2, ← hI]
      refine lv_iload hx hb dX4_tried_164 (lv_at hl 1 rfl) ?_
      refine lv_if_ge (tgt := 171) hx hb dX4_tried_166 (by decide) (fun c_166 => ?_) (fun c_166 => ?_)
      · have hnd : ¬ ob_d al sq cx cy (ob_p al sq cx cy (rx, ry) i) < 0 := by rw [← hdi]; exact Int32.not_lt.mpr c_166
        obtain ⟨j, hj, hdj⟩ := ob_ix hnd
        obtain rfl : ne = nI j := hdi.trans hdj
        have hps : ob_p al sq cx cy (rx, ry) (i + 1) = ((ob_p al sq cx cy (rx, ry) i).1 + st_X j, (ob_p al sq cx cy (rx, ry) i).2 + st_Y j) := by rw [ob_p]; exact ob_sj hj hdj
        have hbd := ob_b (lf := al) (sq := sq) (cx := cx) (cy := cy) (q := (rx, ry)) hpx.1.1 hpx.1.2 i (by omega)
        have hsj := sx_t hj
        refine lv_aload_n hx hb dX4_tried_171 rfl (lv_at hl 6 rfl) ?_
        refine va_get (D := (dC, dI)) (ci := 3) (v := .ref qt) (C := RX4) (T := TX4) (N := 15) hx hb hts hiX4 hown hK hP 0 rfl rfl 14 (by decide) (hts (.fieldLink RX4 14 "TickWalksModel" "tried" "[B") (List.mem_of_getElem? (l := wsX4_tried) (i := 4) rfl)) (fun _ h9 => h9) rfl dX4_tried_172 ?_
        refine lv_iload hx hb dX4_tried_175 (lv_at hl 3 rfl) ?_
        refine lv_iload hx hb dX4_tried_177 (lv_at hl 1 rfl) ?_
        refine lv_i2b hx hb dX4_tried_179 rfl ?_
        refine va_bast hx hb hK hP hD hS 1 1 rfl rfl (vp_in_nI hi2 (by decide)) dX4_tried_180 (fun H locs hP hD hS => ?_)
        rw [(nI_clamp (show i < 2 ^ 31 by omega))] at hP hD
        rw [nar_b hj] at hP hD
        have hP : va_P (dC, dI) vwCl [(m0, .inr (3, [.int rx, .int ry, .int rz, .int rw, .int ri, .int ux, .int uy, .int uz, .int vx, .int vy, .int vz, .int cn, .int mo, .ref qw, .ref qt])), (qt, .inl (cB, 40000, .inl (upd zf i (nI j))))] H := hP
        have hD : va_D A [(m0, .inr (3, [.int rx, .int ry, .int rz, .int rw, .int ri, .int ux, .int uy, .int uz, .int vx, .int vy, .int vz, .int cn, .int mo, .ref qw, .ref qt])), (qt, .inl (cB, 40000, .inl (upd zf i (nI j))))] := hD
        refine lv_lload hx hb dX4_tried_181 (lv_at hl 4 rfl) ?_
        refine lv_iload hx hb dX4_tried_183 (lv_at hl 1 rfl) ?_
        refine ct_calli (va_runS (As := [.int (nI j)]) (rest := [.long u]) ⟨hx, hb, hml, hown, hts⟩ (rf_east l dC dI cA cB H.size j hj) (va_cwS 1 hts gX4_tried_X4_eastOf rfl rfl rfl (by decide +kernel) ⟨Nat.le_of_ble_eq_true rfl, Nat.le_of_ble_eq_true rfl⟩) ⟨ct_blind, ct_pre hP hD hK hZ hN hS hA [] rfl (by decide)⟩ rfl rfl hl.1 rfl (lv_room (Nat.le_of_ble_eq_true rfl)) dX4_tried_185 ⟨Nat.le_of_ble_eq_true rfl, Nat.le_of_ble_eq_true rfl⟩) hP hD hS hA [] [0, 1] rfl (wr := [(m0, .inr (3, [.int rx, .int ry, .int rz, .int rw, .int ri, .int ux, .int uy, .int uz, .int vx, .int vy, .int vz, .int cn, .int mo, .ref qw, .ref qt])), (qt, .inl (cB, 40000, .inl (upd zf i (nI j))))]) rfl (by decide) (by decide) (fun r_1 u9 H locs hw_1 hP hD hS => ?_)
        have hw_1 : r_1 = st_X j := hw_1
        have hP : va_P (dC, dI) vwCl [(m0, .inr (3, [.int rx, .int ry, .int rz, .int rw, .int ri, .int ux, .int uy, .int uz, .int vx, .int vy, .int vz, .int cn, .int mo, .ref qw, .ref qt])), (qt, .inl (cB, 40000, .inl (upd zf i (nI j))))] H := hP
        have hD : va_D A [(m0, .inr (3, [.int rx, .int ry, .int rz, .int rw, .int ri, .int ux, .int uy, .int uz, .int vx, .int vy, .int vz, .int cn, .int mo, .ref qw, .ref qt])), (qt, .inl (cB, 40000, .inl (upd zf i (nI j))))] := hD
        refine ct_topi (y := st_X j) hw_1 ?_
        refine lv_i2l hx hb dX4_tried_188 rfl ?_
        refine lv_ladd hx hb dX4_tried_189 ?_
        refine lv_lstore (lv' := [(10, .long (u + ((st_X j).toInt64))), (18, .int (nI 8)), (15, .int (nI j)), (16, .long le), (14, .int (nI i)), (12, .long v), (0, .ref m0), (1, .long gx), (3, .long gy), (5, .int cx), (6, .int cy), (7, .long sq), (9, .int al)]) hx hb dX4_tried_190 hl (by decide) rfl (fun ls hl => ?_)
        refine lv_lload hx hb dX4_tried_192 (lv_at hl 5 rfl) ?_
        refine lv_iload hx hb dX4_tried_194 (lv_at hl 2 rfl) ?_
        refine ct_calli (va_runS (As := [.int (nI j)]) (rest := [.long v]) ⟨hx, hb, hml, hown, hts⟩ (rf_north l dC dI cA cB H.size j hj) (va_cwS 1 hts gX4_tried_X4_northOf rfl rfl rfl (by decide +kernel) ⟨Nat.le_of_ble_eq_true rfl, Nat.le_of_ble_eq_true rfl⟩) ⟨ct_blind, ct_pre hP hD hK hZ hN hS hA [] rfl (by decide)⟩ rfl rfl hl.1 rfl (lv_room (Nat.le_of_ble_eq_true rfl)) dX4_tried_196 ⟨Nat.le_of_ble_eq_true rfl, Nat.le_of_ble_eq_true rfl⟩) hP hD hS hA [] [0, 1] rfl (wr := [(m0, .inr (3, [.int rx, .int ry, .int rz, .int rw, .int ri, .int ux, .int uy, .int uz, .int vx, .int vy, .int vz, .int cn, .int mo, .ref qw, .ref qt])), (qt, .inl (cB, 40000, .inl (upd zf i (nI j))))]) rfl (by decide) (by decide) (fun r_2 u9 H locs hw_2 hP hD hS => ?_)
        have hw_2 : r_2 = st_Y j := hw_2
        have hP : va_P (dC, dI) vwCl [(m0, .inr (3, [.int rx, .int ry, .int rz, .int rw, .int ri, .int ux, .int uy, .int uz, .int vx, .int vy, .int vz, .int cn, .int mo, .ref qw, .ref qt])), (qt, .inl (cB, 40000, .inl (upd zf i (nI j))))] H := hP
        have hD : va_D A [(m0, .inr (3, [.int rx, .int ry, .int rz, .int rw, .int ri, .int ux, .int uy, .int uz, .int vx, .int vy, .int vz, .int cn, .int mo, .ref qw, .ref qt])), (qt, .inl (cB, 40000, .inl (upd zf i (nI j))))] := hD
        refine ct_topi (y := st_Y j) hw_2 ?_
        refine lv_i2l hx hb dX4_tried_199 rfl ?_
        refine lv_ladd hx hb dX4_tried_200 ?_
        refine lv_lstore (lv' := [(12, .long (v + ((st_Y j).toInt64))), (10, .long (u + ((st_X j).toInt64))), (18, .int (nI 8)), (15, .int (nI j)), (16, .long le), (14, .int (nI i)), (0, .ref m0), (1, .long gx), (3, .long gy), (5, .int cx), (6, .int cy), (7, .long sq), (9, .int al)]) hx hb dX4_tried_201 hl (by decide) rfl (fun ls hl => ?_)
        have hu2 : u + (st_X j).toInt64 = ((ob_p al sq cx cy (rx, ry) (i + 1)).1 - cx).toInt64 := by rw [hps, hu]; exact l6_step (by omega) (ce_t hpx.2.1) hsj.1
        have hv3 : v + (st_Y j).toInt64 = ((ob_p al sq cx cy (rx, ry) (i + 1)).2 - cy).toInt64 := by rw [hps, hv2]; exact l6_step (by omega) (ce_t hpx.2.2) hsj.2
        have hd2 : ∀ j, j < i + 1 → ¬ ob_d al sq cx cy (ob_p al sq cx cy (rx, ry) j) < 0 := fun j h => by
          rcases Nat.lt_or_ge j i with q | q
          · exact hd j q
          · rw [show j = i by omega]; exact hnd
        have hW2 : wy_P al sq cx cy (rx, ry) (upd zf i (nI j)) (i + 1) := fun y h => by
          rcases Nat.lt_or_ge y i with q | q
          · rw [pk_un (by omega)]; exact hW y q
          · rw [show y = i by omega, pk_us]; exact ⟨j, hj, rfl, hps⟩
        refine lv_lload hx hb dX4_tried_203 (lv_at hl 1 rfl) ?_
        refine lv_lload_n hx hb dX4_tried_205 rfl (lv_at hl 7 rfl) ?_
        refine W.lcmp hx hb dX4_tried_206 ?_
        refine lv_if_ne (tgt := 222) hx hb dX4_tried_207 (by decide) (fun c_207 => ?_) (fun c_207 => ?_)
        · have hne2 : ob_p al sq cx cy (rx, ry) (i + 1) ≠ (a, b) := fun h => c_207 ((lg_cmp_eq _ _).mpr (by rw [hu2, hgx, h]))
          have hT2 : ∀ j, 1 ≤ j → j ≤ i + 1 → ob_p al sq cx cy (rx, ry) j ≠ (a, b) := fun j h1 h2 => by
            rcases Nat.lt_or_ge j (i + 1) with q | q
            · exact hT j h1 (by omega)
            · rw [show j = i + 1 by omega]; exact hne2
          refine lv_iinc (v := nI (i + 1)) (lv' := [(14, .int (nI (i + 1))), (12, .long (v + ((st_Y j).toInt64))), (10, .long (u + ((st_X j).toInt64))), (18, .int (nI 8)), (15, .int (nI j)), (16, .long le), (0, .ref m0), (1, .long gx), (3, .long gy), (5, .int cx), (6, .int cy), (7, .long sq), (9, .int al)]) hx hb dX4_tried_222 hl (k := 5) rfl (nI_1 i) (by decide) rfl (fun ls hl => ?_)
          refine lv_goto (tgt := 23) hx hb dX4_tried_225 (by decide) ?_
          exact ih_23 _ ((i + 1), upd zf i (nI j), u + ((st_X j).toInt64), v + ((st_Y j).toInt64)) _ _ _ (by rw [hn_23]; omega) ⟨rfl, (show i + 1 ≤ 40000 by omega), hu2, hv3, hT2, hW2, hd2, (hP.sub [0, 1] rfl), (hD.sub [0, 1] (by decide) rfl), hS, (lv_sub hl [0, 2, 1, 6, 7, 8, 9, 10, 11, 12] rfl)⟩
        · refine lv_lload hx hb dX4_tried_210 (lv_at hl 0 rfl) ?_
          refine lv_lload_n hx hb dX4_tried_212 rfl (lv_at hl 8 rfl) ?_
          refine W.lcmp hx hb dX4_tried_213 ?_
          refine lv_if_ne (tgt := 222) hx hb dX4_tried_214 (by decide) (fun c_214 => ?_) (fun c_214 => ?_)
          · have hne2 : ob_p al sq cx cy (rx, ry) (i + 1) ≠ (a, b) := fun h => c_214 ((lg_cmp_eq _ _).mpr (by rw [hv3, hgy, h]))
            have hT2 : ∀ j, 1 ≤ j → j ≤ i + 1 → ob_p al sq cx cy (rx, ry) j ≠ (a, b) := fun j h1 h2 => by
              rcases Nat.lt_or_ge j (i + 1) with q | q
              · exact hT j h1 (by omega)
              · rw [show j = i + 1 by omega]; exact hne2
            refine lv_iinc (v := nI (i + 1)) (lv' := [(14, .int (nI (i + 1))), (12, .long (v + ((st_Y j).toInt64))), (10, .long (u + ((st_X j).toInt64))), (18, .int (nI 8)), (15, .int (nI j)), (16, .long le), (0, .ref m0), (1, .long gx), (3, .long gy), (5, .int cx), (6, .int cy), (7, .long sq), (9, .int al)]) hx hb dX4_tried_222 hl (k := 5) rfl (nI_1 i) (by decide) rfl (fun ls hl => ?_)
            refine lv_goto (tgt := 23) hx hb dX4_tried_225 (by decide) ?_
            exact ih_23 _ ((i + 1), upd zf i (nI j), u + ((st_X j).toInt64), v + ((st_Y j).toInt64)) _ _ _ (by rw [hn_23]; omega) ⟨rfl, (show i + 1 ≤ 40000 by omega), hu2, hv3, hT2, hW2, hd2, (hP.sub [0, 1] rfl), (hD.sub [0, 1] (by decide) rfl), hS, (lv_sub hl [0, 2, 1, 6, 7, 8, 9, 10, 11, 12] rfl)⟩
          · refine lv_iload hx hb dX4_tried_217 (lv_at hl 5 rfl) ?_
            refine lv_iconst (v := 1) hx hb dX4_tried_219 (by decide) ?_
            refine lv_iadd hx hb dX4_tried_220 ?_
            refine ct_topi (y := nI (i + 1)) (nI_1 i) ?_
            have hP9 := hP.sub (ws' := [(m0, .inr (3, [.int rx, .int ry, .int rz, .int rw, .int ri, .int ux, .int uy, .int uz, .int vx, .int vy, .int vz, .int cn, .int mo, .ref qw, .ref qt])), (qt, .inl (cB, 40000, .inl (upd zf i (nI j))))]) [0, 1] rfl
            have hD9 := hD.sub (ws' := [(m0, .inr (3, [.int rx, .int ry, .int rz, .int rw, .int ri, .int ux, .int uy, .int uz, .int vx, .int vy, .int vz, .int cn, .int mo, .ref qw, .ref qt])), (qt, .inl (cB, 40000, .inl (upd zf i (nI j))))]) [0, 1] (by decide) rfl
            exact W.iret (v := nI (i + 1)) hx hb hr (fun t9 ht9 hW9 => ⟨⟨nI (i + 1), (upd zf i (nI j)), rfl, (Or.inl ⟨i + 1, rfl, ⟨by omega, by omega, hd2, by have h1 := (lg_cmp_eq _ _).mp c_207; have h2 := (lg_cmp_eq _ _).mp c_214; rw [hu2, hgx] at h1; rw [hv3, hgy] at h2; exact Prod.ext (l6_inj h1) (l6_inj h2), fun j h1 h2 => hT j h1 (by omega)⟩, hW2⟩), by rw [ht9]; exact hP9, hD9⟩, hS.F ht9⟩) hS.2.2 dX4_tried_221
      · refine lv_iconst (v := -1) hx hb dX4_tried_169 (by decide) ?_
        have hP9 := hP.sub (ws' := [(m0, .inr (3, [.int rx, .int ry, .int rz, .int rw, .int ri, .int ux, .int uy, .int uz, .int vx, .int vy, .int vz, .int cn, .int mo, .ref qw, .ref qt])), (qt, .inl (cB, 40000, .inl zf))]) [0, 1] rfl
        have hD9 := hD.sub (ws' := [(m0, .inr (3, [.int rx, .int ry, .int rz, .int rw, .int ri, .int ux, .int uy, .int uz, .int vx, .int vy, .int vz, .int cn, .int mo, .ref qw, .ref qt])), (qt, .inl (cB, 40000, .inl zf))]) [0, 1] (by decide) rfl
        exact W.iret (v := -1) hx hb hr (fun t9 ht9 hW9 => ⟨⟨-1, (zf), rfl, (Or.inr ⟨rfl, ob_no_d (j := i) (by rw [← hdi]; exact Int32.not_le.mp c_166) hT⟩), by rw [ht9]; exact hP9, hD9⟩, hS.F ht9⟩) hS.2.2 dX4_tried_170
    · have hlt : g < 8 := i8_lt hg c_43
      refine lv_lload hx hb dX4_tried_46 (lv_at hl 4 rfl) ?_
      refine lv_iload hx hb dX4_tried_48 (lv_at hl 0 rfl) ?_
      refine ct_calli (va_runS (As := [.int (nI g)]) (rest := [.long u]) ⟨hx, hb, hml, hown, hts⟩ (rf_east l dC dI cA cB H.size g hlt) (va_cwS 1 hts gX4_tried_X4_eastOf rfl rfl rfl (by decide +kernel) ⟨Nat.le_of_ble_eq_true rfl, Nat.le_of_ble_eq_true rfl⟩) ⟨ct_blind, ct_pre hP hD hK hZ hN hS hA [] rfl (by decide)⟩ rfl rfl hl.1 rfl (lv_room (Nat.le_of_ble_eq_true rfl)) dX4_tried_50 ⟨Nat.le_of_ble_eq_true rfl, Nat.le_of_ble_eq_true rfl⟩) hP hD hS hA [] [0, 1] rfl (wr := [(m0, .inr (3, [.int rx, .int ry, .int rz, .int rw, .int ri, .int ux, .int uy, .int uz, .int vx, .int vy, .int vz, .int cn, .int mo, .ref qw, .ref qt])), (qt, .inl (cB, 40000, .inl zf))]) rfl (by decide) (by decide) (fun r_3 u9 H locs hw_3 hP hD hS => ?_)
      have hw_3 : r_3 = st_X g := hw_3
      have hP : va_P (dC, dI) vwCl [(m0, .inr (3, [.int rx, .int ry, .int rz, .int rw, .int ri, .int ux, .int uy, .int uz, .int vx, .int vy, .int vz, .int cn, .int mo, .ref qw, .ref qt])), (qt, .inl (cB, 40000, .inl zf))] H := hP
      have hD : va_D A [(m0, .inr (3, [.int rx, .int ry, .int rz, .int rw, .int ri, .int ux, .int uy, .int uz, .int vx, .int vy, .int vz, .int cn, .int mo, .ref qw, .ref qt])), (qt, .inl (cB, 40000, .inl zf))] := hD
      refine ct_topi (y := st_X g) hw_3 ?_
      refine lv_i2l hx hb dX4_tried_53 rfl ?_
      refine lv_ladd hx hb dX4_tried_54 ?_
      refine lv_topl (fun pa epa => ?_)
      refine lv_lstore (lv' := [(19, .long pa), (18, .int (nI g)), (15, .int ne), (16, .long le), (14, .int (nI i)), (10, .long u), (12, .long v), (0, .ref m0), (1, .long gx), (3, .long gy), (5, .int cx), (6, .int cy), (7, .long sq), (9, .int al)]) hx hb dX4_tried_55 hl (by decide) rfl (fun ls hl => ?_)
      refine lv_lload hx hb dX4_tried_57 (lv_at hl 6 rfl) ?_
      refine lv_iload hx hb dX4_tried_59 (lv_at hl 1 rfl) ?_
      refine ct_calli (va_runS (As := [.int (nI g)]) (rest := [.long v]) ⟨hx, hb, hml, hown, hts⟩ (rf_north l dC dI cA cB H.size g hlt) (va_cwS 1 hts gX4_tried_X4_northOf rfl rfl rfl (by decide +kernel) ⟨Nat.le_of_ble_eq_true rfl, Nat.le_of_ble_eq_true rfl⟩) ⟨ct_blind, ct_pre hP hD hK hZ hN hS hA [] rfl (by decide)⟩ rfl rfl hl.1 rfl (lv_room (Nat.le_of_ble_eq_true rfl)) dX4_tried_61 ⟨Nat.le_of_ble_eq_true rfl, Nat.le_of_ble_eq_true rfl⟩) hP hD hS hA [] [0, 1] rfl (wr := [(m0, .inr (3, [.int rx, .int ry, .int rz, .int rw, .int ri, .int ux, .int uy, .int uz, .int vx, .int vy, .int vz, .int cn, .int mo, .ref qw, .ref qt])), (qt, .inl (cB, 40000, .inl zf))]) rfl (by decide) (by decide) (fun r_4 u9 H locs hw_4 hP hD hS => ?_)
      have hw_4 : r_4 = st_Y g := hw_4
      have hP : va_P (dC, dI) vwCl [(m0, .inr (3, [.int rx, .int ry, .int rz, .int rw, .int ri, .int ux, .int uy, .int uz, .int vx, .int vy, .int vz, .int cn, .int mo, .ref qw, .ref qt])), (qt, .inl (cB, 40000, .inl zf))] H := hP
      have hD : va_D A [(m0, .inr (3, [.int rx, .int ry, .int rz, .int rw, .int ri, .int ux, .int uy, .int uz, .int vx, .int vy, .int vz, .int cn, .int mo, .ref qw, .ref qt])), (qt, .inl (cB, 40000, .inl zf))] := hD
      refine ct_topi (y := st_Y g) hw_4 ?_
      refine lv_i2l hx hb dX4_tried_64 rfl ?_
      refine lv_ladd hx hb dX4_tried_65 ?_
      refine lv_topl (fun pb epb => ?_)
      refine lv_lstore (lv' := [(21, .long pb), (19, .long pa), (18, .int (nI g)), (15, .int ne), (16, .long le), (14, .int (nI i)), (10, .long u), (12, .long v), (0, .ref m0), (1, .long gx), (3, .long gy), (5, .int cx), (6, .int cy), (7, .long sq), (9, .int al)]) hx hb dX4_tried_66 hl (by decide) rfl (fun ls hl => ?_)
      refine lv_lload hx hb dX4_tried_68 (lv_at hl 6 rfl) ?_
      refine lv_lload hx hb dX4_tried_70 (lv_at hl 0 rfl) ?_
      refine lv_lmul hx hb dX4_tried_72 ?_
      refine lv_lload hx hb dX4_tried_73 (lv_at hl 7 rfl) ?_
      refine lv_lload hx hb dX4_tried_75 (lv_at hl 1 rfl) ?_
      refine lv_lmul hx hb dX4_tried_77 ?_
      refine lv_lsub hx hb dX4_tried_78 ?_
      refine lv_topl (fun tn etn => ?_)
      refine lv_lstore (lv' := [(23, .long tn), (21, .long pb), (19, .long pa), (18, .int (nI g)), (15, .int ne), (16, .long le), (14, .int (nI i)), (10, .long u), (12, .long v), (0, .ref m0), (1, .long gx), (3, .long gy), (5, .int cx), (6, .int cy), (7, .long sq), (9, .int al)]) hx hb dX4_tried_79 hl (by decide) rfl (fun ls hl => ?_)
      have htn : tn = st_t u v g := by rw [etn, epa, epb]; rfl
      refine lv_iload hx hb dX4_tried_81 (lv_at hl 15 rfl) ?_
      refine lv_if_eq (tgt := 96) hx hb dX4_tried_83 (by decide) (fun c_83 => ?_) (fun c_83 => ?_)
      · refine lv_lload hx hb dX4_tried_96 (lv_at hl 0 rfl) ?_
        refine lv_lconst (v := 0) hx hb dX4_tried_98 (by decide) ?_
        refine W.lcmp hx hb dX4_tried_99 ?_
        refine lv_if_lt (tgt := 106) hx hb dX4_tried_100 (by decide) (fun c_100 => ?_) (fun c_100 => ?_)
        · refine lv_lload hx hb dX4_tried_106 (lv_at hl 2 rfl) ?_
          refine lv_lload hx hb dX4_tried_108 (lv_at hl 2 rfl) ?_
          refine lv_lmul hx hb dX4_tried_110 ?_
          refine lv_lload hx hb dX4_tried_111 (lv_at hl 1 rfl) ?_
          refine lv_lload hx hb dX4_tried_113 (lv_at hl 1 rfl) ?_
          refine lv_lmul hx hb dX4_tried_115 ?_
          refine lv_ladd hx hb dX4_tried_116 ?_
          refine lv_lload hx hb dX4_tried_117 (lv_at hl 14 rfl) ?_
          refine lv_lsub hx hb dX4_tried_119 ?_
          refine lv_topl (fun of1 eof1 => ?_)
          refine lv_lstore (lv' := [(25, .long of1), (23, .long tn), (21, .long pb), (19, .long pa), (18, .int (nI g)), (15, .int ne), (16, .long le), (14, .int (nI i)), (10, .long u), (12, .long v), (0, .ref m0), (1, .long gx), (3, .long gy), (5, .int cx), (6, .int cy), (7, .long sq), (9, .int al)]) hx hb dX4_tried_120 hl (by decide) rfl (fun ls hl => ?_)
          refine lv_lload hx hb dX4_tried_122 (lv_at hl 0 rfl) ?_
          refine lv_lconst (v := 0) hx hb dX4_tried_124 (by decide) ?_
          refine W.lcmp hx hb dX4_tried_125 ?_
          refine lv_if_ge (tgt := 134) hx hb dX4_tried_126 (by decide) (fun c_126 => ?_) (fun c_126 => ?_)
          · have hbs : of1 = st_b u v sq g := by rw [ab_l_ge ((lg_cmp_ge _ _).mp c_126), eof1, epa, epb]; rfl
            refine lv_iload hx hb dX4_tried_134 (lv_at hl 5 rfl) ?_
            refine lv_if_lt (tgt := 150) hx hb dX4_tried_136 (by decide) (fun c_136 => ?_) (fun c_136 => ?_)
            · refine lv_iload hx hb dX4_tried_150 (lv_at hl 4 rfl) ?_
              refine lv_istore (lv' := [(15, .int (nI g)), (25, .long of1), (23, .long tn), (21, .long pb), (19, .long pa), (18, .int (nI g)), (16, .long le), (14, .int (nI i)), (10, .long u), (12, .long v), (0, .ref m0), (1, .long gx), (3, .long gy), (5, .int cx), (6, .int cy), (7, .long sq), (9, .int al)]) hx hb dX4_tried_152 hl (by decide) rfl (fun ls hl => ?_)
              refine lv_lload hx hb dX4_tried_154 (lv_at hl 1 rfl) ?_
              refine lv_lstore (lv' := [(16, .long of1), (15, .int (nI g)), (25, .long of1), (23, .long tn), (21, .long pb), (19, .long pa), (18, .int (nI g)), (14, .int (nI i)), (10, .long u), (12, .long v), (0, .ref m0), (1, .long gx), (3, .long gy), (5, .int cx), (6, .int cy), (7, .long sq), (9, .int al)]) hx hb dX4_tried_156 hl (by decide) rfl (fun ls hl => ?_)
              refine lv_iinc (v := nI (g + 1)) (lv' := [(18, .int (nI (g + 1))), (16, .long of1), (15, .int (nI g)), (25, .long of1), (23, .long tn), (21, .long pb), (19, .long pa), (14, .int (nI i)), (10, .long u), (12, .long v), (0, .ref m0), (1, .long gx), (3, .long gy), (5, .int cx), (6, .int cy), (7, .long sq), (9, .int al)]) hx hb dX4_tried_158 hl (k := 6) rfl (nI_1 g) (by decide) rfl (fun ls hl => ?_)
              refine lv_goto (tgt := 39) hx hb dX4_tried_161 (by decide) ?_
              exact ih_39 _ ((g + 1), nI g, of1) _ _ _ (by rw [hn_39]; omega) ⟨rfl, (show g + 1 ≤ 8 by omega), (by rw [st_F_take (show st_c al u v g = true by unfold st_c; rw [if_pos c_83, ← htn]; exact decide_eq_true ((lg_cmp_lt _ _).mp c_100)) (Or.inl (by rw [← hI]; exact c_136)), ← hbs]), (hP.sub [0, 1] rfl), (hD.sub [0, 1] (by decide) rfl), hS, (lv_sub hl [0, 2, 1, 7, 8, 9, 10, 11, 12, 13, 14, 15, 16] rfl)⟩
            · refine lv_lload hx hb dX4_tried_139 (lv_at hl 0 rfl) ?_
              refine lv_lload hx hb dX4_tried_141 (lv_at hl 6 rfl) ?_
              refine W.lcmp hx hb dX4_tried_143 ?_
              refine lv_if_lt (tgt := 150) hx hb dX4_tried_144 (by decide) (fun c_144 => ?_) (fun c_144 => ?_)
              · refine lv_iload hx hb dX4_tried_150 (lv_at hl 4 rfl) ?_
                refine lv_istore (lv' := [(15, .int (nI g)), (25, .long of1), (23, .long tn), (21, .long pb), (19, .long pa), (18, .int (nI g)), (16, .long le), (14, .int (nI i)), (10, .long u), (12, .long v), (0, .ref m0), (1, .long gx), (3, .long gy), (5, .int cx), (6, .int cy), (7, .long sq), (9, .int al)]) hx hb dX4_tried_152 hl (by decide) rfl (fun ls hl => ?_)
                refine lv_lload hx hb dX4_tried_154 (lv_at hl 1 rfl) ?_
                refine lv_lstore (lv' := [(16, .long of1), (15, .int (nI g)), (25, .long of1), (23, .long tn), (21, .long pb), (19, .long pa), (18, .int (nI g)), (14, .int (nI i)), (10, .long u), (12, .long v), (0, .ref m0), (1, .long gx), (3, .long gy), (5, .int cx), (6, .int cy), (7, .long sq), (9, .int al)]) hx hb dX4_tried_156 hl (by decide) rfl (fun ls hl => ?_)
                refine lv_iinc (v := nI (g + 1)) (lv' := [(18, .int (nI (g + 1))), (16, .long of1), (15, .int (nI g)), (25, .long of1), (23, .long tn), (21, .long pb), (19, .long pa), (14, .int (nI i)), (10, .long u), (12, .long v), (0, .ref m0), (1, .long gx), (3, .long gy), (5, .int cx), (6, .int cy), (7, .long sq), (9, .int al)]) hx hb dX4_tried_158 hl (k := 6) rfl (nI_1 g) (by decide) rfl (fun ls hl => ?_)
                refine lv_goto (tgt := 39) hx hb dX4_tried_161 (by decide) ?_
                exact ih_39 _ ((g + 1), nI g, of1) _ _ _ (by rw [hn_39]; omega) ⟨rfl, (show g + 1 ≤ 8 by omega), (by rw [st_F_take (show st_c al u v g = true by unfold st_c; rw [if_pos c_83, ← htn]; exact decide_eq_true ((lg_cmp_lt _ _).mp c_100)) (Or.inr (by rw [← hI, ← hbs]; exact (lg_cmp_lt _ _).mp c_144)), ← hbs]), (hP.sub [0, 1] rfl), (hD.sub [0, 1] (by decide) rfl), hS, (lv_sub hl [0, 2, 1, 7, 8, 9, 10, 11, 12, 13, 14, 15, 16] rfl)⟩
              · refine lv_goto (tgt := 158) hx hb dX4_tried_147 (by decide) ?_
                refine lv_iinc (v := nI (g + 1)) (lv' := [(18, .int (nI (g + 1))), (25, .long of1), (23, .long tn), (21, .long pb), (19, .long pa), (15, .int ne), (16, .long le), (14, .int (nI i)), (10, .long u), (12, .long v), (0, .ref m0), (1, .long gx), (3, .long gy), (5, .int cx), (6, .int cy), (7, .long sq), (9, .int al)]) hx hb dX4_tried_158 hl (k := 4) rfl (nI_1 g) (by decide) rfl (fun ls hl => ?_)
                refine lv_goto (tgt := 39) hx hb dX4_tried_161 (by decide) ?_
                exact ih_39 _ ((g + 1), ne, le) _ _ _ (by rw [hn_39]; omega) ⟨rfl, (show g + 1 ≤ 8 by omega), (hI.trans (st_F_keep (show st_c al u v g = true by unfold st_c; rw [if_pos c_83, ← htn]; exact decide_eq_true ((lg_cmp_lt _ _).mp c_100)) (by rw [← hI, ← hbs]; intro h; rcases h with h | h; exact c_136 h; exact c_144 ((lg_cmp_lt _ _).mpr h))).symm), (hP.sub [0, 1] rfl), (hD.sub [0, 1] (by decide) rfl), hS, (lv_sub hl [0, 5, 6, 7, 8, 9, 10, 11, 12, 13, 14, 15, 16] rfl)⟩
          · refine lv_lload hx hb dX4_tried_129 (lv_at hl 0 rfl) ?_
            refine lv_lneg hx hb dX4_tried_131 ?_
            refine lv_lstore (lv' := [(25, .long (-of1)), (23, .long tn), (21, .long pb), (19, .long pa), (18, .int (nI g)), (15, .int ne), (16, .long le), (14, .int (nI i)), (10, .long u), (12, .long v), (0, .ref m0), (1, .long gx), (3, .long gy), (5, .int cx), (6, .int cy), (7, .long sq), (9, .int al)]) hx hb dX4_tried_132 hl (by decide) rfl (fun ls hl => ?_)
            have hbs : -of1 = st_b u v sq g := by rw [ab_l_lt (fun h => c_126 ((lg_cmp_ge _ _).mpr h)), eof1, epa, epb]; rfl
            refine lv_iload hx hb dX4_tried_134 (lv_at hl 5 rfl) ?_
            refine lv_if_lt (tgt := 150) hx hb dX4_tried_136 (by decide) (fun c_136 => ?_) (fun c_136 => ?_)
            · refine lv_iload hx hb dX4_tried_150 (lv_at hl 4 rfl) ?_
              refine lv_istore (lv' := [(15, .int (nI g)), (25, .long (-of1)), (23, .long tn), (21, .long pb), (19, .long pa), (18, .int (nI g)), (16, .long le), (14, .int (nI i)), (10, .long u), (12, .long v), (0, .ref m0), (1, .long gx), (3, .long gy), (5, .int cx), (6, .int cy), (7, .long sq), (9, .int al)]) hx hb dX4_tried_152 hl (by decide) rfl (fun ls hl => ?_)
              refine lv_lload hx hb dX4_tried_154 (lv_at hl 1 rfl) ?_
              refine lv_lstore (lv' := [(16, .long (-of1)), (15, .int (nI g)), (25, .long (-of1)), (23, .long tn), (21, .long pb), (19, .long pa), (18, .int (nI g)), (14, .int (nI i)), (10, .long u), (12, .long v), (0, .ref m0), (1, .long gx), (3, .long gy), (5, .int cx), (6, .int cy), (7, .long sq), (9, .int al)]) hx hb dX4_tried_156 hl (by decide) rfl (fun ls hl => ?_)
              refine lv_iinc (v := nI (g + 1)) (lv' := [(18, .int (nI (g + 1))), (16, .long (-of1)), (15, .int (nI g)), (25, .long (-of1)), (23, .long tn), (21, .long pb), (19, .long pa), (14, .int (nI i)), (10, .long u), (12, .long v), (0, .ref m0), (1, .long gx), (3, .long gy), (5, .int cx), (6, .int cy), (7, .long sq), (9, .int al)]) hx hb dX4_tried_158 hl (k := 6) rfl (nI_1 g) (by decide) rfl (fun ls hl => ?_)
              refine lv_goto (tgt := 39) hx hb dX4_tried_161 (by decide) ?_
              exact ih_39 _ ((g + 1), nI g, -of1) _ _ _ (by rw [hn_39]; omega) ⟨rfl, (show g + 1 ≤ 8 by omega), (by rw [st_F_take (show st_c al u v g = true by unfold st_c; rw [if_pos c_83, ← htn]; exact decide_eq_true ((lg_cmp_lt _ _).mp c_100)) (Or.inl (by rw [← hI]; exact c_136)), ← hbs]), (hP.sub [0, 1] rfl), (hD.sub [0, 1] (by decide) rfl), hS, (lv_sub hl [0, 2, 1, 7, 8, 9, 10, 11, 12, 13, 14, 15, 16] rfl)⟩
            · refine lv_lload hx hb dX4_tried_139 (lv_at hl 0 rfl) ?_
              refine lv_lload hx hb dX4_tried_141 (lv_at hl 6 rfl) ?_
              refine W.lcmp hx hb dX4_tried_143 ?_
              refine lv_if_lt (tgt := 150) hx hb dX4_tried_144 (by decide) (fun c_144 => ?_) (fun c_144 => ?_)
              · refine lv_iload hx hb dX4_tried_150 (lv_at hl 4 rfl) ?_
                refine lv_istore (lv' := [(15, .int (nI g)), (25, .long (-of1)), (23, .long tn), (21, .long pb), (19, .long pa), (18, .int (nI g)), (16, .long le), (14, .int (nI i)), (10, .long u), (12, .long v), (0, .ref m0), (1, .long gx), (3, .long gy), (5, .int cx), (6, .int cy), (7, .long sq), (9, .int al)]) hx hb dX4_tried_152 hl (by decide) rfl (fun ls hl => ?_)
                refine lv_lload hx hb dX4_tried_154 (lv_at hl 1 rfl) ?_
                refine lv_lstore (lv' := [(16, .long (-of1)), (15, .int (nI g)), (25, .long (-of1)), (23, .long tn), (21, .long pb), (19, .long pa), (18, .int (nI g)), (14, .int (nI i)), (10, .long u), (12, .long v), (0, .ref m0), (1, .long gx), (3, .long gy), (5, .int cx), (6, .int cy), (7, .long sq), (9, .int al)]) hx hb dX4_tried_156 hl (by decide) rfl (fun ls hl => ?_)
                refine lv_iinc (v := nI (g + 1)) (lv' := [(18, .int (nI (g + 1))), (16, .long (-of1)), (15, .int (nI g)), (25, .long (-of1)), (23, .long tn), (21, .long pb), (19, .long pa), (14, .int (nI i)), (10, .long u), (12, .long v), (0, .ref m0), (1, .long gx), (3, .long gy), (5, .int cx), (6, .int cy), (7, .long sq), (9, .int al)]) hx hb dX4_tried_158 hl (k := 6) rfl (nI_1 g) (by decide) rfl (fun ls hl => ?_)
                refine lv_goto (tgt := 39) hx hb dX4_tried_161 (by decide) ?_
                exact ih_39 _ ((g + 1), nI g, -of1) _ _ _ (by rw [hn_39]; omega) ⟨rfl, (show g + 1 ≤ 8 by omega), (by rw [st_F_take (show st_c al u v g = true by unfold st_c; rw [if_pos c_83, ← htn]; exact decide_eq_true ((lg_cmp_lt _ _).mp c_100)) (Or.inr (by rw [← hI, ← hbs]; exact (lg_cmp_lt _ _).mp c_144)), ← hbs]), (hP.sub [0, 1] rfl), (hD.sub [0, 1] (by decide) rfl), hS, (lv_sub hl [0, 2, 1, 7, 8, 9, 10, 11, 12, 13, 14, 15, 16] rfl)⟩
              · refine lv_goto (tgt := 158) hx hb dX4_tried_147 (by decide) ?_
                refine lv_iinc (v := nI (g + 1)) (lv' := [(18, .int (nI (g + 1))), (25, .long (-of1)), (23, .long tn), (21, .long pb), (19, .long pa), (15, .int ne), (16, .long le), (14, .int (nI i)), (10, .long u), (12, .long v), (0, .ref m0), (1, .long gx), (3, .long gy), (5, .int cx), (6, .int cy), (7, .long sq), (9, .int al)]) hx hb dX4_tried_158 hl (k := 4) rfl (nI_1 g) (by decide) rfl (fun ls hl => ?_)
                refine lv_goto (tgt := 39) hx hb dX4_tried_161 (by decide) ?_
                exact ih_39 _ ((g + 1), ne, le) _ _ _ (by rw [hn_39]; omega) ⟨rfl, (show g + 1 ≤ 8 by omega), (hI.trans (st_F_keep (show st_c al u v g = true by unfold st_c; rw [if_pos c_83, ← htn]; exact decide_eq_true ((lg_cmp_lt _ _).mp c_100)) (by rw [← hI, ← hbs]; intro h; rcases h with h | h; exact c_136 h; exact c_144 ((lg_cmp_lt _ _).mpr h))).symm), (hP.sub [0, 1] rfl), (hD.sub [0, 1] (by decide) rfl), hS, (lv_sub hl [0, 5, 6, 7, 8, 9, 10, 11, 12, 13, 14, 15, 16] rfl)⟩
        · refine lv_goto (tgt := 158) hx hb dX4_tried_103 (by decide) ?_
          refine lv_iinc (v := nI (g + 1)) (lv' := [(18, .int (nI (g + 1))), (23, .long tn), (21, .long pb), (19, .long pa), (15, .int ne), (16, .long le), (14, .int (nI i)), (10, .long u), (12, .long v), (0, .ref m0), (1, .long gx), (3, .long gy), (5, .int cx), (6, .int cy), (7, .long sq), (9, .int al)]) hx hb dX4_tried_158 hl (k := 3) rfl (nI_1 g) (by decide) rfl (fun ls hl => ?_)
          refine lv_goto (tgt := 39) hx hb dX4_tried_161 (by decide) ?_
          exact ih_39 _ ((g + 1), ne, le) _ _ _ (by rw [hn_39]; omega) ⟨rfl, (show g + 1 ≤ 8 by omega), (hI.trans (st_F_skip (by unfold st_c; rw [if_pos c_83, ← htn]; exact decide_eq_false (fun h => c_100 ((lg_cmp_lt _ _).mpr h)))).symm), (hP.sub [0, 1] rfl), (hD.sub [0, 1] (by decide) rfl), hS, (lv_sub hl [0, 4, 5, 6, 7, 8, 9, 10, 11, 12, 13, 14, 15] rfl)⟩
      · refine lv_lload hx hb dX4_tried_86 (lv_at hl 0 rfl) ?_
        refine lv_lconst (v := 0) hx hb dX4_tried_88 (by decide) ?_
        refine W.lcmp hx hb dX4_tried_89 ?_
        refine lv_if_gt (tgt := 106) hx hb dX4_tried_90 (by decide) (fun c_90 => ?_) (fun c_90 => ?_)
        · refine lv_lload hx hb dX4_tried_106 (lv_at hl 2 rfl) ?_
          refine lv_lload hx hb dX4_tried_108 (lv_at hl 2 rfl) ?_
          refine lv_lmul hx hb dX4_tried_110 ?_
          refine lv_lload hx hb dX4_tried_111 (lv_at hl 1 rfl) ?_
          refine lv_lload hx hb dX4_tried_113 (lv_at hl 1 rfl) ?_
          refine lv_lmul hx hb dX4_tried_115 ?_
          refine lv_ladd hx hb dX4_tried_116 ?_
          refine lv_lload hx hb dX4_tried_117 (lv_at hl 14 rfl) ?_
          refine lv_lsub hx hb dX4_tried_119 ?_
          refine lv_topl (fun of1 eof1 => ?_)
          refine lv_lstore (lv' := [(25, .long of1), (23, .long tn), (21, .long pb), (19, .long pa), (18, .int (nI g)), (15, .int ne), (16, .long le), (14, .int (nI i)), (10, .long u), (12, .long v), (0, .ref m0), (1, .long gx), (3, .long gy), (5, .int cx), (6, .int cy), (7, .long sq), (9, .int al)]) hx hb dX4_tried_120 hl (by decide) rfl (fun ls hl => ?_)
          refine lv_lload hx hb dX4_tried_122 (lv_at hl 0 rfl) ?_
          refine lv_lconst (v := 0) hx hb dX4_tried_124 (by decide) ?_
          refine W.lcmp hx hb dX4_tried_125 ?_
          refine lv_if_ge (tgt := 134) hx hb dX4_tried_126 (by decide) (fun c_126 => ?_) (fun c_126 => ?_)
          · have hbs : of1 = st_b u v sq g := by rw [ab_l_ge ((lg_cmp_ge _ _).mp c_126), eof1, epa, epb]; rfl
            refine lv_iload hx hb dX4_tried_134 (lv_at hl 5 rfl) ?_
            refine lv_if_lt (tgt := 150) hx hb dX4_tried_136 (by decide) (fun c_136 => ?_) (fun c_136 => ?_)
            · refine lv_iload hx hb dX4_tried_150 (lv_at hl 4 rfl) ?_
              refine lv_istore (lv' := [(15, .int (nI g)), (25, .long of1), (23, .long tn), (21, .long pb), (19, .long pa), (18, .int (nI g)), (16, .long le), (14, .int (nI i)), (10, .long u), (12, .long v), (0, .ref m0), (1, .long gx), (3, .long gy), (5, .int cx), (6, .int cy), (7, .long sq), (9, .int al)]) hx hb dX4_tried_152 hl (by decide) rfl (fun ls hl => ?_)
              refine lv_lload hx hb dX4_tried_154 (lv_at hl 1 rfl) ?_
              refine lv_lstore (lv' := [(16, .long of1), (15, .int (nI g)), (25, .long of1), (23, .long tn), (21, .long pb), (19, .long pa), (18, .int (nI g)), (14, .int (nI i)), (10, .long u), (12, .long v), (0, .ref m0), (1, .long gx), (3, .long gy), (5, .int cx), (6, .int cy), (7, .long sq), (9, .int al)]) hx hb dX4_tried_156 hl (by decide) rfl (fun ls hl => ?_)
              refine lv_iinc (v := nI (g + 1)) (lv' := [(18, .int (nI (g + 1))), (16, .long of1), (15, .int (nI g)), (25, .long of1), (23, .long tn), (21, .long pb), (19, .long pa), (14, .int (nI i)), (10, .long u), (12, .long v), (0, .ref m0), (1, .long gx), (3, .long gy), (5, .int cx), (6, .int cy), (7, .long sq), (9, .int al)]) hx hb dX4_tried_158 hl (k := 6) rfl (nI_1 g) (by decide) rfl (fun ls hl => ?_)
              refine lv_goto (tgt := 39) hx hb dX4_tried_161 (by decide) ?_
              exact ih_39 _ ((g + 1), nI g, of1) _ _ _ (by rw [hn_39]; omega) ⟨rfl, (show g + 1 ≤ 8 by omega), (by rw [st_F_take (show st_c al u v g = true by unfold st_c; rw [if_neg c_83, ← htn]; exact decide_eq_true ((lg_cmp_gt _ _).mp c_90)) (Or.inl (by rw [← hI]; exact c_136)), ← hbs]), (hP.sub [0, 1] rfl), (hD.sub [0, 1] (by decide) rfl), hS, (lv_sub hl [0, 2, 1, 7, 8, 9, 10, 11, 12, 13, 14, 15, 16] rfl)⟩
            · refine lv_lload hx hb dX4_tried_139 (lv_at hl 0 rfl) ?_
              refine lv_lload hx hb dX4_tried_141 (lv_at hl 6 rfl) ?_
              refine W.lcmp hx hb dX4_tried_143 ?_
              refine lv_if_lt (tgt := 150) hx hb dX4_tried_144 (by decide) (fun c_144 => ?_) (fun c_144 => ?_)
              · refine lv_iload hx hb dX4_tried_150 (lv_at hl 4 rfl) ?_
                refine lv_istore (lv' := [(15, .int (nI g)), (25, .long of1), (23, .long tn), (21, .long pb), (19, .long pa), (18, .int (nI g)), (16, .long le), (14, .int (nI i)), (10, .long u), (12, .long v), (0, .ref m0), (1, .long gx), (3, .long gy), (5, .int cx), (6, .int cy), (7, .long sq), (9, .int al)]) hx hb dX4_tried_152 hl (by decide) rfl (fun ls hl => ?_)
                refine lv_lload hx hb dX4_tried_154 (lv_at hl 1 rfl) ?_
                refine lv_lstore (lv' := [(16, .long of1), (15, .int (nI g)), (25, .long of1), (23, .long tn), (21, .long pb), (19, .long pa), (18, .int (nI g)), (14, .int (nI i)), (10, .long u), (12, .long v), (0, .ref m0), (1, .long gx), (3, .long gy), (5, .int cx), (6, .int cy), (7, .long sq), (9, .int al)]) hx hb dX4_tried_156 hl (by decide) rfl (fun ls hl => ?_)
                refine lv_iinc (v := nI (g + 1)) (lv' := [(18, .int (nI (g + 1))), (16, .long of1), (15, .int (nI g)), (25, .long of1), (23, .long tn), (21, .long pb), (19, .long pa), (14, .int (nI i)), (10, .long u), (12, .long v), (0, .ref m0), (1, .long gx), (3, .long gy), (5, .int cx), (6, .int cy), (7, .long sq), (9, .int al)]) hx hb dX4_tried_158 hl (k := 6) rfl (nI_1 g) (by decide) rfl (fun ls hl => ?_)
                refine lv_goto (tgt := 39) hx hb dX4_tried_161 (by decide) ?_
                exact ih_39 _ ((g + 1), nI g, of1) _ _ _ (by rw [hn_39]; omega) ⟨rfl, (show g + 1 ≤ 8 by omega), (by rw [st_F_take (show st_c al u v g = true by unfold st_c; rw [if_neg c_83, ← htn]; exact decide_eq_true ((lg_cmp_gt _ _).mp c_90)) (Or.inr (by rw [← hI, ← hbs]; exact (lg_cmp_lt _ _).mp c_144)), ← hbs]), (hP.sub [0, 1] rfl), (hD.sub [0, 1] (by decide) rfl), hS, (lv_sub hl [0, 2, 1, 7, 8, 9, 10, 11, 12, 13, 14, 15, 16] rfl)⟩
              · refine lv_goto (tgt := 158) hx hb dX4_tried_147 (by decide) ?_
                refine lv_iinc (v := nI (g + 1)) (lv' := [(18, .int (nI (g + 1))), (25, .long of1), (23, .long tn), (21, .long pb), (19, .long pa), (15, .int ne), (16, .long le), (14, .int (nI i)), (10, .long u), (12, .long v), (0, .ref m0), (1, .long gx), (3, .long gy), (5, .int cx), (6, .int cy), (7, .long sq), (9, .int al)]) hx hb dX4_tried_158 hl (k := 4) rfl (nI_1 g) (by decide) rfl (fun ls hl => ?_)
                refine lv_goto (tgt := 39) hx hb dX4_tried_161 (by decide) ?_
                exact ih_39 _ ((g + 1), ne, le) _ _ _ (by rw [hn_39]; omega) ⟨rfl, (show g + 1 ≤ 8 by omega), (hI.trans (st_F_keep (show st_c al u v g = true by unfold st_c; rw [if_neg c_83, ← htn]; exact decide_eq_true ((lg_cmp_gt _ _).mp c_90)) (by rw [← hI, ← hbs]; intro h; rcases h with h | h; exact c_136 h; exact c_144 ((lg_cmp_lt _ _).mpr h))).symm), (hP.sub [0, 1] rfl), (hD.sub [0, 1] (by decide) rfl), hS, (lv_sub hl [0, 5, 6, 7, 8, 9, 10, 11, 12, 13, 14, 15, 16] rfl)⟩
          · refine lv_lload hx hb dX4_tried_129 (lv_at hl 0 rfl) ?_
            refine lv_lneg hx hb dX4_tried_131 ?_
            refine lv_lstore (lv' := [(25, .long (-of1)), (23, .long tn), (21, .long pb), (19, .long pa), (18, .int (nI g)), (15, .int ne), (16, .long le), (14, .int (nI i)), (10, .long u), (12, .long v), (0, .ref m0), (1, .long gx), (3, .long gy), (5, .int cx), (6, .int cy), (7, .long sq), (9, .int al)]) hx hb dX4_tried_132 hl (by decide) rfl (fun ls hl => ?_)
            have hbs : -of1 = st_b u v sq g := by rw [ab_l_lt (fun h => c_126 ((lg_cmp_ge _ _).mpr h)), eof1, epa, epb]; rfl
            refine lv_iload hx hb dX4_tried_134 (lv_at hl 5 rfl) ?_
            refine lv_if_lt (tgt := 150) hx hb dX4_tried_136 (by decide) (fun c_136 => ?_) (fun c_136 => ?_)
            · refine lv_iload hx hb dX4_tried_150 (lv_at hl 4 rfl) ?_
              refine lv_istore (lv' := [(15, .int (nI g)), (25, .long (-of1)), (23, .long tn), (21, .long pb), (19, .long pa), (18, .int (nI g)), (16, .long le), (14, .int (nI i)), (10, .long u), (12, .long v), (0, .ref m0), (1, .long gx), (3, .long gy), (5, .int cx), (6, .int cy), (7, .long sq), (9, .int al)]) hx hb dX4_tried_152 hl (by decide) rfl (fun ls hl => ?_)
              refine lv_lload hx hb dX4_tried_154 (lv_at hl 1 rfl) ?_
              refine lv_lstore (lv' := [(16, .long (-of1)), (15, .int (nI g)), (25, .long (-of1)), (23, .long tn), (21, .long pb), (19, .long pa), (18, .int (nI g)), (14, .int (nI i)), (10, .long u), (12, .long v), (0, .ref m0), (1, .long gx), (3, .long gy), (5, .int cx), (6, .int cy), (7, .long sq), (9, .int al)]) hx hb dX4_tried_156 hl (by decide) rfl (fun ls hl => ?_)
              refine lv_iinc (v := nI (g + 1)) (lv' := [(18, .int (nI (g + 1))), (16, .long (-of1)), (15, .int (nI g)), (25, .long (-of1)), (23, .long tn), (21, .long pb), (19, .long pa), (14, .int (nI i)), (10, .long u), (12, .long v), (0, .ref m0), (1, .long gx), (3, .long gy), (5, .int cx), (6, .int cy), (7, .long sq), (9, .int al)]) hx hb dX4_tried_158 hl (k := 6) rfl (nI_1 g) (by decide) rfl (fun ls hl => ?_)
              refine lv_goto (tgt := 39) hx hb dX4_tried_161 (by decide) ?_
              exact ih_39 _ ((g + 1), nI g, -of1) _ _ _ (by rw [hn_39]; omega) ⟨rfl, (show g + 1 ≤ 8 by omega), (by rw [st_F_take (show st_c al u v g = true by unfold st_c; rw [if_neg c_83, ← htn]; exact decide_eq_true ((lg_cmp_gt _ _).mp c_90)) (Or.inl (by rw [← hI]; exact c_136)), ← hbs]), (hP.sub [0, 1] rfl), (hD.sub [0, 1] (by decide) rfl), hS, (lv_sub hl [0, 2, 1, 7, 8, 9, 10, 11, 12, 13, 14, 15, 16] rfl)⟩
            · refine lv_lload hx hb dX4_tried_139 (lv_at hl 0 rfl) ?_
              refine lv_lload hx hb dX4_tried_141 (lv_at hl 6 rfl) ?_
              refine W.lcmp hx hb dX4_tried_143 ?_
              refine lv_if_lt (tgt := 150) hx hb dX4_tried_144 (by decide) (fun c_144 => ?_) (fun c_144 => ?_)
              · refine lv_iload hx hb dX4_tried_150 (lv_at hl 4 rfl) ?_
                refine lv_istore (lv' := [(15, .int (nI g)), (25, .long (-of1)), (23, .long tn), (21, .long pb), (19, .long pa), (18, .int (nI g)), (16, .long le), (14, .int (nI i)), (10, .long u), (12, .long v), (0, .ref m0), (1, .long gx), (3, .long gy), (5, .int cx), (6, .int cy), (7, .long sq), (9, .int al)]) hx hb dX4_tried_152 hl (by decide) rfl (fun ls hl => ?_)
                refine lv_lload hx hb dX4_tried_154 (lv_at hl 1 rfl) ?_
                refine lv_lstore (lv' := [(16, .long (-of1)), (15, .int (nI g)), (25, .long (-of1)), (23, .long tn), (21, .long pb), (19, .long pa), (18, .int (nI g)), (14, .int (nI i)), (10, .long u), (12, .long v), (0, .ref m0), (1, .long gx), (3, .long gy), (5, .int cx), (6, .int cy), (7, .long sq), (9, .int al)]) hx hb dX4_tried_156 hl (by decide) rfl (fun ls hl => ?_)
                refine lv_iinc (v := nI (g + 1)) (lv' := [(18, .int (nI (g + 1))), (16, .long (-of1)), (15, .int (nI g)), (25, .long (-of1)), (23, .long tn), (21, .long pb), (19, .long pa), (14, .int (nI i)), (10, .long u), (12, .long v), (0, .ref m0), (1, .long gx), (3, .long gy), (5, .int cx), (6, .int cy), (7, .long sq), (9, .int al)]) hx hb dX4_tried_158 hl (k := 6) rfl (nI_1 g) (by decide) rfl (fun ls hl => ?_)
                refine lv_goto (tgt := 39) hx hb dX4_tried_161 (by decide) ?_
                exact ih_39 _ ((g + 1), nI g, -of1) _ _ _ (by rw [hn_39]; omega) ⟨rfl, (show g + 1 ≤ 8 by omega), (by rw [st_F_take (show st_c al u v g = true by unfold st_c; rw [if_neg c_83, ← htn]; exact decide_eq_true ((lg_cmp_gt _ _).mp c_90)) (Or.inr (by rw [← hI, ← hbs]; exact (lg_cmp_lt _ _).mp c_144)), ← hbs]), (hP.sub [0, 1] rfl), (hD.sub [0, 1] (by decide) rfl), hS, (lv_sub hl [0, 2, 1, 7, 8, 9, 10, 11, 12, 13, 14, 15, 16] rfl)⟩
              · refine lv_goto (tgt := 158) hx hb dX4_tried_147 (by decide) ?_
                refine lv_iinc (v := nI (g + 1)) (lv' := [(18, .int (nI (g + 1))), (25, .long (-of1)), (23, .long tn), (21, .long pb), (19, .long pa), (15, .int ne), (16, .long le), (14, .int (nI i)), (10, .long u), (12, .long v), (0, .ref m0), (1, .long gx), (3, .long gy), (5, .int cx), (6, .int cy), (7, .long sq), (9, .int al)]) hx hb dX4_tried_158 hl (k := 4) rfl (nI_1 g) (by decide) rfl (fun ls hl => ?_)
                refine lv_goto (tgt := 39) hx hb dX4_tried_161 (by decide) ?_
                exact ih_39 _ ((g + 1), ne, le) _ _ _ (by rw [hn_39]; omega) ⟨rfl, (show g + 1 ≤ 8 by omega), (hI.trans (st_F_keep (show st_c al u v g = true by unfold st_c; rw [if_neg c_83, ← htn]; exact decide_eq_true ((lg_cmp_gt _ _).mp c_90)) (by rw [← hI, ← hbs]; intro h; rcases h with h | h; exact c_136 h; exact c_144 ((lg_cmp_lt _ _).mpr h))).symm), (hP.sub [0, 1] rfl), (hD.sub [0, 1] (by decide) rfl), hS, (lv_sub hl [0, 5, 6, 7, 8, 9, 10, 11, 12, 13, 14, 15, 16] rfl)⟩
        · refine lv_goto (tgt := 158) hx hb dX4_tried_93 (by decide) ?_
          refine lv_iinc (v := nI (g + 1)) (lv' := [(18, .int (nI (g + 1))), (23, .long tn), (21, .long pb), (19, .long pa), (15, .int ne), (16, .long le), (14, .int (nI i)), (10, .long u), (12, .long v), (0, .ref m0), (1, .long gx), (3, .long gy), (5, .int cx), (6, .int cy), (7, .long sq), (9, .int al)]) hx hb dX4_tried_158 hl (k := 3) rfl (nI_1 g) (by decide) rfl (fun ls hl => ?_)
          refine lv_goto (tgt := 39) hx hb dX4_tried_161 (by decide) ?_
          exact ih_39 _ ((g + 1), ne, le) _ _ _ (by rw [hn_39]; omega) ⟨rfl, (show g + 1 ≤ 8 by omega), (hI.trans (st_F_skip (by unfold st_c; rw [if_neg c_83, ← htn]; exact decide_eq_false (fun h => c_90 ((lg_cmp_gt _ _).mpr h)))).symm), (hP.sub [0, 1] rfl), (hD.sub [0, 1] (by decide) rfl), hS, (lv_sub hl [0, 4, 5, 6, 7, 8, 9, 10, 11, 12, 13, 14, 15] rfl)⟩
set_option maxHeartbeats 4000000 in
set_option maxRecDepth 100000 in
/-- TickWalksModel.arc -/
theorem rm_arc (l : Launch) (dC : Nat → ClassId) (dI : Nat → Nat → Nat) (cA cB : ClassId) (sz : Nat) (m0 : Nat) (rx : Int32) (ry : Int32) (rz : Int32) (rw : Int32) (ri : Int32) (ux : Int32) (uy : Int32) (uz : Int32) (vx : Int32) (vy : Int32) (vz : Int32) (cn : Int32) (mo : Int32) (qw : Nat) (qt : Nat) (wf : Nat → Int32) (tf : Nat → Int32) (a : Int32) (b : Int32) (cx : Int32) (cy : Int32) (al : Int32) (hpr : pl_in rx ∧ pl_in ry) : Met l yX4_arc wsX4_arc ({ frames := 2, cells := 0, slots := 0, locals := 70 }) (va_Pc [.ref m0, .int a, .int b, .int cx, .int cy, .int al] (ct_P dC dI cA cB sz [(m0, .inr (3, [.int rx, .int ry, .int rz, .int rw, .int ri, .int ux, .int uy, .int uz, .int vx, .int vy, .int vz, .int cn, .int mo, .ref qw, .ref qt])), (qw, .inl (cB, 40000, .inl wf)), (qt, .inl (cB, 40000, .inl tf))])) (va_Qi (fun (r : Int32) (u : Int32 × Int32 × Int32 × Int32 × Int32 × Int32 × Int32 × Int32 × Int32 × (Nat → Int32) × (Nat → Int32)) => (∃ n, r = nI n ∧ (pl_in a ∧ pl_in b) ∧ (ce_in cx ∧ ce_in cy) ∧ (1 ≤ (sq_c rx cx ry cy) ∧ (sq_c rx cx ry cy) ≤ 25000000) ∧ ob_H al (sq_c rx cx ry cy) cx cy (rx, ry) (a, b) n ∧ (u.1 = a ∧ u.2.1 = b) ∧ (u.2.2.1 = 1 ∧ u.2.2.2.1 = 1) ∧ (u.2.2.2.2.1 = rx ∧ u.2.2.2.2.2.1 = ry ∧ u.2.2.2.2.2.2.1 = rz) ∧ u.2.2.2.2.2.2.2.1 = nI n ∧ u.2.2.2.2.2.2.2.2.1 = (ob_w al (sq_c rx cx ry cy) cx cy (rx, ry) n).toInt32 ∧ wy_P al (sq_c rx cx ry cy) cx cy (rx, ry) u.2.2.2.2.2.2.2.2.2.1 n) ∨ (r = -1 ∧ ¬ ((pl_in a ∧ pl_in b) ∧ (ce_in cx ∧ ce_in cy) ∧ (1 ≤ (sq_c rx cx ry cy) ∧ (sq_c rx cx ry cy) ≤ 25000000) ∧ ∃ n, ob_H al (sq_c rx cx ry cy) cx cy (rx, ry) (a, b) n) ∧ (u.1 = rx ∧ u.2.1 = ry) ∧ (u.2.2.1 = rw ∧ u.2.2.2.1 = ri) ∧ (u.2.2.2.2.1 = ux ∧ u.2.2.2.2.2.1 = uy ∧ u.2.2.2.2.2.2.1 = uz) ∧ u.2.2.2.2.2.2.2.1 = cn ∧ u.2.2.2.2.2.2.2.2.1 = mo ∧ u.2.2.2.2.2.2.2.2.2.1 = wf)) (fun (u : Int32 × Int32 × Int32 × Int32 × Int32 × Int32 × Int32 × Int32 × Int32 × (Nat → Int32) × (Nat → Int32)) => ct_B dC dI (va_A [(m0, .inr (3, [.int rx, .int ry, .int rz, .int rw, .int ri, .int ux, .int uy, .int uz, .int vx, .int vy, .int vz, .int cn, .int mo, .ref qw, .ref qt])), (qw, .inl (cB, 40000, .inl wf)), (qt, .inl (cB, 40000, .inl tf))] sz) [(m0, .inr (3, [.int u.1, .int u.2.1, .int rz, .int u.2.2.1, .int u.2.2.2.1, .int u.2.2.2.2.1, .int u.2.2.2.2.2.1, .int u.2.2.2.2.2.2.1, .int vx, .int vy, .int vz, .int u.2.2.2.2.2.2.2.1, .int u.2.2.2.2.2.2.2.2.1, .ref qw, .ref qt])), (qw, .inl (cB, 40000, .inl u.2.2.2.2.2.2.2.2.2.1)), (qt, .inl (cB, 40000, .inl u.2.2.2.2.2.2.2.2.2.2))]) (va_A [(m0, .inr (3, [.int rx, .int ry, .int rz, .int rw, .int ri, .int ux, .int uy, .int uz, .int vx, .int vy, .int vz, .int cn, .int mo, .ref qw, .ref qt])), (qw, .inl (cB, 40000, .inl wf)), (qt, .inl (cB, 40000, .inl tf))] sz)) 0 0 (va_A [(m0, .inr (3, [.int rx, .int ry, .int rz, .int rw, .int ri, .int ux, .int uy, .int uz, .int vx, .int vy, .int vz, .int cn, .int mo, .ref qw, .ref qt])), (qw, .inl (cB, 40000, .inl wf)), (qt, .inl (cB, 40000, .inl tf))] sz) := by
  refine Met.ofW (cc := cX4_arc) (maxL := 14) (ret := (some .int)) (by decide +kernel) rfl ?_
  intro p e s m args below meth c s₁ B hml hv
  obtain ⟨rfl, hsz, hP, hK, hD0, hZ, hN⟩ := hv
  have hx := B.exec
  have hb := B.bytes
  have hr := B.returns
  have hts := atoms_spec (ws := wsX4_arc) B.pre
  have hown : s.vm.findClass RX4 = some m.cls := findClass_of_methodNamed B.named
  have hlocks := B.notSynchronized
  have hiX4 : ∀ w ∈ u_ws RX4 TX4 15, w ∈ wsX4_arc := by decide +kernel
  subst hsz
  have hD := hD0.self (sz := s.heap.size)
  generalize hAe : va_A [(m0, .inr (3, [.int rx, .int ry, .int rz, .int rw, .int ri, .int ux, .int uy, .int uz, .int vx, .int vy, .int vz, .int cn, .int mo, .ref qw, .ref qt])), (qw, .inl (cB, 40000, .inl wf)), (qt, .inl (cB, 40000, .inl tf))] s.heap.size = A at hD hZ ⊢
  have hA : ∀ q : Nat, s.heap.size ≤ q → A q := fun q h => by rw [← hAe]; exact Or.inr h
  have hl := lv_entry ([.ref m0, .int a, .int b, .int cx, .int cy, .int al]) (n := 14) (Nat.le_of_ble_eq_true rfl)
  rw [lg_entry_eq]
  generalize (lg_sl ([.ref m0, .int a, .int b, .int cx, .int cy, .int al]) ++ List.replicate (14 - (lg_sl ([.ref m0, .int a, .int b, .int cx, .int cy, .int al])).length) Slot.unset).toArray = ls at hl ⊢
  have hl : lv_has ls 14 [(0, .ref m0), (1, .int a), (2, .int b), (3, .int cx), (4, .int cy), (5, .int al)] := hl
  generalize hHe : s.heap = H at hP ⊢
  have hS : va_S A s.heap H [] := by rw [hHe]; exact va_S.rf
  generalize ([] : List Loc) = locs at hS ⊢
  refine lv_iload_n hx hb dX4_arc_0 rfl (lv_at hl 1 rfl) ?_
  refine ct_calli (va_runS (As := [.int a]) (rest := []) ⟨hx, hb, hml, hown, hts⟩ (rf_isPlace l dC dI cA cB H.size a ) (va_cwS 1 hts gX4_arc_X4_isPlace rfl rfl rfl (by decide +kernel) ⟨Nat.le_of_ble_eq_true rfl, Nat.le_of_ble_eq_true rfl⟩) ⟨ct_blind, ct_pre hP hD hK hZ hN hS hA [] rfl (by decide)⟩ rfl rfl hl.1 rfl (lv_room (Nat.le_of_ble_eq_true rfl)) dX4_arc_1 ⟨Nat.le_of_ble_eq_true rfl, Nat.le_of_ble_eq_true rfl⟩) hP hD hS hA [] [0, 1, 2] rfl (wr := [(m0, .inr (3, [.int rx, .int ry, .int rz, .int rw, .int ri, .int ux, .int uy, .int uz, .int vx, .int vy, .int vz, .int cn, .int mo, .ref qw, .ref qt])), (qw, .inl (cB, 40000, .inl wf)), (qt, .inl (cB, 40000, .inl tf))]) rfl (by decide) (by decide) (fun r_1 u9 H locs hw_1 hP hD hS => ?_)
  have hw_1 : bo_z r_1 (pl_in a) := hw_1
  have hP : va_P (dC, dI) vwCl [(m0, .inr (3, [.int rx, .int ry, .int rz, .int rw, .int ri, .int ux, .int uy, .int uz, .int vx, .int vy, .int vz, .int cn, .int mo, .ref qw, .ref qt])), (qw, .inl (cB, 40000, .inl wf)), (qt, .inl (cB, 40000, .inl tf))] H := hP
  have hD : va_D A [(m0, .inr (3, [.int rx, .int ry, .int rz, .int rw, .int ri, .int ux, .int uy, .int uz, .int vx, .int vy, .int vz, .int cn, .int mo, .ref qw, .ref qt])), (qw, .inl (cB, 40000, .inl wf)), (qt, .inl (cB, 40000, .inl tf))] := hD
  refine lv_if_eq (tgt := 29) hx hb dX4_arc_4 (by decide) (fun c_4 => ?_) (fun c_4 => ?_)
  · refine lv_iconst (v := -1) hx hb dX4_arc_29 (by decide) ?_
    have hP9 := hP.sub (ws' := [(m0, .inr (3, [.int rx, .int ry, .int rz, .int rw, .int ri, .int ux, .int uy, .int uz, .int vx, .int vy, .int vz, .int cn, .int mo, .ref qw, .ref qt])), (qw, .inl (cB, 40000, .inl wf)), (qt, .inl (cB, 40000, .inl tf))]) [0, 1, 2] rfl
    have hD9 := hD.sub (ws' := [(m0, .inr (3, [.int rx, .int ry, .int rz, .int rw, .int ri, .int ux, .int uy, .int uz, .int vx, .int vy, .int vz, .int cn, .int mo, .ref qw, .ref qt])), (qw, .inl (cB, 40000, .inl wf)), (qt, .inl (cB, 40000, .inl tf))]) [0, 1, 2] (by decide) rfl
    exact W.iret (v := -1) hx hb hr (fun t9 ht9 hW9 => ⟨⟨-1, (rx, ry, rw, ri, ux, uy, uz, cn, mo, wf, tf), rfl, (Or.inr ⟨rfl, (fun h => hw_1.f c_4 h.1.1), ⟨rfl, rfl⟩, ⟨rfl, rfl⟩, ⟨rfl, rfl, rfl⟩, rfl, rfl, rfl⟩), by rw [ht9]; exact hP9, hD9⟩, hS.F ht9⟩) hS.2.2 dX4_arc_30
  · refine lv_iload_n hx hb dX4_arc_7 rfl (lv_at hl 2 rfl) ?_
    refine ct_calli (va_runS (As := [.int b]) (rest := []) ⟨hx, hb, hml, hown, hts⟩ (rf_isPlace l dC dI cA cB H.size b ) (va_cwS 1 hts gX4_arc_X4_isPlace rfl rfl rfl (by decide +kernel) ⟨Nat.le_of_ble_eq_true rfl, Nat.le_of_ble_eq_true rfl⟩) ⟨ct_blind, ct_pre hP hD hK hZ hN hS hA [] rfl (by decide)⟩ rfl rfl hl.1 rfl (lv_room (Nat.le_of_ble_eq_true rfl)) dX4_arc_8 ⟨Nat.le_of_ble_eq_true rfl, Nat.le_of_ble_eq_true rfl⟩) hP hD hS hA [] [0, 1, 2] rfl (wr := [(m0, .inr (3, [.int rx, .int ry, .int rz, .int rw, .int ri, .int ux, .int uy, .int uz, .int vx, .int vy, .int vz, .int cn, .int mo, .ref qw, .ref qt])), (qw, .inl (cB, 40000, .inl wf)), (qt, .inl (cB, 40000, .inl tf))]) rfl (by decide) (by decide) (fun r_2 u9 H locs hw_2 hP hD hS => ?_)
    have hw_2 : bo_z r_2 (pl_in b) := hw_2
    have hP : va_P (dC, dI) vwCl [(m0, .inr (3, [.int rx, .int ry, .int rz, .int rw, .int ri, .int ux, .int uy, .int uz, .int vx, .int vy, .int vz, .int cn, .int mo, .ref qw, .ref qt])), (qw, .inl (cB, 40000, .inl wf)), (qt, .inl (cB, 40000, .inl tf))] H := hP
    have hD : va_D A [(m0, .inr (3, [.int rx, .int ry, .int rz, .int rw, .int ri, .int ux, .int uy, .int uz, .int vx, .int vy, .int vz, .int cn, .int mo, .ref qw, .ref qt])), (qw, .inl (cB, 40000, .inl wf)), (qt, .inl (cB, 40000, .inl tf))] := hD
    refine lv_if_eq (tgt := 29) hx hb dX4_arc_11 (by decide) (fun c_11 => ?_) (fun c_11 => ?_)
    · refine lv_iconst (v := -1) hx hb dX4_arc_29 (by decide) ?_
      have hP9 := hP.sub (ws' := [(m0, .inr (3, [.int rx, .int ry, .int rz, .int rw, .int ri, .int ux, .int uy, .int uz, .int vx, .int vy, .int vz, .int cn, .int mo, .ref qw, .ref qt])), (qw, .inl (cB, 40000, .inl wf)), (qt, .inl (cB, 40000, .inl tf))]) [0, 1, 2] rfl
      have hD9 := hD.sub (ws' := [(m0, .inr (3, [.int rx, .int ry, .int rz, .int rw, .int ri, .int ux, .int uy, .int uz, .int vx, .int vy, .int vz, .int cn, .int mo, .ref qw, .ref qt])), (qw, .inl (cB, 40000, .inl wf)), (qt, .inl (cB, 40000, .inl tf))]) [0, 1, 2] (by decide) rfl
      exact W.iret (v := -1) hx hb hr (fun t9 ht9 hW9 => ⟨⟨-1, (rx, ry, rw, ri, ux, uy, uz, cn, mo, wf, tf), rfl, (Or.inr ⟨rfl, (fun h => hw_2.f c_11 h.1.2), ⟨rfl, rfl⟩, ⟨rfl, rfl⟩, ⟨rfl, rfl, rfl⟩, rfl, rfl, rfl⟩), by rw [ht9]; exact hP9, hD9⟩, hS.F ht9⟩) hS.2.2 dX4_arc_30
    · refine lv_iload_n hx hb dX4_arc_14 rfl (lv_at hl 3 rfl) ?_
      refine ct_calli (va_runS (As := [.int cx]) (rest := []) ⟨hx, hb, hml, hown, hts⟩ (rf_isCentre l dC dI cA cB H.size cx ) (va_cwS 1 hts gX4_arc_X4_isCentre rfl rfl rfl (by decide +kernel) ⟨Nat.le_of_ble_eq_true rfl, Nat.le_of_ble_eq_true rfl⟩) ⟨ct_blind, ct_pre hP hD hK hZ hN hS hA [] rfl (by decide)⟩ rfl rfl hl.1 rfl (lv_room (Nat.le_of_ble_eq_true rfl)) dX4_arc_15 ⟨Nat.le_of_ble_eq_true rfl, Nat.le_of_ble_eq_true rfl⟩) hP hD hS hA [] [0, 1, 2] rfl (wr := [(m0, .inr (3, [.int rx, .int ry, .int rz, .int rw, .int ri, .int ux, .int uy, .int uz, .int vx, .int vy, .int vz, .int cn, .int mo, .ref qw, .ref qt])), (qw, .inl (cB, 40000, .inl wf)), (qt, .inl (cB, 40000, .inl tf))]) rfl (by decide) (by decide) (fun r_3 u9 H locs hw_3 hP hD hS => ?_)
      have hw_3 : bo_z r_3 (ce_in cx) := hw_3
      have hP : va_P (dC, dI) vwCl [(m0, .inr (3, [.int rx, .int ry, .int rz, .int rw, .int ri, .int ux, .int uy, .int uz, .int vx, .int vy, .int vz, .int cn, .int mo, .ref qw, .ref qt])), (qw, .inl (cB, 40000, .inl wf)), (qt, .inl (cB, 40000, .inl tf))] H := hP
      have hD : va_D A [(m0, .inr (3, [.int rx, .int ry, .int rz, .int rw, .int ri, .int ux, .int uy, .int uz, .int vx, .int vy, .int vz, .int cn, .int mo, .ref qw, .ref qt])), (qw, .inl (cB, 40000, .inl wf)), (qt, .inl (cB, 40000, .inl tf))] := hD
      refine lv_if_eq (tgt := 29) hx hb dX4_arc_18 (by decide) (fun c_18 => ?_) (fun c_18 => ?_)
      · refine lv_iconst (v := -1) hx hb dX4_arc_29 (by decide) ?_
        have hP9 := hP.sub (ws' := [(m0, .inr (3, [.int rx, .int ry, .int rz, .int rw, .int ri, .int ux, .int uy, .int uz, .int vx, .int vy, .int vz, .int cn, .int mo, .ref qw, .ref qt])), (qw, .inl (cB, 40000, .inl wf)), (qt, .inl (cB, 40000, .inl tf))]) [0, 1, 2] rfl
        have hD9 := hD.sub (ws' := [(m0, .inr (3, [.int rx, .int ry, .int rz, .int rw, .int ri, .int ux, .int uy, .int uz, .int vx, .int vy, .int vz, .int cn, .int mo, .ref qw, .ref qt])), (qw, .inl (cB, 40000, .inl wf)), (qt, .inl (cB, 40000, .inl tf))]) [0, 1, 2] (by decide) rfl
        exact W.iret (v := -1) hx hb hr (fun t9 ht9 hW9 => ⟨⟨-1, (rx, ry, rw, ri, ux, uy, uz, cn, mo, wf, tf), rfl, (Or.inr ⟨rfl, (fun h => hw_3.f c_18 h.2.1.1), ⟨rfl, rfl⟩, ⟨rfl, rfl⟩, ⟨rfl, rfl, rfl⟩, rfl, rfl, rfl⟩), by rw [ht9]; exact hP9, hD9⟩, hS.F ht9⟩) hS.2.2 dX4_arc_30
      · refine lv_iload hx hb dX4_arc_21 (lv_at hl 4 rfl) ?_
        refine ct_calli (va_runS (As := [.int cy]) (rest := []) ⟨hx, hb, hml, hown, hts⟩ (rf_isCentre l dC dI cA cB H.size cy ) (va_cwS 1 hts gX4_arc_X4_isCentre rfl rfl rfl (by decide +kernel) ⟨Nat.le_of_ble_eq_true rfl, Nat.le_of_ble_eq_true rfl⟩) ⟨ct_blind, ct_pre hP hD hK hZ hN hS hA [] rfl (by decide)⟩ rfl rfl hl.1 rfl (lv_room (Nat.le_of_ble_eq_true rfl)) dX4_arc_23 ⟨Nat.le_of_ble_eq_true rfl, Nat.le_of_ble_eq_true rfl⟩) hP hD hS hA [] [0, 1, 2] rfl (wr := [(m0, .inr (3, [.int rx, .int ry, .int rz, .int rw, .int ri, .int ux, .int uy, .int uz, .int vx, .int vy, .int vz, .int cn, .int mo, .ref qw, .ref qt])), (qw, .inl (cB, 40000, .inl wf)), (qt, .inl (cB, 40000, .inl tf))]) rfl (by decide) (by decide) (fun r_4 u9 H locs hw_4 hP hD hS => ?_)
        have hw_4 : bo_z r_4 (ce_in cy) := hw_4
        have hP : va_P (dC, dI) vwCl [(m0, .inr (3, [.int rx, .int ry, .int rz, .int rw, .int ri, .int ux, .int uy, .int uz, .int vx, .int vy, .int vz, .int cn, .int mo, .ref qw, .ref qt])), (qw, .inl (cB, 40000, .inl wf)), (qt, .inl (cB, 40000, .inl tf))] H := hP
        have hD : va_D A [(m0, .inr (3, [.int rx, .int ry, .int rz, .int rw, .int ri, .int ux, .int uy, .int uz, .int vx, .int vy, .int vz, .int cn, .int mo, .ref qw, .ref qt])), (qw, .inl (cB, 40000, .inl wf)), (qt, .inl (cB, 40000, .inl tf))] := hD
        refine lv_if_ne (tgt := 31) hx hb dX4_arc_26 (by decide) (fun c_26 => ?_) (fun c_26 => ?_)
        · refine lv_aload_n hx hb dX4_arc_31 rfl (lv_at hl 0 rfl) ?_
          refine va_get (D := (dC, dI)) (ci := 3) (v := .int rx) (C := RX4) (T := TX4) (N := 15) hx hb hts hiX4 hown hK hP 0 rfl rfl 0 (by decide) (hts (.fieldLink RX4 22 "TickWalksModel" "x" "I") (List.mem_of_getElem? (l := wsX4_arc) (i := 1) rfl)) (fun _ h9 => h9) rfl dX4_arc_32 ?_
          refine lv_iload_n hx hb dX4_arc_35 rfl (lv_at hl 3 rfl) ?_
          refine lv_isub hx hb dX4_arc_36 ?_
          refine lv_i2l hx hb dX4_arc_37 rfl ?_
          refine ct_calll (va_runS (As := [.long ((rx - cx).toInt64)]) (rest := []) ⟨hx, hb, hml, hown, hts⟩ (rf_square l dC dI cA cB H.size ((rx - cx).toInt64) ) (va_cwS 1 hts gX4_arc_X4_square rfl rfl rfl (by decide +kernel) ⟨Nat.le_of_ble_eq_true rfl, Nat.le_of_ble_eq_true rfl⟩) ⟨ct_blind, ct_pre hP hD hK hZ hN hS hA [] rfl (by decide)⟩ rfl rfl hl.1 rfl (lv_room (Nat.le_of_ble_eq_true rfl)) dX4_arc_38 ⟨Nat.le_of_ble_eq_true rfl, Nat.le_of_ble_eq_true rfl⟩) hP hD hS hA [] [0, 1, 2] rfl (wr := [(m0, .inr (3, [.int rx, .int ry, .int rz, .int rw, .int ri, .int ux, .int uy, .int uz, .int vx, .int vy, .int vz, .int cn, .int mo, .ref qw, .ref qt])), (qw, .inl (cB, 40000, .inl wf)), (qt, .inl (cB, 40000, .inl tf))]) rfl (by decide) (by decide) (fun r_5 u9 H locs hw_5 hP hD hS => ?_)
          have hw_5 : r_5 = ((rx - cx).toInt64) * ((rx - cx).toInt64) := hw_5
          have hP : va_P (dC, dI) vwCl [(m0, .inr (3, [.int rx, .int ry, .int rz, .int rw, .int ri, .int ux, .int uy, .int uz, .int vx, .int vy, .int vz, .int cn, .int mo, .ref qw, .ref qt])), (qw, .inl (cB, 40000, .inl wf)), (qt, .inl (cB, 40000, .inl tf))] H := hP
          have hD : va_D A [(m0, .inr (3, [.int rx, .int ry, .int rz, .int rw, .int ri, .int ux, .int uy, .int uz, .int vx, .int vy, .int vz, .int cn, .int mo, .ref qw, .ref qt])), (qw, .inl (cB, 40000, .inl wf)), (qt, .inl (cB, 40000, .inl tf))] := hD
          refine lv_aload_n hx hb dX4_arc_41 rfl (lv_at hl 0 rfl) ?_
          refine va_get (D := (dC, dI)) (ci := 3) (v := .int ry) (C := RX4) (T := TX4) (N := 15) hx hb hts hiX4 hown hK hP 0 rfl rfl 1 (by decide) (hts (.fieldLink RX4 26 "TickWalksModel" "y" "I") (List.mem_of_getElem? (l := wsX4_arc) (i := 2) rfl)) (fun _ h9 => h9) rfl dX4_arc_42 ?_
          refine lv_iload hx hb dX4_arc_45 (lv_at hl 4 rfl) ?_
          refine lv_isub hx hb dX4_arc_47 ?_
          refine lv_i2l hx hb dX4_arc_48 rfl ?_
          refine ct_calll (va_runS (As := [.long ((ry - cy).toInt64)]) (rest := [.long r_5]) ⟨hx, hb, hml, hown, hts⟩ (rf_square l dC dI cA cB H.size ((ry - cy).toInt64) ) (va_cwS 1 hts gX4_arc_X4_square rfl rfl rfl (by decide +kernel) ⟨Nat.le_of_ble_eq_true rfl, Nat.le_of_ble_eq_true rfl⟩) ⟨ct_blind, ct_pre hP hD hK hZ hN hS hA [] rfl (by decide)⟩ rfl rfl hl.1 rfl (lv_room (Nat.le_of_ble_eq_true rfl)) dX4_arc_49 ⟨Nat.le_of_ble_eq_true rfl, Nat.le_of_ble_eq_true rfl⟩) hP hD hS hA [] [0, 1, 2] rfl (wr := [(m0, .inr (3, [.int rx, .int ry, .int rz, .int rw, .int ri, .int ux, .int uy, .int uz, .int vx, .int vy, .int vz, .int cn, .int mo, .ref qw, .ref qt])), (qw, .inl (cB, 40000, .inl wf)), (qt, .inl (cB, 40000, .inl tf))]) rfl (by decide) (by decide) (fun r_6 u9 H locs hw_6 hP hD hS => ?_)
          have hw_6 : r_6 = ((ry - cy).toInt64) * ((ry - cy).toInt64) := hw_6
          have hP : va_P (dC, dI) vwCl [(m0, .inr (3, [.int rx, .int ry, .int rz, .int rw, .int ri, .int ux, .int uy, .int uz, .int vx, .int vy, .int vz, .int cn, .int mo, .ref qw, .ref qt])), (qw, .inl (cB, 40000, .inl wf)), (qt, .inl (cB, 40000, .inl tf))] H := hP
          have hD : va_D A [(m0, .inr (3, [.int rx, .int ry, .int rz, .int rw, .int ri, .int ux, .int uy, .int uz, .int vx, .int vy, .int vz, .int cn, .int mo, .ref qw, .ref qt])), (qw, .inl (cB, 40000, .inl wf)), (qt, .inl (cB, 40000, .inl tf))] := hD
          refine lv_ladd hx hb dX4_arc_52 ?_
          refine ct_topl (y := sq_c rx cx ry cy) (show r_5 + r_6 = sq_c rx cx ry cy by rw [hw_5, hw_6]; rfl) ?_
          refine lv_topl (fun sq esq => ?_)
          refine lv_lstore (lv' := [(6, .long sq), (0, .ref m0), (1, .int a), (2, .int b), (3, .int cx), (4, .int cy), (5, .int al)]) hx hb dX4_arc_53 hl (by decide) rfl (fun ls hl => ?_)
          refine lv_lload hx hb dX4_arc_55 (lv_at hl 0 rfl) ?_
          refine lv_lconst (v := 1) hx hb dX4_arc_57 (by decide) ?_
          refine W.lcmp hx hb dX4_arc_58 ?_
          refine lv_if_lt (tgt := 71) hx hb dX4_arc_59 (by decide) (fun c_59 => ?_) (fun c_59 => ?_)
          · refine lv_iconst (v := -1) hx hb dX4_arc_71 (by decide) ?_
            have hP9 := hP.sub (ws' := [(m0, .inr (3, [.int rx, .int ry, .int rz, .int rw, .int ri, .int ux, .int uy, .int uz, .int vx, .int vy, .int vz, .int cn, .int mo, .ref qw, .ref qt])), (qw, .inl (cB, 40000, .inl wf)), (qt, .inl (cB, 40000, .inl tf))]) [0, 1, 2] rfl
            have hD9 := hD.sub (ws' := [(m0, .inr (3, [.int rx, .int ry, .int rz, .int rw, .int ri, .int ux, .int uy, .int uz, .int vx, .int vy, .int vz, .int cn, .int mo, .ref qw, .ref qt])), (qw, .inl (cB, 40000, .inl wf)), (qt, .inl (cB, 40000, .inl tf))]) [0, 1, 2] (by decide) rfl
            exact W.iret (v := -1) hx hb hr (fun t9 ht9 hW9 => ⟨⟨-1, (rx, ry, rw, ri, ux, uy, uz, cn, mo, wf, tf), rfl, (Or.inr ⟨rfl, (fun h => absurd h.2.2.1.1 (Int64.not_le.mpr (by rw [← esq]; exact (lg_cmp_lt _ _).mp c_59))), ⟨rfl, rfl⟩, ⟨rfl, rfl⟩, ⟨rfl, rfl, rfl⟩, rfl, rfl, rfl⟩), by rw [ht9]; exact hP9, hD9⟩, hS.F ht9⟩) hS.2.2 dX4_arc_72
          · refine lv_lload hx hb dX4_arc_62 (lv_at hl 0 rfl) ?_
            refine lv_ldc2 (v := 25000000) hx hb hown (hts (.constantLong RX4 84 (25000000)) (List.mem_of_getElem? (l := wsX4_arc) (i := 3) rfl)) dX4_arc_64 ?_
            refine W.lcmp hx hb dX4_arc_67 ?_
            refine lv_if_le (tgt := 73) hx hb dX4_arc_68 (by decide) (fun c_68 => ?_) (fun c_68 => ?_)
            · have hsq : 1 ≤ sq ∧ sq ≤ 25000000 := ⟨Int64.not_lt.mp (fun h => c_59 ((lg_cmp_lt _ _).mpr h)), (lg_cmp_le _ _).mp c_68⟩
              refine lv_aload_n hx hb dX4_arc_73 rfl (lv_at hl 1 rfl) ?_
              refine lv_iload_n hx hb dX4_arc_74 rfl (lv_at hl 2 rfl) ?_
              refine lv_iload_n hx hb dX4_arc_75 rfl (lv_at hl 4 rfl) ?_
              refine lv_isub hx hb dX4_arc_76 ?_
              refine lv_i2l hx hb dX4_arc_77 rfl ?_
              refine lv_iload_n hx hb dX4_arc_78 rfl (lv_at hl 3 rfl) ?_
              refine lv_iload hx hb dX4_arc_79 (lv_at hl 5 rfl) ?_
              refine lv_isub hx hb dX4_arc_81 ?_
              refine lv_i2l hx hb dX4_arc_82 rfl ?_
              refine lv_iload_n hx hb dX4_arc_83 rfl (lv_at hl 4 rfl) ?_
              refine lv_iload hx hb dX4_arc_84 (lv_at hl 5 rfl) ?_
              refine lv_lload hx hb dX4_arc_86 (lv_at hl 0 rfl) ?_
              refine lv_iload hx hb dX4_arc_88 (lv_at hl 6 rfl) ?_
              refine ct_calli (va_runV (As := [.long ((a - cx).toInt64), .long ((b - cy).toInt64), .int cx, .int cy, .long sq, .int al]) (rest := []) ⟨hx, hb, hml, hown, hts⟩ (rm_tried l dC dI cA cB H.size m0 rx ry rz rw ri ux uy uz vx vy vz cn mo qw qt tf ((a - cx).toInt64) ((b - cy).toInt64) cx cy sq al a b rfl rfl (⟨hpr, hw_3.t c_18, hw_4.t c_26⟩)) (cwV 6 hts gX4_arc_X4_tried rfl rfl rfl (by decide +kernel) ⟨Nat.le_of_ble_eq_true rfl, Nat.le_of_ble_eq_true rfl⟩) ⟨ct_blind, va_recv hK hP (ci := 3) (q0 := 0) rfl rfl, ct_pre hP hD hK hZ hN hS hA [0, 2] rfl (by decide)⟩ rfl rfl hl.1 rfl (lv_room (Nat.le_of_ble_eq_true rfl)) dX4_arc_90 ⟨Nat.le_of_ble_eq_true rfl, Nat.le_of_ble_eq_true rfl⟩) hP hD hS hA [0, 2] [1] rfl (wr := [(qw, .inl (cB, 40000, .inl wf))]) rfl (by decide) (by decide) (fun r_7 nt_7 H locs hw_7 hP hD hS => ?_)
              have hw_7 : (∃ n, r_7 = nI n ∧ ob_H al sq cx cy (rx, ry) (a, b) n ∧ wy_P al sq cx cy (rx, ry) nt_7 n) ∨ (r_7 = -1 ∧ ∀ n, ¬ ob_H al sq cx cy (rx, ry) (a, b) n) := hw_7
              have hP : va_P (dC, dI) vwCl [(qw, .inl (cB, 40000, .inl wf)), (m0, .inr (3, [.int rx, .int ry, .int rz, .int rw, .int ri, .int ux, .int uy, .int uz, .int vx, .int vy, .int vz, .int cn, .int mo, .ref qw, .ref qt])), (qt, .inl (cB, 40000, .inl nt_7))] H := hP
              have hD : va_D A [(qw, .inl (cB, 40000, .inl wf)), (m0, .inr (3, [.int rx, .int ry, .int rz, .int rw, .int ri, .int ux, .int uy, .int uz, .int vx, .int vy, .int vz, .int cn, .int mo, .ref qw, .ref qt])), (qt, .inl (cB, 40000, .inl nt_7))] := hD
              refine lv_istore (lv' := [(8, .int r_7), (6, .long sq), (0, .ref m0), (1, .int a), (2, .int b), (3, .int cx), (4, .int cy), (5, .int al)]) hx hb dX4_arc_93 hl (by decide) rfl (fun ls hl => ?_)
              refine lv_iload hx hb dX4_arc_95 (lv_at hl 0 rfl) ?_
              refine lv_if_ge (tgt := 102) hx hb dX4_arc_97 (by decide) (fun c_97 => ?_) (fun c_97 => ?_)
              · obtain ⟨n, ern, hH, hWy⟩ := hw_7.resolve_right (fun h => absurd (show (0 : Int32) ≤ -1 by rw [← h.1]; exact c_97) (by decide))
                subst ern
                refine lv_aload_n hx hb dX4_arc_102 rfl (lv_at hl 2 rfl) ?_
                refine lv_iconst (v := 1) hx hb dX4_arc_103 (by decide) ?_
                refine lv_iload hx hb dX4_arc_104 (lv_at hl 0 rfl) ?_
                refine ct_callv (va_runV (As := [.int 1, .int (nI n)]) (rest := []) ⟨hx, hb, hml, hown, hts⟩ (rm_begin l dC dI cA cB H.size m0 rx ry rz rw ri ux uy uz vx vy vz cn mo qw qt 1 (nI n) (Or.inr rfl)) (cwV 2 hts gX4_arc_X4_begin rfl rfl rfl (by decide +kernel) ⟨Nat.le_of_ble_eq_true rfl, Nat.le_of_ble_eq_true rfl⟩) ⟨ct_blind, va_recv hK hP (ci := 3) (q0 := 1) rfl rfl, ct_pre hP hD hK hZ hN hS hA [1] rfl (by decide)⟩ rfl rfl hl.1 rfl (lv_room (Nat.le_of_ble_eq_true rfl)) dX4_arc_106 ⟨Nat.le_of_ble_eq_true rfl, Nat.le_of_ble_eq_true rfl⟩) hP hD hS hA [1] [0, 2] rfl (wr := [(qw, .inl (cB, 40000, .inl wf)), (qt, .inl (cB, 40000, .inl nt_7))]) rfl (by decide) (by decide) (fun u9 H locs hw_8 hP hD hS => ?_)
                have hw_8 : True := hw_8
                have hP : va_P (dC, dI) vwCl [(qw, .inl (cB, 40000, .inl wf)), (qt, .inl (cB, 40000, .inl nt_7)), (m0, .inr (3, [.int rx, .int ry, .int rz, .int 1, .int 1, .int rx, .int ry, .int rz, .int vx, .int vy, .int vz, .int (nI n), .int 0, .ref qw, .ref qt]))] H := hP
                have hD : va_D A [(qw, .inl (cB, 40000, .inl wf)), (qt, .inl (cB, 40000, .inl nt_7)), (m0, .inr (3, [.int rx, .int ry, .int rz, .int 1, .int 1, .int rx, .int ry, .int rz, .int vx, .int vy, .int vz, .int (nI n), .int 0, .ref qw, .ref qt]))] := hD
                refine lv_lconst (v := 0) hx hb dX4_arc_109 (by decide) ?_
                refine lv_lstore (lv' := [(9, .long 0), (8, .int (nI n)), (6, .long sq), (0, .ref m0), (1, .int a), (2, .int b), (3, .int cx), (4, .int cy), (5, .int al)]) hx hb dX4_arc_110 hl (by decide) rfl (fun ls hl => ?_)
                refine lv_iconst (v := 0) hx hb dX4_arc_112 (by decide) ?_
                refine lv_istore (lv' := [(11, .int 0), (9, .long 0), (8, .int (nI n)), (6, .long sq), (0, .ref m0), (1, .int a), (2, .int b), (3, .int cx), (4, .int cy), (5, .int al)]) hx hb dX4_arc_113 hl (by decide) rfl (fun ls hl => ?_)
                refine ct_loop (σ := Nat × Int32 × Int32 × (Nat → Int32) × Int64) (fun n9 w9 H locs ls => n9 = n - w9.1 ∧ (w9.1 ≤ n) ∧ ((w9.2.1, w9.2.2.1) = ob_p al sq cx cy (rx, ry) w9.1) ∧ (∀ j, j < w9.1 → w9.2.2.2.1 j = nt_7 j) ∧ (w9.2.2.2.2 = ob_w al sq cx cy (rx, ry) w9.1) ∧ va_P (dC, dI) vwCl [(m0, .inr (3, [.int w9.2.1, .int w9.2.2.1, .int rz, .int 1, .int 1, .int rx, .int ry, .int rz, .int vx, .int vy, .int vz, .int (nI n), .int 0, .ref qw, .ref qt])), (qw, .inl (cB, 40000, .inl w9.2.2.2.1)), (qt, .inl (cB, 40000, .inl nt_7))] H ∧ va_D A [(m0, .inr (3, [.int w9.2.1, .int w9.2.2.1, .int rz, .int 1, .int 1, .int rx, .int ry, .int rz, .int vx, .int vy, .int vz, .int (nI n), .int 0, .ref qw, .ref qt])), (qw, .inl (cB, 40000, .inl w9.2.2.2.1)), (qt, .inl (cB, 40000, .inl nt_7))] ∧ va_S A s.heap H locs ∧ lv_has ls 14 [(11, .int (nI w9.1)), (9, .long w9.2.2.2.2), (0, .ref m0), (3, .int cx), (4, .int cy), (6, .long sq), (8, .int (nI n))]) (fun n9 w9 H locs ls hJ ih_115 => ?_) (n - 0) (0, rx, ry, wf, 0) _ _ _ ⟨rfl, (Nat.zero_le n), rfl, (fun j h => absurd h (by omega)), rfl, (hP.sub [2, 0, 1] rfl), (hD.sub [2, 0, 1] (by decide) rfl), hS, (lv_sub hl [0, 1, 4, 7, 8, 3, 2] rfl)⟩
                obtain ⟨i, px, py, zf, wd⟩ := w9
                obtain ⟨hn_115, hi, hp, hz, hwd, hP, hD, hS, hl⟩ := hJ
                have hn_115 : n9 = n - i := hn_115
                have hi : i ≤ n := hi
                have hp : (px, py) = ob_p al sq cx cy (rx, ry) i := hp
                have hz : ∀ j, j < i → zf j = nt_7 j := hz
                have hwd : wd = ob_w al sq cx cy (rx, ry) i := hwd
                have hP : va_P (dC, dI) vwCl [(m0, .inr (3, [.int px, .int py, .int rz, .int 1, .int 1, .int rx, .int ry, .int rz, .int vx, .int vy, .int vz, .int (nI n), .int 0, .ref qw, .ref qt])), (qw, .inl (cB, 40000, .inl zf)), (qt, .inl (cB, 40000, .inl nt_7))] H := hP
                have hD : va_D A [(m0, .inr (3, [.int px, .int py, .int rz, .int 1, .int 1, .int rx, .int ry, .int rz, .int vx, .int vy, .int vz, .int (nI n), .int 0, .ref qw, .ref qt])), (qw, .inl (cB, 40000, .inl zf)), (qt, .inl (cB, 40000, .inl nt_7))] := hD
                have hl : lv_has ls 14 [(11, .int (nI i)), (9, .long wd), (0, .ref m0), (3, .int cx), (4, .int cy), (6, .long sq), (8, .int (nI n))] := hl
                refine lv_iload hx hb dX4_arc_115 (lv_at hl 0 rfl) ?_
                refine lv_iload hx hb dX4_arc_117 (lv_at hl 6 rfl) ?_
                refine lv_icmp_ge (tgt := 229) hx hb dX4_arc_119 (by decide) (fun c_119 => ?_) (fun c_119 => ?_)
                · have hin : i = n := by
                    have h := (nI_leI (by have := hH.2.1; omega) (by have := hH.2.1; omega)).mp c_119
                    omega
                  subst hin
                  have epq : (px, py) = (a, b) := hp.trans hH.2.2.2.1
                  refine lv_aload_n hx hb dX4_arc_229 rfl (lv_at hl 2 rfl) ?_
                  refine lv_lload hx hb dX4_arc_230 (lv_at hl 1 rfl) ?_
                  refine lv_l2i hx hb dX4_arc_232 rfl ?_
                  refine va_put (D := (dC, dI)) (ci := 3) (v := .int wd.toInt32) (ty := .int) (C := RX4) (T := TX4) (N := 15) hx hb hts hiX4 tyX4 tyX4_ok nmX4 hown hK hP hD hS 0 rfl rfl 12 (by decide) (hts (.fieldLink RX4 39 "TickWalksModel" "most" "I") (List.mem_of_getElem? (l := wsX4_arc) (i := 10) rfl)) (fun _ h9 => h9) rfl (by decide +kernel) rfl rfl (Nat.le_of_ble_eq_true rfl) dX4_arc_233 (fun H locs hP hD hS => ?_)
                  have hP : va_P (dC, dI) vwCl [(m0, .inr (3, [.int px, .int py, .int rz, .int 1, .int 1, .int rx, .int ry, .int rz, .int vx, .int vy, .int vz, .int (nI i), .int wd.toInt32, .ref qw, .ref qt])), (qw, .inl (cB, 40000, .inl zf)), (qt, .inl (cB, 40000, .inl nt_7))] H := hP
                  have hD : va_D A [(m0, .inr (3, [.int px, .int py, .int rz, .int 1, .int 1, .int rx, .int ry, .int rz, .int vx, .int vy, .int vz, .int (nI i), .int wd.toInt32, .ref qw, .ref qt])), (qw, .inl (cB, 40000, .inl zf)), (qt, .inl (cB, 40000, .inl nt_7))] := hD
                  refine lv_iload hx hb dX4_arc_236 (lv_at hl 6 rfl) ?_
                  have hP9 := hP.sub (ws' := [(m0, .inr (3, [.int px, .int py, .int rz, .int 1, .int 1, .int rx, .int ry, .int rz, .int vx, .int vy, .int vz, .int (nI i), .int wd.toInt32, .ref qw, .ref qt])), (qw, .inl (cB, 40000, .inl zf)), (qt, .inl (cB, 40000, .inl nt_7))]) [0, 1, 2] rfl
                  have hD9 := hD.sub (ws' := [(m0, .inr (3, [.int px, .int py, .int rz, .int 1, .int 1, .int rx, .int ry, .int rz, .int vx, .int vy, .int vz, .int (nI i), .int wd.toInt32, .ref qw, .ref qt])), (qw, .inl (cB, 40000, .inl zf)), (qt, .inl (cB, 40000, .inl nt_7))]) [0, 1, 2] (by decide) rfl
                  exact W.iret (v := nI i) hx hb hr (fun t9 ht9 hW9 => ⟨⟨nI i, (px, py, 1, 1, rx, ry, rz, nI i, wd.toInt32, zf, nt_7), rfl, (Or.inl ⟨i, rfl, ⟨hw_1.t c_4, hw_2.t c_11⟩, ⟨hw_3.t c_18, hw_4.t c_26⟩, by rw [← esq]; exact hsq, by rw [← esq]; exact hH, ⟨congrArg Prod.fst epq, congrArg Prod.snd epq⟩, ⟨rfl, rfl⟩, ⟨rfl, rfl, rfl⟩, rfl, by rw [hwd, esq], fun y h => by obtain ⟨j, h1, h2, h3⟩ := hWy y h; exact ⟨j, h1, (hz y h).trans h2, by rw [← esq]; exact h3⟩⟩), by rw [ht9]; exact hP9, hD9⟩, hS.F ht9⟩) hS.2.2 dX4_arc_238
                · have hn2 : n ≤ 40000 := hH.2.1
                  have hlt : i < n := by
                    rcases Nat.lt_or_ge i n with h | h
                    · exact h
                    · exact absurd (nI_le h (by omega)) c_119
                  obtain ⟨j, hj, hwj, hpj⟩ := hWy i hlt
                  refine lv_aload_n hx hb dX4_arc_122 rfl (lv_at hl 2 rfl) ?_
                  refine va_get (D := (dC, dI)) (ci := 3) (v := .ref qw) (C := RX4) (T := TX4) (N := 15) hx hb hts hiX4 hown hK hP 0 rfl rfl 13 (by decide) (hts (.fieldLink RX4 10 "TickWalksModel" "way" "[B") (List.mem_of_getElem? (l := wsX4_arc) (i := 4) rfl)) (fun _ h9 => h9) rfl dX4_arc_123 ?_
                  refine lv_iload hx hb dX4_arc_126 (lv_at hl 0 rfl) ?_
                  refine lv_aload_n hx hb dX4_arc_128 rfl (lv_at hl 2 rfl) ?_
                  refine va_get (D := (dC, dI)) (ci := 3) (v := .ref qt) (C := RX4) (T := TX4) (N := 15) hx hb hts hiX4 hown hK hP 0 rfl rfl 14 (by decide) (hts (.fieldLink RX4 14 "TickWalksModel" "tried" "[B") (List.mem_of_getElem? (l := wsX4_arc) (i := 5) rfl)) (fun _ h9 => h9) rfl dX4_arc_129 ?_
                  refine lv_iload hx hb dX4_arc_132 (lv_at hl 0 rfl) ?_
                  refine va_bald hx hb hK hP 2 1 rfl rfl (vp_in_nI (by omega) (by decide)) dX4_arc_134 ?_
                  refine ct_topi (y := nt_7 i) (congrArg nt_7 (nI_clamp (show i < 2 ^ 31 by omega))) ?_
                  refine ct_topi (y := nI j) hwj ?_
                  refine va_bast hx hb hK hP hD hS 1 1 rfl rfl (vp_in_nI (by omega) (by decide)) dX4_arc_135 (fun H locs hP hD hS => ?_)
                  rw [(nI_clamp (show i < 2 ^ 31 by omega))] at hP hD
                  rw [nar_c hj] at hP hD
                  have hP : va_P (dC, dI) vwCl [(m0, .inr (3, [.int px, .int py, .int rz, .int 1, .int 1, .int rx, .int ry, .int rz, .int vx, .int vy, .int vz, .int (nI n), .int 0, .ref qw, .ref qt])), (qw, .inl (cB, 40000, .inl (upd zf i (nI j)))), (qt, .inl (cB, 40000, .inl nt_7))] H := hP
                  have hD : va_D A [(m0, .inr (3, [.int px, .int py, .int rz, .int 1, .int 1, .int rx, .int ry, .int rz, .int vx, .int vy, .int vz, .int (nI n), .int 0, .ref qw, .ref qt])), (qw, .inl (cB, 40000, .inl (upd zf i (nI j)))), (qt, .inl (cB, 40000, .inl nt_7))] := hD
                  refine lv_aload_n hx hb dX4_arc_136 rfl (lv_at hl 2 rfl) ?_
                  refine lv_dup hx hb dX4_arc_137 rfl ?_
                  refine va_get (D := (dC, dI)) (ci := 3) (v := .int px) (C := RX4) (T := TX4) (N := 15) hx hb hts hiX4 hown hK hP 0 rfl rfl 0 (by decide) (hts (.fieldLink RX4 22 "TickWalksModel" "x" "I") (List.mem_of_getElem? (l := wsX4_arc) (i := 1) rfl)) (fun _ h9 => h9) rfl dX4_arc_138 ?_
                  refine lv_aload_n hx hb dX4_arc_141 rfl (lv_at hl 2 rfl) ?_
                  refine va_get (D := (dC, dI)) (ci := 3) (v := .ref qw) (C := RX4) (T := TX4) (N := 15) hx hb hts hiX4 hown hK hP 0 rfl rfl 13 (by decide) (hts (.fieldLink RX4 10 "TickWalksModel" "way" "[B") (List.mem_of_getElem? (l := wsX4_arc) (i := 4) rfl)) (fun _ h9 => h9) rfl dX4_arc_142 ?_
                  refine lv_iload hx hb dX4_arc_145 (lv_at hl 0 rfl) ?_
                  refine va_bald hx hb hK hP 1 1 rfl rfl (vp_in_nI (by omega) (by decide)) dX4_arc_147 ?_
                  refine ct_topi (y := (upd zf i (nI j)) i) (congrArg (upd zf i (nI j)) (nI_clamp (show i < 2 ^ 31 by omega))) ?_
                  refine ct_topi (y := nI j) pk_us ?_
                  refine ct_calli (va_runS (As := [.int (nI j)]) (rest := [.int px, .ref m0]) ⟨hx, hb, hml, hown, hts⟩ (rf_east l dC dI cA cB H.size j hj) (va_cwS 1 hts gX4_arc_X4_eastOf rfl rfl rfl (by decide +kernel) ⟨Nat.le_of_ble_eq_true rfl, Nat.le_of_ble_eq_true rfl⟩) ⟨ct_blind, ct_pre hP hD hK hZ hN hS hA [] rfl (by decide)⟩ rfl rfl hl.1 rfl (lv_room (Nat.le_of_ble_eq_true rfl)) dX4_arc_148 ⟨Nat.le_of_ble_eq_true rfl, Nat.le_of_ble_eq_true rfl⟩) hP hD hS hA [] [0, 1, 2] rfl (wr := [(m0, .inr (3, [.int px, .int py, .int rz, .int 1, .int 1, .int rx, .int ry, .int rz, .int vx, .int vy, .int vz, .int (nI n), .int 0, .ref qw, .ref qt])), (qw, .inl (cB, 40000, .inl (upd zf i (nI j)))), (qt, .inl (cB, 40000, .inl nt_7))]) rfl (by decide) (by decide) (fun r_9 u9 H locs hw_9 hP hD hS => ?_)
                  have hw_9 : r_9 = st_X j := hw_9
                  have hP : va_P (dC, dI) vwCl [(m0, .inr (3, [.int px, .int py, .int rz, .int 1, .int 1, .int rx, .int ry, .int rz, .int vx, .int vy, .int vz, .int (nI n), .int 0, .ref qw, .ref qt])), (qw, .inl (cB, 40000, .inl (upd zf i (nI j)))), (qt, .inl (cB, 40000, .inl nt_7))] H := hP
                  have hD : va_D A [(m0, .inr (3, [.int px, .int py, .int rz, .int 1, .int 1, .int rx, .int ry, .int rz, .int vx, .int vy, .int vz, .int (nI n), .int 0, .ref qw, .ref qt])), (qw, .inl (cB, 40000, .inl (upd zf i (nI j)))), (qt, .inl (cB, 40000, .inl nt_7))] := hD
                  refine ct_topi (y := st_X j) hw_9 ?_
                  refine lv_iadd hx hb dX4_arc_151 ?_
                  refine va_put (D := (dC, dI)) (ci := 3) (v := .int (px + (st_X j))) (ty := .int) (C := RX4) (T := TX4) (N := 15) hx hb hts hiX4 tyX4 tyX4_ok nmX4 hown hK hP hD hS 0 rfl rfl 0 (by decide) (hts (.fieldLink RX4 22 "TickWalksModel" "x" "I") (List.mem_of_getElem? (l := wsX4_arc) (i := 1) rfl)) (fun _ h9 => h9) rfl (by decide +kernel) rfl rfl (Nat.le_of_ble_eq_true rfl) dX4_arc_152 (fun H locs hP hD hS => ?_)
                  have hP : va_P (dC, dI) vwCl [(m0, .inr (3, [.int (px + (st_X j)), .int py, .int rz, .int 1, .int 1, .int rx, .int ry, .int rz, .int vx, .int vy, .int vz, .int (nI n), .int 0, .ref qw, .ref qt])), (qw, .inl (cB, 40000, .inl (upd zf i (nI j)))), (qt, .inl (cB, 40000, .inl nt_7))] H := hP
                  have hD : va_D A [(m0, .inr (3, [.int (px + (st_X j)), .int py, .int rz, .int 1, .int 1, .int rx, .int ry, .int rz, .int vx, .int vy, .int vz, .int (nI n), .int 0, .ref qw, .ref qt])), (qw, .inl (cB, 40000, .inl (upd zf i (nI j)))), (qt, .inl (cB, 40000, .inl nt_7))] := hD
                  refine lv_aload_n hx hb dX4_arc_155 rfl (lv_at hl 2 rfl) ?_
                  refine lv_dup hx hb dX4_arc_156 rfl ?_
                  refine va_get (D := (dC, dI)) (ci := 3) (v := .int py) (C := RX4) (T := TX4) (N := 15) hx hb hts hiX4 hown hK hP 0 rfl rfl 1 (by decide) (hts (.fieldLink RX4 26 "TickWalksModel" "y" "I") (List.mem_of_getElem? (l := wsX4_arc) (i := 2) rfl)) (fun _ h9 => h9) rfl dX4_arc_157 ?_
                  refine lv_aload_n hx hb dX4_arc_160 rfl (lv_at hl 2 rfl) ?_
                  refine va_get (D := (dC, dI)) (ci := 3) (v := .ref qw) (C := RX4) (T := TX4) (N := 15) hx hb hts hiX4 hown hK hP 0 rfl rfl 13 (by decide) (hts (.fieldLink RX4 10 "TickWalksModel" "way" "[B") (List.mem_of_getElem? (l := wsX4_arc) (i := 4) rfl)) (fun _ h9 => h9) rfl dX4_arc_161 ?_
                  refine lv_iload hx hb dX4_arc_164 (lv_at hl 0 rfl) ?_
                  refine va_bald hx hb hK hP 1 1 rfl rfl (vp_in_nI (by omega) (by decide)) dX4_arc_166 ?_
                  refine ct_topi (y := (upd zf i (nI j)) i) (congrArg (upd zf i (nI j)) (nI_clamp (show i < 2 ^ 31 by omega))) ?_
                  refine ct_topi (y := nI j) pk_us ?_
                  refine ct_calli (va_runS (As := [.int (nI j)]) (rest := [.int py, .ref m0]) ⟨hx, hb, hml, hown, hts⟩ (rf_north l dC dI cA cB H.size j hj) (va_cwS 1 hts gX4_arc_X4_northOf rfl rfl rfl (by decide +kernel) ⟨Nat.le_of_ble_eq_true rfl, Nat.le_of_ble_eq_true rfl⟩) ⟨ct_blind, ct_pre hP hD hK hZ hN hS hA [] rfl (by decide)⟩ rfl rfl hl.1 rfl (lv_room (Nat.le_of_ble_eq_true rfl)) dX4_arc_167 ⟨Nat.le_of_ble_eq_true rfl, Nat.le_of_ble_eq_true rfl⟩) hP hD hS hA [] [0, 1, 2] rfl (wr := [(m0, .inr (3, [.int (px + (st_X j)), .int py, .int rz, .int 1, .int 1, .int rx, .int ry, .int rz, .int vx, .int vy, .int vz, .int (nI n), .int 0, .ref qw, .ref qt])), (qw, .inl (cB, 40000, .inl (upd zf i (nI j)))), (qt, .inl (cB, 40000, .inl nt_7))]) rfl (by decide) (by decide) (fun r_10 u9 H locs hw_10 hP hD hS => ?_)
                  have hw_10 : r_10 = st_Y j := hw_10
                  have hP : va_P (dC, dI) vwCl [(m0, .inr (3, [.int (px + (st_X j)), .int py, .int rz, .int 1, .int 1, .int rx, .int ry, .int rz, .int vx, .int vy, .int vz, .int (nI n), .int 0, .ref qw, .ref qt])), (qw, .inl (cB, 40000, .inl (upd zf i (nI j)))), (qt, .inl (cB, 40000, .inl nt_7))] H := hP
                  have hD : va_D A [(m0, .inr (3, [.int (px + (st_X j)), .int py, .int rz, .int 1, .int 1, .int rx, .int ry, .int rz, .int vx, .int vy, .int vz, .int (nI n), .int 0, .ref qw, .ref qt])), (qw, .inl (cB, 40000, .inl (upd zf i (nI j)))), (qt, .inl (cB, 40000, .inl nt_7))] := hD
                  refine ct_topi (y := st_Y j) hw_10 ?_
                  refine lv_iadd hx hb dX4_arc_170 ?_
                  refine va_put (D := (dC, dI)) (ci := 3) (v := .int (py + (st_Y j))) (ty := .int) (C := RX4) (T := TX4) (N := 15) hx hb hts hiX4 tyX4 tyX4_ok nmX4 hown hK hP hD hS 0 rfl rfl 1 (by decide) (hts (.fieldLink RX4 26 "TickWalksModel" "y" "I") (List.mem_of_getElem? (l := wsX4_arc) (i := 2) rfl)) (fun _ h9 => h9) rfl (by decide +kernel) rfl rfl (Nat.le_of_ble_eq_true rfl) dX4_arc_171 (fun H locs hP hD hS => ?_)
                  have hP : va_P (dC, dI) vwCl [(m0, .inr (3, [.int (px + (st_X j)), .int (py + (st_Y j)), .int rz, .int 1, .int 1, .int rx, .int ry, .int rz, .int vx, .int vy, .int vz, .int (nI n), .int 0, .ref qw, .ref qt])), (qw, .inl (cB, 40000, .inl (upd zf i (nI j)))), (qt, .inl (cB, 40000, .inl nt_7))] H := hP
                  have hD : va_D A [(m0, .inr (3, [.int (px + (st_X j)), .int (py + (st_Y j)), .int rz, .int 1, .int 1, .int rx, .int ry, .int rz, .int vx, .int vy, .int vz, .int (nI n), .int 0, .ref qw, .ref qt])), (qw, .inl (cB, 40000, .inl (upd zf i (nI j)))), (qt, .inl (cB, 40000, .inl nt_7))] := hD
                  have hp2 : (px + st_X j, py + st_Y j) = ob_p al sq cx cy (rx, ry) (i + 1) := by rw [hpj, ← hp]
                  have hz2 : ∀ y, y < i + 1 → upd zf i (nI j) y = nt_7 y := fun y h => by
                    rcases Nat.lt_or_ge y i with q | q
                    · rw [pk_un (by omega)]; exact hz y q
                    · rw [show y = i by omega, pk_us]; exact hwj.symm
                  refine lv_aload_n hx hb dX4_arc_174 rfl (lv_at hl 2 rfl) ?_
                  refine va_get (D := (dC, dI)) (ci := 3) (v := .int (px + (st_X j))) (C := RX4) (T := TX4) (N := 15) hx hb hts hiX4 hown hK hP 0 rfl rfl 0 (by decide) (hts (.fieldLink RX4 22 "TickWalksModel" "x" "I") (List.mem_of_getElem? (l := wsX4_arc) (i := 1) rfl)) (fun _ h9 => h9) rfl dX4_arc_175 ?_
                  refine lv_iload_n hx hb dX4_arc_178 rfl (lv_at hl 3 rfl) ?_
                  refine lv_isub hx hb dX4_arc_179 ?_
                  refine lv_i2l hx hb dX4_arc_180 rfl ?_
                  refine ct_calll (va_runS (As := [.long (((px + (st_X j)) - cx).toInt64)]) (rest := []) ⟨hx, hb, hml, hown, hts⟩ (rf_square l dC dI cA cB H.size (((px + (st_X j)) - cx).toInt64) ) (va_cwS 1 hts gX4_arc_X4_square rfl rfl rfl (by decide +kernel) ⟨Nat.le_of_ble_eq_true rfl, Nat.le_of_ble_eq_true rfl⟩) ⟨ct_blind, ct_pre hP hD hK hZ hN hS hA [] rfl (by decide)⟩ rfl rfl hl.1 rfl (lv_room (Nat.le_of_ble_eq_true rfl)) dX4_arc_181 ⟨Nat.le_of_ble_eq_true rfl, Nat.le_of_ble_eq_true rfl⟩) hP hD hS hA [] [0, 1, 2] rfl (wr := [(m0, .inr (3, [.int (px + (st_X j)), .int (py + (st_Y j)), .int rz, .int 1, .int 1, .int rx, .int ry, .int rz, .int vx, .int vy, .int vz, .int (nI n), .int 0, .ref qw, .ref qt])), (qw, .inl (cB, 40000, .inl (upd zf i (nI j)))), (qt, .inl (cB, 40000, .inl nt_7))]) rfl (by decide) (by decide) (fun r_11 u9 H locs hw_11 hP hD hS => ?_)
                  have hw_11 : r_11 = (((px + (st_X j)) - cx).toInt64) * (((px + (st_X j)) - cx).toInt64) := hw_11
                  have hP : va_P (dC, dI) vwCl [(m0, .inr (3, [.int (px + (st_X j)), .int (py + (st_Y j)), .int rz, .int 1, .int 1, .int rx, .int ry, .int rz, .int vx, .int vy, .int vz, .int (nI n), .int 0, .ref qw, .ref qt])), (qw, .inl (cB, 40000, .inl (upd zf i (nI j)))), (qt, .inl (cB, 40000, .inl nt_7))] H := hP
                  have hD : va_D A [(m0, .inr (3, [.int (px + (st_X j)), .int (py + (st_Y j)), .int rz, .int 1, .int 1, .int rx, .int ry, .int rz, .int vx, .int vy, .int vz, .int (nI n), .int 0, .ref qw, .ref qt])), (qw, .inl (cB, 40000, .inl (upd zf i (nI j)))), (qt, .inl (cB, 40000, .inl nt_7))] := hD
                  refine lv_aload_n hx hb dX4_arc_184 rfl (lv_at hl 2 rfl) ?_
                  refine va_get (D := (dC, dI)) (ci := 3) (v := .int (py + (st_Y j))) (C := RX4) (T := TX4) (N := 15) hx hb hts hiX4 hown hK hP 0 rfl rfl 1 (by decide) (hts (.fieldLink RX4 26 "TickWalksModel" "y" "I") (List.mem_of_getElem? (l := wsX4_arc) (i := 2) rfl)) (fun _ h9 => h9) rfl dX4_arc_185 ?_
                  refine lv_iload hx hb dX4_arc_188 (lv_at hl 4 rfl) ?_
                  refine lv_isub hx hb dX4_arc_190 ?_
                  refine lv_i2l hx hb dX4_arc_191 rfl ?_
                  refine ct_calll (va_runS (As := [.long (((py + (st_Y j)) - cy).toInt64)]) (rest := [.long r_11]) ⟨hx, hb, hml, hown, hts⟩ (rf_square l dC dI cA cB H.size (((py + (st_Y j)) - cy).toInt64) ) (va_cwS 1 hts gX4_arc_X4_square rfl rfl rfl (by decide +kernel) ⟨Nat.le_of_ble_eq_true rfl, Nat.le_of_ble_eq_true rfl⟩) ⟨ct_blind, ct_pre hP hD hK hZ hN hS hA [] rfl (by decide)⟩ rfl rfl hl.1 rfl (lv_room (Nat.le_of_ble_eq_true rfl)) dX4_arc_192 ⟨Nat.le_of_ble_eq_true rfl, Nat.le_of_ble_eq_true rfl⟩) hP hD hS hA [] [0, 1, 2] rfl (wr := [(m0, .inr (3, [.int (px + (st_X j)), .int (py + (st_Y j)), .int rz, .int 1, .int 1, .int rx, .int ry, .int rz, .int vx, .int vy, .int vz, .int (nI n), .int 0, .ref qw, .ref qt])), (qw, .inl (cB, 40000, .inl (upd zf i (nI j)))), (qt, .inl (cB, 40000, .inl nt_7))]) rfl (by decide) (by decide) (fun r_12 u9 H locs hw_12 hP hD hS => ?_)
                  have hw_12 : r_12 = (((py + (st_Y j)) - cy).toInt64) * (((py + (st_Y j)) - cy).toInt64) := hw_12
                  have hP : va_P (dC, dI) vwCl [(m0, .inr (3, [.int (px + (st_X j)), .int (py + (st_Y j)), .int rz, .int 1, .int 1, .int rx, .int ry, .int rz, .int vx, .int vy, .int vz, .int (nI n), .int 0, .ref qw, .ref qt])), (qw, .inl (cB, 40000, .inl (upd zf i (nI j)))), (qt, .inl (cB, 40000, .inl nt_7))] H := hP
                  have hD : va_D A [(m0, .inr (3, [.int (px + (st_X j)), .int (py + (st_Y j)), .int rz, .int 1, .int 1, .int rx, .int ry, .int rz, .int vx, .int vy, .int vz, .int (nI n), .int 0, .ref qw, .ref qt])), (qw, .inl (cB, 40000, .inl (upd zf i (nI j)))), (qt, .inl (cB, 40000, .inl nt_7))] := hD
                  refine lv_ladd hx hb dX4_arc_195 ?_
                  refine lv_lload hx hb dX4_arc_196 (lv_at hl 5 rfl) ?_
                  refine lv_lsub hx hb dX4_arc_198 ?_
                  refine ct_topl (y := sq_c (px + st_X j) cx (py + st_Y j) cy - sq) (show r_11 + r_12 - sq = sq_c (px + st_X j) cx (py + st_Y j) cy - sq by rw [hw_11, hw_12]; rfl) ?_
                  refine lv_topl (fun of1 eof1 => ?_)
                  refine lv_lstore (lv' := [(12, .long of1), (11, .int (nI i)), (9, .long wd), (0, .ref m0), (3, .int cx), (4, .int cy), (6, .long sq), (8, .int (nI n))]) hx hb dX4_arc_199 hl (by decide) rfl (fun ls hl => ?_)
                  refine lv_lload hx hb dX4_arc_201 (lv_at hl 2 rfl) ?_
                  refine lv_lload hx hb dX4_arc_203 (lv_at hl 0 rfl) ?_
                  refine lv_lconst (v := 0) hx hb dX4_arc_205 (by decide) ?_
                  refine W.lcmp hx hb dX4_arc_206 ?_
                  refine lv_if_ge (tgt := 216) hx hb dX4_arc_207 (by decide) (fun c_207 => ?_) (fun c_207 => ?_)
                  · refine lv_lload hx hb dX4_arc_216 (lv_at hl 0 rfl) ?_
                    refine ct_topl (y := ab_l of1) (ab_l_ge ((lg_cmp_ge _ _).mp c_207)) ?_
                    refine va_mmax_long hx hb (hml.trans hl.1.symm) hown (hts (.methodLink RX4 95 Lib.MathLoose.max_long.x) (List.mem_of_getElem? (l := wsX4_arc) (i := 6) rfl)) (hts (.static Lib.MathLoose.max_long.x) (List.mem_of_getElem? (l := wsX4_arc) (i := 7) rfl)) (hts (.initialized "java/lang/Math") (List.mem_of_getElem? (l := wsX4_arc) (i := 8) rfl)) (hts (.code Lib.MathLoose.max_long.x Lib.MathLoose.max_long.code 4 (some .long)) (List.mem_of_getElem? (l := wsX4_arc) (i := 9) rfl)) (Nat.le_of_ble_eq_true rfl) (Nat.le_of_ble_eq_true rfl) (Nat.le_of_ble_eq_true rfl) (Nat.le_of_ble_eq_true rfl) dX4_arc_218 ?_
                    have hwd2 : (if ab_l of1 < wd then wd else ab_l of1) = ob_w al sq cx cy (rx, ry) (i + 1) := by rw [ob_w, ← hp2, hwd, eof1]
                    refine lv_lstore (lv' := [(9, .long (if (ab_l of1) < wd then wd else (ab_l of1))), (12, .long of1), (11, .int (nI i)), (0, .ref m0), (3, .int cx), (4, .int cy), (6, .long sq), (8, .int (nI n))]) hx hb dX4_arc_221 hl (by decide) rfl (fun ls hl => ?_)
                    refine lv_iinc (v := nI (i + 1)) (lv' := [(11, .int (nI (i + 1))), (9, .long (if (ab_l of1) < wd then wd else (ab_l of1))), (12, .long of1), (0, .ref m0), (3, .int cx), (4, .int cy), (6, .long sq), (8, .int (nI n))]) hx hb dX4_arc_223 hl (k := 2) rfl (nI_1 i) (by decide) rfl (fun ls hl => ?_)
                    refine lv_goto (tgt := 115) hx hb dX4_arc_226 (by decide) ?_
                    exact ih_115 _ ((i + 1), px + (st_X j), py + (st_Y j), upd zf i (nI j), if (ab_l of1) < wd then wd else (ab_l of1)) _ _ _ (by rw [hn_115]; omega) ⟨rfl, (show i + 1 ≤ n by omega), hp2, hz2, hwd2, (hP.sub [0, 1, 2] rfl), (hD.sub [0, 1, 2] (by decide) rfl), hS, (lv_sub hl [0, 1, 3, 4, 5, 6, 7] rfl)⟩
                  · refine lv_lload hx hb dX4_arc_210 (lv_at hl 0 rfl) ?_
                    refine lv_lneg hx hb dX4_arc_212 ?_
                    refine lv_goto (tgt := 218) hx hb dX4_arc_213 (by decide) ?_
                    refine ct_topl (y := ab_l of1) (ab_l_lt (fun h => c_207 ((lg_cmp_ge _ _).mpr h))) ?_
                    refine va_mmax_long hx hb (hml.trans hl.1.symm) hown (hts (.methodLink RX4 95 Lib.MathLoose.max_long.x) (List.mem_of_getElem? (l := wsX4_arc) (i := 6) rfl)) (hts (.static Lib.MathLoose.max_long.x) (List.mem_of_getElem? (l := wsX4_arc) (i := 7) rfl)) (hts (.initialized "java/lang/Math") (List.mem_of_getElem? (l := wsX4_arc) (i := 8) rfl)) (hts (.code Lib.MathLoose.max_long.x Lib.MathLoose.max_long.code 4 (some .long)) (List.mem_of_getElem? (l := wsX4_arc) (i := 9) rfl)) (Nat.le_of_ble_eq_true rfl) (Nat.le_of_ble_eq_true rfl) (Nat.le_of_ble_eq_true rfl) (Nat.le_of_ble_eq_true rfl) dX4_arc_218 ?_
                    have hwd2 : (if ab_l of1 < wd then wd else ab_l of1) = ob_w al sq cx cy (rx, ry) (i + 1) := by rw [ob_w, ← hp2, hwd, eof1]
                    refine lv_lstore (lv' := [(9, .long (if (ab_l of1) < wd then wd else (ab_l of1))), (12, .long of1), (11, .int (nI i)), (0, .ref m0), (3, .int cx), (4, .int cy), (6, .long sq), (8, .int (nI n))]) hx hb dX4_arc_221 hl (by decide) rfl (fun ls hl => ?_)
                    refine lv_iinc (v := nI (i + 1)) (lv' := [(11, .int (nI (i + 1))), (9, .long (if (ab_l of1) < wd then wd else (ab_l of1))), (12, .long of1), (0, .ref m0), (3, .int cx), (4, .int cy), (6, .long sq), (8, .int (nI n))]) hx hb dX4_arc_223 hl (k := 2) rfl (nI_1 i) (by decide) rfl (fun ls hl => ?_)
                    refine lv_goto (tgt := 115) hx hb dX4_arc_226 (by decide) ?_
                    exact ih_115 _ ((i + 1), px + (st_X j), py + (st_Y j), upd zf i (nI j), if (ab_l of1) < wd then wd else (ab_l of1)) _ _ _ (by rw [hn_115]; omega) ⟨rfl, (show i + 1 ≤ n by omega), hp2, hz2, hwd2, (hP.sub [0, 1, 2] rfl), (hD.sub [0, 1, 2] (by decide) rfl), hS, (lv_sub hl [0, 1, 3, 4, 5, 6, 7] rfl)⟩
              · refine lv_iconst (v := -1) hx hb dX4_arc_100 (by decide) ?_
                have hP9 := hP.sub (ws' := [(m0, .inr (3, [.int rx, .int ry, .int rz, .int rw, .int ri, .int ux, .int uy, .int uz, .int vx, .int vy, .int vz, .int cn, .int mo, .ref qw, .ref qt])), (qw, .inl (cB, 40000, .inl wf)), (qt, .inl (cB, 40000, .inl nt_7))]) [1, 0, 2] rfl
                have hD9 := hD.sub (ws' := [(m0, .inr (3, [.int rx, .int ry, .int rz, .int rw, .int ri, .int ux, .int uy, .int uz, .int vx, .int vy, .int vz, .int cn, .int mo, .ref qw, .ref qt])), (qw, .inl (cB, 40000, .inl wf)), (qt, .inl (cB, 40000, .inl nt_7))]) [1, 0, 2] (by decide) rfl
                exact W.iret (v := -1) hx hb hr (fun t9 ht9 hW9 => ⟨⟨-1, (rx, ry, rw, ri, ux, uy, uz, cn, mo, wf, nt_7), rfl, (Or.inr ⟨rfl, (fun h => by rcases hw_7 with ⟨n, g1, g2, g3⟩ | g; exact c_97 (by rw [g1]; exact nI_pos' (by have := g2.2.1; omega)); obtain ⟨n, hn⟩ := h.2.2.2; rw [← esq] at hn; exact g.2 n hn), ⟨rfl, rfl⟩, ⟨rfl, rfl⟩, ⟨rfl, rfl, rfl⟩, rfl, rfl, rfl⟩), by rw [ht9]; exact hP9, hD9⟩, hS.F ht9⟩) hS.2.2 dX4_arc_101
            · refine lv_iconst (v := -1) hx hb dX4_arc_71 (by decide) ?_
              have hP9 := hP.sub (ws' := [(m0, .inr (3, [.int rx, .int ry, .int rz, .int rw, .int ri, .int ux, .int uy, .int uz, .int vx, .int vy, .int vz, .int cn, .int mo, .ref qw, .ref qt])), (qw, .inl (cB, 40000, .inl wf)), (qt, .inl (cB, 40000, .inl tf))]) [0, 1, 2] rfl
              have hD9 := hD.sub (ws' := [(m0, .inr (3, [.int rx, .int ry, .int rz, .int rw, .int ri, .int ux, .int uy, .int uz, .int vx, .int vy, .int vz, .int cn, .int mo, .ref qw, .ref qt])), (qw, .inl (cB, 40000, .inl wf)), (qt, .inl (cB, 40000, .inl tf))]) [0, 1, 2] (by decide) rfl
              exact W.iret (v := -1) hx hb hr (fun t9 ht9 hW9 => ⟨⟨-1, (rx, ry, rw, ri, ux, uy, uz, cn, mo, wf, tf), rfl, (Or.inr ⟨rfl, (fun h => c_68 ((lg_cmp_le _ _).mpr (by rw [esq]; exact h.2.2.1.2))), ⟨rfl, rfl⟩, ⟨rfl, rfl⟩, ⟨rfl, rfl, rfl⟩, rfl, rfl, rfl⟩), by rw [ht9]; exact hP9, hD9⟩, hS.F ht9⟩) hS.2.2 dX4_arc_72
        · refine lv_iconst (v := -1) hx hb dX4_arc_29 (by decide) ?_
          have hP9 := hP.sub (ws' := [(m0, .inr (3, [.int rx, .int ry, .int rz, .int rw, .int ri, .int ux, .int uy, .int uz, .int vx, .int vy, .int vz, .int cn, .int mo, .ref qw, .ref qt])), (qw, .inl (cB, 40000, .inl wf)), (qt, .inl (cB, 40000, .inl tf))]) [0, 1, 2] rfl
          have hD9 := hD.sub (ws' := [(m0, .inr (3, [.int rx, .int ry, .int rz, .int rw, .int ri, .int ux, .int uy, .int uz, .int vx, .int vy, .int vz, .int cn, .int mo, .ref qw, .ref qt])), (qw, .inl (cB, 40000, .inl wf)), (qt, .inl (cB, 40000, .inl tf))]) [0, 1, 2] (by decide) rfl
          exact W.iret (v := -1) hx hb hr (fun t9 ht9 hW9 => ⟨⟨-1, (rx, ry, rw, ri, ux, uy, uz, cn, mo, wf, tf), rfl, (Or.inr ⟨rfl, (fun h => hw_4.f c_26 h.2.1.2), ⟨rfl, rfl⟩, ⟨rfl, rfl⟩, ⟨rfl, rfl, rfl⟩, rfl, rfl, rfl⟩), by rw [ht9]; exact hP9, hD9⟩, hS.F ht9⟩) hS.2.2 dX4_arc_30
set_option maxHeartbeats 4000000 in
set_option maxRecDepth 100000 in
/-- TickWalksModel.<init> -/
theorem rm_init (l : Launch) (dC : Nat → ClassId) (dI : Nat → Nat → Nat) (cA cB : ClassId) (sz : Nat) (m0 : Nat) : Met l yX4_init wsX4_init ({ frames := 1, cells := 2, slots := 80000, locals := 12 }) (va_Pc [.ref m0] (ct_P dC dI cA cB sz [(m0, .inr (3, [.int 0, .int 0, .int 0, .int 0, .int 0, .int 0, .int 0, .int 0, .int 0, .int 0, .int 0, .int 0, .int 0, .null, .null]))])) (va_Qv (fun (u : Nat × Nat) => True) (fun (u : Nat × Nat) => ct_B dC dI (va_A [(m0, .inr (3, [.int 0, .int 0, .int 0, .int 0, .int 0, .int 0, .int 0, .int 0, .int 0, .int 0, .int 0, .int 0, .int 0, .null, .null]))] sz) [(m0, .inr (3, [.int 0, .int 0, .int 0, .int 0, .int 0, .int 0, .int 0, .int 0, .int 0, .int 0, .int 0, .int 0, .int 0, .ref u.1, .ref u.2])), (u.1, .inl (cB, 40000, .inl (fun _ => 0))), (u.2, .inl (cB, 40000, .inl (fun _ => 0)))]) (va_A [(m0, .inr (3, [.int 0, .int 0, .int 0, .int 0, .int 0, .int 0, .int 0, .int 0, .int 0, .int 0, .int 0, .int 0, .int 0, .null, .null]))] sz)) 2 80000 (va_A [(m0, .inr (3, [.int 0, .int 0, .int 0, .int 0, .int 0, .int 0, .int 0, .int 0, .int 0, .int 0, .int 0, .int 0, .int 0, .null, .null]))] sz) := by
  refine Met.ofW (cc := cX4_init) (maxL := 1) (ret := none) (by decide +kernel) rfl ?_
  intro p e s m args below meth c s₁ B hml hv
  obtain ⟨rfl, hsz, hP, hK, hD0, hZ, hN⟩ := hv
  have hx := B.exec
  have hb := B.bytes
  have hr := B.returns
  have hts := atoms_spec (ws := wsX4_init) B.pre
  have hown : s.vm.findClass RX4 = some m.cls := findClass_of_methodNamed B.named
  have hlocks := B.notSynchronized
  have hin : meth.name = "<init>" := (name_of_methodNamed B.named B.method).1
  have hiX4 : ∀ w ∈ u_ws RX4 TX4 15, w ∈ wsX4_init := by decide +kernel
  subst hsz
  have hD := hD0.self (sz := s.heap.size)
  generalize hAe : va_A [(m0, .inr (3, [.int 0, .int 0, .int 0, .int 0, .int 0, .int 0, .int 0, .int 0, .int 0, .int 0, .int 0, .int 0, .int 0, .null, .null]))] s.heap.size = A at hD hZ ⊢
  have hA : ∀ q : Nat, s.heap.size ≤ q → A q := fun q h => by rw [← hAe]; exact Or.inr h
  have hl := lv_entry ([.ref m0]) (n := 1) (Nat.le_of_ble_eq_true rfl)
  rw [lg_entry_eq]
  generalize (lg_sl ([.ref m0]) ++ List.replicate (1 - (lg_sl ([.ref m0])).length) Slot.unset).toArray = ls at hl ⊢
  have hl : lv_has ls 1 [(0, .ref m0)] := hl
  generalize hHe : s.heap = H at hP ⊢
  have hS : va_S A s.heap H [] := by rw [hHe]; exact va_S.rf
  generalize ([] : List Loc) = locs at hS ⊢
  refine lv_aload_n hx hb dX4_init_0 rfl (lv_at hl 0 rfl) ?_
  refine W.objInit hx hb hown (hts (.methodLink RX4 1 objectInit) (List.mem_of_getElem? (l := wsX4_init) (i := 1) rfl)) (hts (.instanceMethod objectInit) (List.mem_of_getElem? (l := wsX4_init) (i := 2) rfl)) (hts (.code objectInit ⟨#[0xb1]⟩ 1 none) (List.mem_of_getElem? (l := wsX4_init) (i := 3) rfl)) rfl (by rw [hml]; exact hl.1) rfl dX4_init_1 (Nat.le_of_ble_eq_true rfl) (Nat.le_of_ble_eq_true rfl) ?_
  refine W.eq (g2 := F0 m 4 ls []) rfl ?_
  refine lv_aload_n hx hb dX4_init_4 rfl (lv_at hl 0 rfl) ?_
  refine lv_ldc (v := 40000) hx hb hown (hts (.constant RX4 9 (40000)) (List.mem_of_getElem? (l := wsX4_init) (i := 4) rfl)) dX4_init_5 ?_
  refine va_newa (atype := .byte) (ty := .byte) (n := 40000) (N' := 40000) (a0 := (40000, .inl (fun _ => 0))) hx hb (hts (.arrayClass .byte) (List.mem_of_getElem? (l := wsX4_init) (i := 5) rfl)) rfl hK hP hD hS hA (fun _ => rfl) (by decide) (by decide) (by decide) (Nat.le_of_ble_eq_true rfl) (Nat.le_of_ble_eq_true rfl) dX4_init_7 (fun qa_1 cA9 H hK9 hP hD hS => ?_)
  obtain rfl : cB = cA9 := ct_cB hK9 1 2 rfl rfl
  have hP : va_P (dC, dI) vwCl [(m0, .inr (3, [.int 0, .int 0, .int 0, .int 0, .int 0, .int 0, .int 0, .int 0, .int 0, .int 0, .int 0, .int 0, .int 0, .null, .null])), (qa_1, .inl (cB, 40000, .inl (fun _ => 0)))] H := hP
  have hD : va_D A [(m0, .inr (3, [.int 0, .int 0, .int 0, .int 0, .int 0, .int 0, .int 0, .int 0, .int 0, .int 0, .int 0, .int 0, .int 0, .null, .null])), (qa_1, .inl (cB, 40000, .inl (fun _ => 0)))] := hD
  refine va_putF (D := (dC, dI)) (ci := 3) (v := .ref qa_1) (ty := (.array .byte)) (C := RX4) (T := TX4) (N := 15) hx hb hts hiX4 tyX4 tyX4_ok nmX4 hown hK hP hD hS 0 rfl rfl 13 (by decide) (hts (.fieldLink RX4 10 "TickWalksModel" "way" "[B") (List.mem_of_getElem? (l := wsX4_init) (i := 6) rfl)) (fun _ h9 => h9) rfl hin rfl (by decide +kernel) rfl rfl (Nat.le_of_ble_eq_true rfl) dX4_init_9 (fun H locs hP hD hS => ?_)
  have hP : va_P (dC, dI) vwCl [(m0, .inr (3, [.int 0, .int 0, .int 0, .int 0, .int 0, .int 0, .int 0, .int 0, .int 0, .int 0, .int 0, .int 0, .int 0, .ref qa_1, .null])), (qa_1, .inl (cB, 40000, .inl (fun _ => 0)))] H := hP
  have hD : va_D A [(m0, .inr (3, [.int 0, .int 0, .int 0, .int 0, .int 0, .int 0, .int 0, .int 0, .int 0, .int 0, .int 0, .int 0, .int 0, .ref qa_1, .null])), (qa_1, .inl (cB, 40000, .inl (fun _ => 0)))] := hD
  refine lv_aload_n hx hb dX4_init_12 rfl (lv_at hl 0 rfl) ?_
  refine lv_ldc (v := 40000) hx hb hown (hts (.constant RX4 9 (40000)) (List.mem_of_getElem? (l := wsX4_init) (i := 4) rfl)) dX4_init_13 ?_
  refine va_newa (atype := .byte) (ty := .byte) (n := 40000) (N' := 40000) (a0 := (40000, .inl (fun _ => 0))) hx hb (hts (.arrayClass .byte) (List.mem_of_getElem? (l := wsX4_init) (i := 5) rfl)) rfl hK hP hD hS hA (fun _ => rfl) (by decide) (by decide) (by decide) (Nat.le_of_ble_eq_true rfl) (Nat.le_of_ble_eq_true rfl) dX4_init_15 (fun qa_2 cA9 H hK9 hP hD hS => ?_)
  obtain rfl : cB = cA9 := ct_cB hK9 1 2 rfl rfl
  have hP : va_P (dC, dI) vwCl [(m0, .inr (3, [.int 0, .int 0, .int 0, .int 0, .int 0, .int 0, .int 0, .int 0, .int 0, .int 0, .int 0, .int 0, .int 0, .ref qa_1, .null])), (qa_1, .inl (cB, 40000, .inl (fun _ => 0))), (qa_2, .inl (cB, 40000, .inl (fun _ => 0)))] H := hP
  have hD : va_D A [(m0, .inr (3, [.int 0, .int 0, .int 0, .int 0, .int 0, .int 0, .int 0, .int 0, .int 0, .int 0, .int 0, .int 0, .int 0, .ref qa_1, .null])), (qa_1, .inl (cB, 40000, .inl (fun _ => 0))), (qa_2, .inl (cB, 40000, .inl (fun _ => 0)))] := hD
  refine va_putF (D := (dC, dI)) (ci := 3) (v := .ref qa_2) (ty := (.array .byte)) (C := RX4) (T := TX4) (N := 15) hx hb hts hiX4 tyX4 tyX4_ok nmX4 hown hK hP hD hS 0 rfl rfl 14 (by decide) (hts (.fieldLink RX4 14 "TickWalksModel" "tried" "[B") (List.mem_of_getElem? (l := wsX4_init) (i := 7) rfl)) (fun _ h9 => h9) rfl hin rfl (by decide +kernel) rfl rfl (Nat.le_of_ble_eq_true rfl) dX4_init_17 (fun H locs hP hD hS => ?_)
  have hP : va_P (dC, dI) vwCl [(m0, .inr (3, [.int 0, .int 0, .int 0, .int 0, .int 0, .int 0, .int 0, .int 0, .int 0, .int 0, .int 0, .int 0, .int 0, .ref qa_1, .ref qa_2])), (qa_1, .inl (cB, 40000, .inl (fun _ => 0))), (qa_2, .inl (cB, 40000, .inl (fun _ => 0)))] H := hP
  have hD : va_D A [(m0, .inr (3, [.int 0, .int 0, .int 0, .int 0, .int 0, .int 0, .int 0, .int 0, .int 0, .int 0, .int 0, .int 0, .int 0, .ref qa_1, .ref qa_2])), (qa_1, .inl (cB, 40000, .inl (fun _ => 0))), (qa_2, .inl (cB, 40000, .inl (fun _ => 0)))] := hD
  have hP9 := hP.sub (ws' := [(m0, .inr (3, [.int 0, .int 0, .int 0, .int 0, .int 0, .int 0, .int 0, .int 0, .int 0, .int 0, .int 0, .int 0, .int 0, .ref qa_1, .ref qa_2])), (qa_1, .inl (cB, 40000, .inl (fun _ => 0))), (qa_2, .inl (cB, 40000, .inl (fun _ => 0)))]) [0, 1, 2] rfl
  have hD9 := hD.sub (ws' := [(m0, .inr (3, [.int 0, .int 0, .int 0, .int 0, .int 0, .int 0, .int 0, .int 0, .int 0, .int 0, .int 0, .int 0, .int 0, .ref qa_1, .ref qa_2])), (qa_1, .inl (cB, 40000, .inl (fun _ => 0))), (qa_2, .inl (cB, 40000, .inl (fun _ => 0)))]) [0, 1, 2] (by decide) rfl
  refine W.widen (k := 2) (n := 80000) (by omega) (by omega) ?_
  exact W.vret hx hb hr (fun t9 ht9 hW9 => ⟨⟨(qa_1, qa_2), rfl, trivial, by rw [ht9]; exact hP9, hD9⟩, hS.F ht9⟩) hS.2.2 dX4_init_20
end
section
/-! both divisions are one, for a divisor above 0 -/
theorem xo_neg {a b : Int64} (hb : ¬ b < 0) : a ^^^ b < 0 ↔ a < 0 := by
  have key : ∀ z : Int64, z < 0 ↔ z.toBitVec.msb = true := fun z => by
    rw [Int64.lt_iff_toInt_lt, BitVec.msb_eq_toInt]
    have e : (0 : Int64).toInt = 0 := by decide
    rw [e]
    exact (decide_eq_true_iff).symm
  rw [key, key, Int64.toBitVec_xor, BitVec.msb_xor]
  have h2 : b.toBitVec.msb = false := by
    cases h : b.toBitVec.msb with
    | false => rfl
    | true => exact absurd ((key b).mpr h) hb
  rw [h2, Bool.xor_false]
theorem fd_eq {a b : Int64} (hb : ¬ b < 0) : fd_f a b = fd_d a b := by
  unfold fd_f fd_d
  have e : (a ^^^ b < 0 ∧ ¬ a / b * b = a) ↔ (a < 0 ∧ ¬ a - a / b * b = 0) := by
    rw [xo_neg hb]
    constructor
    · intro h
      refine ⟨h.1, fun g => h.2 ?_⟩
      have g2 : a - a / b * b + a / b * b = 0 + a / b * b := by rw [g]
      rw [Int64.sub_add_cancel, Int64.zero_add] at g2
      exact g2.symm
    · intro h
      refine ⟨h.1, fun g => h.2 ?_⟩
      rw [g, Int64.sub_self]
  by_cases h : a ^^^ b < 0 ∧ ¬ a / b * b = a
  · rw [if_pos h, if_pos (e.mp h)]
  · rw [if_neg h, if_neg (fun g => h (e.mpr g))]
/-! products in range -/
theorem pr_n {x y : Int} {B C : Nat} (hx : x.natAbs ≤ B) (hy : y.natAbs ≤ C) : (x * y).natAbs ≤ B * C := by
  rw [Int.natAbs_mul]
  exact Nat.mul_le_mul hx hy
theorem mu_l {x y : Int64} (hx : x.toInt.natAbs ≤ 300000) (hy : y.toInt.natAbs ≤ 300000) : (x * y).toInt = x.toInt * y.toInt := by
  have h := pr_n hx hy
  rw [Int64.toInt_mul, Int.bmod_eq_of_le (by omega) (by omega)]
theorem ab_t {x : Int64} (h : -9223372036854775808 < x.toInt) : (ab_l x).toInt = x.toInt.natAbs := by
  unfold ab_l
  have e : (0 : Int64).toInt = 0 := by decide
  by_cases g : 0 < x
  · rw [if_pos g]
    have g2 := Int64.lt_iff_toInt_lt.mp g
    rw [e] at g2
    omega
  · rw [if_neg g]
    have g2 := Int64.le_iff_toInt_le.mp (Int64.not_lt.mp g)
    rw [e] at g2
    have h3 := Int64.toInt_lt x
    rw [Int64.toInt_neg, Int.bmod_eq_of_le (by omega) (by omega)]
    omega
theorem df_t {a b : Int32} (ha : -200000 ≤ a.toInt ∧ a.toInt ≤ 200000) (hb : -40000 ≤ b.toInt ∧ b.toInt ≤ 40000) : (a - b).toInt64.toInt = a.toInt - b.toInt := by
  rw [Int32.toInt_toInt64, sb_i (by omega) (by omega)]
/-- the neighbour's amount beside, in whole numbers -/
theorem sb_t {dx dy sq : Int64} {i : Nat} (hi : i < 8) (hx : dx.toInt.natAbs ≤ 250000) (hy : dy.toInt.natAbs ≤ 250000) (hs : 0 ≤ sq.toInt ∧ sq.toInt ≤ 25000000) :
    (st_b dx dy sq i).toInt = ((dx.toInt + (st_X i).toInt) * (dx.toInt + (st_X i).toInt) + (dy.toInt + (st_Y i).toInt) * (dy.toInt + (st_Y i).toInt) - sq.toInt).natAbs := by
  obtain ⟨⟨b1, b2⟩, b3, b4⟩ := sx_t hi
  have e1 : (dx + (st_X i).toInt64).toInt = dx.toInt + (st_X i).toInt := by rw [ad_l (by rw [Int32.toInt_toInt64]; omega) (by rw [Int32.toInt_toInt64]; omega), Int32.toInt_toInt64]
  have e2 : (dy + (st_Y i).toInt64).toInt = dy.toInt + (st_Y i).toInt := by rw [ad_l (by rw [Int32.toInt_toInt64]; omega) (by rw [Int32.toInt_toInt64]; omega), Int32.toInt_toInt64]
  have p1 := pr_n (x := dx.toInt + (st_X i).toInt) (y := dx.toInt + (st_X i).toInt) (B := 250001) (C := 250001) (by omega) (by omega)
  have p2 := pr_n (x := dy.toInt + (st_Y i).toInt) (y := dy.toInt + (st_Y i).toInt) (B := 250001) (C := 250001) (by omega) (by omega)
  have m1 : ((dx + (st_X i).toInt64) * (dx + (st_X i).toInt64)).toInt = (dx.toInt + (st_X i).toInt) * (dx.toInt + (st_X i).toInt) := by rw [mu_l (by rw [e1]; omega) (by rw [e1]; omega), e1]
  have m2 : ((dy + (st_Y i).toInt64) * (dy + (st_Y i).toInt64)).toInt = (dy.toInt + (st_Y i).toInt) * (dy.toInt + (st_Y i).toInt) := by rw [mu_l (by rw [e2]; omega) (by rw [e2]; omega), e2]
  have a1 := ad_l (a := (dx + (st_X i).toInt64) * (dx + (st_X i).toInt64)) (b := (dy + (st_Y i).toInt64) * (dy + (st_Y i).toInt64)) (by rw [m1, m2]; omega) (by rw [m1, m2]; omega)
  rw [m1, m2] at a1
  have s1 := sb_l (a := (dx + (st_X i).toInt64) * (dx + (st_X i).toInt64) + (dy + (st_Y i).toInt64) * (dy + (st_Y i).toInt64)) (b := sq) (by rw [a1]; omega) (by rw [a1]; omega)
  rw [a1] at s1
  unfold st_b
  rw [ab_t (by rw [s1]; omega), s1]
/-- the turn, in whole numbers -/
theorem tn_t {dx dy : Int64} {i : Nat} (hi : i < 8) (hx : dx.toInt.natAbs ≤ 250000) (hy : dy.toInt.natAbs ≤ 250000) :
    (st_t dx dy i).toInt = dx.toInt * (st_Y i).toInt - dy.toInt * (st_X i).toInt := by
  obtain ⟨⟨b1, b2⟩, b3, b4⟩ := sx_t hi
  have e1 : (dx + (st_X i).toInt64).toInt = dx.toInt + (st_X i).toInt := by rw [ad_l (by rw [Int32.toInt_toInt64]; omega) (by rw [Int32.toInt_toInt64]; omega), Int32.toInt_toInt64]
  have e2 : (dy + (st_Y i).toInt64).toInt = dy.toInt + (st_Y i).toInt := by rw [ad_l (by rw [Int32.toInt_toInt64]; omega) (by rw [Int32.toInt_toInt64]; omega), Int32.toInt_toInt64]
  have p1 := pr_n (x := dx.toInt) (y := dy.toInt + (st_Y i).toInt) (B := 250001) (C := 250001) (by omega) (by omega)
  have p2 := pr_n (x := dy.toInt) (y := dx.toInt + (st_X i).toInt) (B := 250001) (C := 250001) (by omega) (by omega)
  have m1 : (dx * (dy + (st_Y i).toInt64)).toInt = dx.toInt * (dy.toInt + (st_Y i).toInt) := by rw [mu_l (by omega) (by rw [e2]; omega), e2]
  have m2 : (dy * (dx + (st_X i).toInt64)).toInt = dy.toInt * (dx.toInt + (st_X i).toInt) := by rw [mu_l (by omega) (by rw [e1]; omega), e1]
  have s1 := sb_l (a := dx * (dy + (st_Y i).toInt64)) (b := dy * (dx + (st_X i).toInt64)) (by rw [m1, m2]; omega) (by rw [m1, m2]; omega)
  unfold st_t
  rw [s1, m1, m2, Int.mul_add, Int.mul_add, Int.mul_comm dy.toInt dx.toInt]
  omega
/-- what the chosen neighbour is -/
theorem st_F_ok (lf : Int32) (dx dy sq : Int64) : ∀ n : Nat, n < 2 ^ 31 → ∀ j, j < n → (st_F lf dx dy sq n).1 = nI j → st_c lf dx dy j = true ∧ (st_F lf dx dy sq n).2 = st_b dx dy sq j := by
  intro n
  induction n with
  | zero => intro _ j h; omega
  | succ n ih =>
    intro hn j hj e
    have old : st_F lf dx dy sq (n + 1) = st_F lf dx dy sq n → st_c lf dx dy j = true ∧ (st_F lf dx dy sq (n + 1)).2 = st_b dx dy sq j := by
      intro g
      rw [g] at e ⊢
      rcases st_F_ix lf dx dy sq n (by omega) with h | ⟨i, hi, h⟩
      · rw [h] at e
        exact absurd (show (0 : Int32) ≤ -1 by rw [e]; exact nI_pos' (by omega)) (by decide)
      · have hij : i = j := (nI_eq (by omega) (by omega)).mp (h.symm.trans e)
        subst hij
        exact ih (by omega) i hi e
    by_cases h : st_c lf dx dy n = true
    · by_cases h2 : (st_F lf dx dy sq n).1 < 0 ∨ st_b dx dy sq n < (st_F lf dx dy sq n).2
      · have g := st_F_take h h2
        rw [g] at e ⊢
        have hij : n = j := (nI_eq (by omega) (by omega)).mp e
        subst hij
        exact ⟨h, rfl⟩
      · exact old (st_F_keep h h2)
    · exact old (st_F_skip (by cases g : st_c lf dx dy n with | false => rfl | true => exact absurd g h))
theorem st_F_min (lf : Int32) (dx dy sq : Int64) : ∀ n : Nat, n < 2 ^ 31 → ∀ i, i < n → st_c lf dx dy i = true → ¬ (st_F lf dx dy sq n).1 < 0 ∧ (st_F lf dx dy sq n).2 ≤ st_b dx dy sq i := by
  intro n
  induction n with
  | zero => intro _ i h; omega
  | succ n ih =>
    intro hn i hi hc
    by_cases h : st_c lf dx dy n = true
    · by_cases h2 : (st_F lf dx dy sq n).1 < 0 ∨ st_b dx dy sq n < (st_F lf dx dy sq n).2
      · rw [st_F_take h h2]
        refine ⟨nI_pos (by omega), ?_⟩
        rcases Nat.lt_or_ge i n with q | q
        · obtain ⟨g1, g2⟩ := ih (by omega) i q hc
          rcases h2 with h3 | h3
          · exact absurd h3 g1
          · exact Int64.le_trans (Int64.le_of_lt h3) g2
        · rw [show i = n by omega]; exact Int64.le_refl _
      · rw [st_F_keep h h2]
        rcases Nat.lt_or_ge i n with q | q
        · exact ih (by omega) i q hc
        · rw [show i = n by omega]
          exact ⟨fun g => h2 (Or.inl g), Int64.not_lt.mp (fun g => h2 (Or.inr g))⟩
    · have g : st_c lf dx dy n = false := by cases g : st_c lf dx dy n with | false => rfl | true => exact absurd g h
      rw [st_F_skip g]
      rcases Nat.lt_or_ge i n with q | q
      · exact ih (by omega) i q hc
      · rw [show i = n by omega] at hc
        exact absurd hc h
end
