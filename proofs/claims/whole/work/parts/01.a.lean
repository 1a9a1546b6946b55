-- ===== PART A: goes FIRST, ahead of the names: the tables' words, and 'selects' of the private methods out of them =====
/-- a private method of a class that the tables say can be made, by its rows of tables_1 -/
def lw_okq (q : MethodName × Nat) : Prop := (q.1.cls ≠ "java/lang/invoke/MethodHandle" ∧ q.1.cls ≠ "java/lang/invoke/VarHandle") ∧ Cond.instantiable q.1.cls q.2 ∈ tables_1 ∧ Cond.privateMethod q.1 ∈ tables_1 ∧ Cond.instanceMethod q.1 ∈ tables_1
theorem lw_p0 : lw_okq (⟨"TickWalks", "standAt", "(III)V"⟩, 5) := ⟨⟨by decide +kernel, by decide +kernel⟩, List.mem_of_getElem? (i := 8) (by decide +kernel), List.mem_of_getElem? (i := 108) (by decide +kernel), List.mem_of_getElem? (i := 109) (by decide +kernel)⟩
theorem lw_p1 : lw_okq (⟨"TickWalks$Arc", "squareFromCentre", "()J"⟩, 12) := ⟨⟨by decide +kernel, by decide +kernel⟩, List.mem_of_getElem? (i := 39) (by decide +kernel), List.mem_of_getElem? (i := 142) (by decide +kernel), List.mem_of_getElem? (i := 143) (by decide +kernel)⟩
theorem lw_p2 : lw_okq (⟨"TickWalks$Arc", "mark", "(I)V"⟩, 12) := ⟨⟨by decide +kernel, by decide +kernel⟩, List.mem_of_getElem? (i := 39) (by decide +kernel), List.mem_of_getElem? (i := 146) (by decide +kernel), List.mem_of_getElem? (i := 147) (by decide +kernel)⟩
theorem lw_p3 : lw_okq (⟨"TickWalks$Arc", "step", "()Z"⟩, 12) := ⟨⟨by decide +kernel, by decide +kernel⟩, List.mem_of_getElem? (i := 39) (by decide +kernel), List.mem_of_getElem? (i := 156) (by decide +kernel), List.mem_of_getElem? (i := 157) (by decide +kernel)⟩
theorem lw_p4 : lw_okq (⟨"TickWalks$Arc", "measure", "(II)V"⟩, 12) := ⟨⟨by decide +kernel, by decide +kernel⟩, List.mem_of_getElem? (i := 39) (by decide +kernel), List.mem_of_getElem? (i := 167) (by decide +kernel), List.mem_of_getElem? (i := 168) (by decide +kernel)⟩
theorem lw_p5 : lw_okq (⟨"TickWalks$Arc", "seek", "(I)V"⟩, 12) := ⟨⟨by decide +kernel, by decide +kernel⟩, List.mem_of_getElem? (i := 39) (by decide +kernel), List.mem_of_getElem? (i := 198) (by decide +kernel), List.mem_of_getElem? (i := 199) (by decide +kernel)⟩
theorem lw_p6 : lw_okq (⟨"TickWalks$Line", "countStrays", "()I"⟩, 4) := ⟨⟨by decide +kernel, by decide +kernel⟩, List.mem_of_getElem? (i := 16) (by decide +kernel), List.mem_of_getElem? (i := 243) (by decide +kernel), List.mem_of_getElem? (i := 244) (by decide +kernel)⟩
theorem lw_p7 : lw_okq (⟨"TickWalksModel", "begin", "(ZI)V"⟩, 15) := ⟨⟨by decide +kernel, by decide +kernel⟩, List.mem_of_getElem? (i := 249) (by decide +kernel), List.mem_of_getElem? (i := 318) (by decide +kernel), List.mem_of_getElem? (i := 319) (by decide +kernel)⟩
theorem lw_p8 : lw_okq (⟨"TickWalksModel", "tried", "(JJIIJZ)I"⟩, 15) := ⟨⟨by decide +kernel, by decide +kernel⟩, List.mem_of_getElem? (i := 249) (by decide +kernel), List.mem_of_getElem? (i := 334) (by decide +kernel), List.mem_of_getElem? (i := 335) (by decide +kernel)⟩
theorem lw_p9 : lw_okq (⟨"TickWalksModel", "partOf", "(II)I"⟩, 15) := ⟨⟨by decide +kernel, by decide +kernel⟩, List.mem_of_getElem? (i := 249) (by decide +kernel), List.mem_of_getElem? (i := 351) (by decide +kernel), List.mem_of_getElem? (i := 352) (by decide +kernel)⟩
def lw_privs_1 : List (MethodName × Nat) := [(⟨"TickWalks", "standAt", "(III)V"⟩, 5), (⟨"TickWalks$Arc", "squareFromCentre", "()J"⟩, 12), (⟨"TickWalks$Arc", "mark", "(I)V"⟩, 12), (⟨"TickWalks$Arc", "step", "()Z"⟩, 12), (⟨"TickWalks$Arc", "measure", "(II)V"⟩, 12), (⟨"TickWalks$Arc", "seek", "(I)V"⟩, 12), (⟨"TickWalks$Line", "countStrays", "()I"⟩, 4), (⟨"TickWalksModel", "begin", "(ZI)V"⟩, 15), (⟨"TickWalksModel", "tried", "(JJIIJZ)I"⟩, 15), (⟨"TickWalksModel", "partOf", "(II)I"⟩, 15)]
theorem lw_r1 : ∀ q ∈ lw_privs_1, lw_okq q := List.forall_mem_cons.mpr ⟨lw_p0, List.forall_mem_cons.mpr ⟨lw_p1, List.forall_mem_cons.mpr ⟨lw_p2, List.forall_mem_cons.mpr ⟨lw_p3, List.forall_mem_cons.mpr ⟨lw_p4, List.forall_mem_cons.mpr ⟨lw_p5, List.forall_mem_cons.mpr ⟨lw_p6, List.forall_mem_cons.mpr ⟨lw_p7, List.forall_mem_cons.mpr ⟨lw_p8, List.forall_mem_cons.mpr ⟨lw_p9, fun _ h => absurd h List.not_mem_nil⟩⟩⟩⟩⟩⟩⟩⟩⟩⟩
def lw_privs : List (MethodName × Nat) := lw_privs_1
def lw_tbl : List Cond := k2_sels lw_privs ++ tables_1
theorem lw_privs_ok : ∀ q ∈ lw_privs, lw_okq q := lw_r1
-- ===== end of PART A; then your names; then what follows =====
/-! ===== BEGIN words of one list among another's, by their places ===== -/
theorem goodIn_r {big : List Cond} (ws : List Cond) (ps : List Nat) (hp : ws = ps.filterMap (fun i => big[i]?)) (h : ws.all goodWord = true) : GoodIn big ws := by
  intro w hw
  have h1 := List.all_eq_true.mp h w hw
  rw [hp] at hw
  obtain ⟨i, -, hi⟩ := List.mem_filterMap.mp hw
  have hm : w ∈ big := by first | exact List.mem_of_getElem? hi | exact List.getElem?_mem hi
  exact ⟨hm, good_of_word h1⟩
theorem goodIn_app {big a b : List Cond} (ha : GoodIn big a) (hb : GoodIn big b) : GoodIn big (a ++ b) := fun w h => (List.mem_append.mp h).elim (ha w) (hb w)
theorem goodIn_ca {big a b : List Cond} {c : Cond} (ha : GoodIn big (c :: a)) (hb : GoodIn big b) : GoodIn big (c :: (a ++ b)) := fun w h => (List.mem_cons.mp h).elim (fun e => ha w (List.mem_cons.mpr (Or.inl e))) (fun h => (List.mem_append.mp h).elim (fun h => ha w (List.mem_cons.mpr (Or.inr h))) (hb w))
theorem goodIn_sub {big ws : List Cond} (hm : ∀ w ∈ ws, w ∈ big) (h : ws.all goodWord = true) : GoodIn big ws := fun w hw => ⟨hm w hw, good_of_word (List.all_eq_true.mp h w hw)⟩
/-! ===== END ===== -/

/-! ===== BEGIN printed: names, fields, word lists, decode rows ===== -/
def RX0 : String := "TickWalks$Arc"
def TX0 : u_T := fun k => match k with
  | 0 => ("TickWalks$Arc", "markX", "[I", true)
  | 1 => ("TickWalks$Arc", "markY", "[I", true)
  | 2 => ("TickWalks$Arc", "height", "I", false)
  | 3 => ("TickWalks$Arc", "centreX", "I", false)
  | 4 => ("TickWalks$Arc", "centreY", "I", false)
  | 5 => ("TickWalks$Arc", "left", "Z", false)
  | 6 => ("TickWalks$Arc", "square", "J", false)
  | 7 => ("TickWalks$Arc", "length", "I", false)
  | 8 => ("TickWalks$Arc", "off", "I", false)
  | 9 => ("TickWalks$Arc", "strays", "I", false)
  | 10 => ("TickWalks$Arc", "footX", "I", false)
  | _ => ("TickWalks$Arc", "footY", "I", false)
def tyX0 : Nat → FieldType := fun k => match k with
  | 0 => .array .int
  | 1 => .array .int
  | 2 => .int
  | 3 => .int
  | 4 => .int
  | 5 => .boolean
  | 6 => .long
  | 7 => .int
  | 8 => .int
  | 9 => .int
  | 10 => .int
  | _ => .int
abbrev wsX00 : List Cond := u_ws RX0 TX0 12
theorem nmX0 : ∀ a, a < 12 → ∀ b, b < 12 → a ≠ b → (TX0 a).2.1 ≠ (TX0 b).2.1 := by decide +kernel
theorem tyX0_ok : ∀ k, k < 12 → parseFieldDescriptor (TX0 k).2.2.1 = some (tyX0 k) := by decide +kernel
abbrev cX0_init : ByteArray := prog_2_method_1_code
def yX0_init : MethodName := ⟨RX0, "<init>", "()V"⟩
abbrev cX0_begin : ByteArray := prog_2_method_2_code
def yX0_begin : MethodName := ⟨RX0, "begin", "([IIIZ)V"⟩
abbrev cX0_walk : ByteArray := prog_2_method_3_code
def yX0_walk : MethodName := ⟨RX0, "walk", "(II)Z"⟩
abbrev cX0_length : ByteArray := prog_2_method_4_code
def yX0_length : MethodName := ⟨RX0, "length", "()I"⟩
abbrev cX0_placeBehind : ByteArray := prog_2_method_5_code
def yX0_placeBehind : MethodName := ⟨RX0, "placeBehind", "(II)I"⟩
abbrev cX0_greatestOff : ByteArray := prog_2_method_6_code
def yX0_greatestOff : MethodName := ⟨RX0, "greatestOff", "()I"⟩
abbrev cX0_strayTicks : ByteArray := prog_2_method_7_code
def yX0_strayTicks : MethodName := ⟨RX0, "strayTicks", "()I"⟩
abbrev cX0_mark : ByteArray := prog_2_method_8_code
def yX0_mark : MethodName := ⟨RX0, "mark", "(I)V"⟩
abbrev cX0_seek : ByteArray := prog_2_method_9_code
def yX0_seek : MethodName := ⟨RX0, "seek", "(I)V"⟩
abbrev cX0_measure : ByteArray := prog_2_method_10_code
def yX0_measure : MethodName := ⟨RX0, "measure", "(II)V"⟩
abbrev cX0_squareFromCentre : ByteArray := prog_2_method_11_code
def yX0_squareFromCentre : MethodName := ⟨RX0, "squareFromCentre", "()J"⟩
abbrev cX0_step : ByteArray := prog_2_method_12_code
def yX0_step : MethodName := ⟨RX0, "step", "()Z"⟩
def RX1 : String := "TickWalks$Line"
def TX1 : u_T := fun k => match k with
  | 0 => ("TickWalks$Line", "from", "[I", true)
  | 1 => ("TickWalks$Line", "by", "[I", true)
  | 2 => ("TickWalks$Line", "length", "I", false)
  | _ => ("TickWalks$Line", "strays", "I", false)
def tyX1 : Nat → FieldType := fun k => match k with
  | 0 => .array .int
  | 1 => .array .int
  | 2 => .int
  | _ => .int
abbrev wsX10 : List Cond := u_ws RX1 TX1 4
theorem nmX1 : ∀ a, a < 4 → ∀ b, b < 4 → a ≠ b → (TX1 a).2.1 ≠ (TX1 b).2.1 := by decide +kernel
theorem tyX1_ok : ∀ k, k < 4 → parseFieldDescriptor (TX1 k).2.2.1 = some (tyX1 k) := by decide +kernel
abbrev cX1_init : ByteArray := prog_3_method_1_code
def yX1_init : MethodName := ⟨RX1, "<init>", "()V"⟩
abbrev cX1_walk : ByteArray := prog_3_method_2_code
def yX1_walk : MethodName := ⟨RX1, "walk", "([IIII)V"⟩
abbrev cX1_length : ByteArray := prog_3_method_3_code
def yX1_length : MethodName := ⟨RX1, "length", "()I"⟩
abbrev cX1_placeBehind : ByteArray := prog_3_method_4_code
def yX1_placeBehind : MethodName := ⟨RX1, "placeBehind", "(II)I"⟩
abbrev cX1_greatestOff : ByteArray := prog_3_method_5_code
def yX1_greatestOff : MethodName := ⟨RX1, "greatestOff", "()I"⟩
abbrev cX1_strayTicks : ByteArray := prog_3_method_6_code
def yX1_strayTicks : MethodName := ⟨RX1, "strayTicks", "()I"⟩
abbrev cX1_countStrays : ByteArray := prog_3_method_7_code
def yX1_countStrays : MethodName := ⟨RX1, "countStrays", "()I"⟩
def RX2 : String := "TickWalks$Walk"
def TX2 : u_T := fun k => match k with
  | _ => ("", "", "", false)
def tyX2 : Nat → FieldType := fun k => match k with
  | _ => .int
abbrev wsX20 : List Cond := u_ws RX2 TX2 0
theorem nmX2 : ∀ a, a < 0 → ∀ b, b < 0 → a ≠ b → (TX2 a).2.1 ≠ (TX2 b).2.1 := by decide +kernel
theorem tyX2_ok : ∀ k, k < 0 → parseFieldDescriptor (TX2 k).2.2.1 = some (tyX2 k) := by decide +kernel
abbrev cX2_init : ByteArray := prog_4_method_1_code
def yX2_init : MethodName := ⟨RX2, "<init>", "()V"⟩
def RX3 : String := "TickWalks"
def TX3 : u_T := fun k => match k with
  | 0 => ("TickWalks", "stand", "[I", true)
  | 1 => ("TickWalks", "latestLine", "LTickWalks$Line;", true)
  | 2 => ("TickWalks", "latestArc", "LTickWalks$Arc;", false)
  | 3 => ("TickWalks", "triedArc", "LTickWalks$Arc;", false)
  | _ => ("TickWalks", "latest", "LTickWalks$Walk;", false)
def tyX3 : Nat → FieldType := fun k => match k with
  | 0 => .array .int
  | 1 => .object "TickWalks$Line"
  | 2 => .object "TickWalks$Arc"
  | 3 => .object "TickWalks$Arc"
  | _ => .object "TickWalks$Walk"
abbrev wsX30 : List Cond := u_ws RX3 TX3 5
theorem nmX3 : ∀ a, a < 5 → ∀ b, b < 5 → a ≠ b → (TX3 a).2.1 ≠ (TX3 b).2.1 := by decide +kernel
theorem tyX3_ok : ∀ k, k < 5 → parseFieldDescriptor (TX3 k).2.2.1 = some (tyX3 k) := by decide +kernel
abbrev cX3_init : ByteArray := prog_1_method_1_code
def yX3_init : MethodName := ⟨RX3, "<init>", "()V"⟩
abbrev cX3_place : ByteArray := prog_1_method_2_code
def yX3_place : MethodName := ⟨RX3, "place", "(III)Z"⟩
abbrev cX3_line : ByteArray := prog_1_method_3_code
def yX3_line : MethodName := ⟨RX3, "line", "(III)I"⟩
abbrev cX3_arc : ByteArray := prog_1_method_4_code
def yX3_arc : MethodName := ⟨RX3, "arc", "(IIIIZ)I"⟩
abbrev cX3_tick : ByteArray := prog_1_method_5_code
def yX3_tick : MethodName := ⟨RX3, "tick", "(II)I"⟩
abbrev cX3_ticks : ByteArray := prog_1_method_6_code
def yX3_ticks : MethodName := ⟨RX3, "ticks", "()I"⟩
abbrev cX3_at : ByteArray := prog_1_method_7_code
def yX3_at : MethodName := ⟨RX3, "at", "(I)I"⟩
abbrev cX3_off : ByteArray := prog_1_method_8_code
def yX3_off : MethodName := ⟨RX3, "off", "()I"⟩
abbrev cX3_strays : ByteArray := prog_1_method_9_code
def yX3_strays : MethodName := ⟨RX3, "strays", "()I"⟩
abbrev cX3_standAt : ByteArray := prog_1_method_10_code
def yX3_standAt : MethodName := ⟨RX3, "standAt", "(III)V"⟩
abbrev cX3_isAxis : ByteArray := prog_1_method_11_code
def yX3_isAxis : MethodName := ⟨RX3, "isAxis", "(I)Z"⟩
abbrev cX3_isPlace : ByteArray := prog_1_method_12_code
def yX3_isPlace : MethodName := ⟨RX3, "isPlace", "(III)Z"⟩
abbrev cX3_isWithin : ByteArray := prog_1_method_13_code
def yX3_isWithin : MethodName := ⟨RX3, "isWithin", "(II)Z"⟩
abbrev cX3_greatestAmount : ByteArray := prog_1_method_14_code
def yX3_greatestAmount : MethodName := ⟨RX3, "greatestAmount", "(III)I"⟩
abbrev cX3_isStray : ByteArray := prog_1_method_15_code
def yX3_isStray : MethodName := ⟨RX3, "isStray", "(III)Z"⟩
def RX4 : String := "TickWalksModel"
def TX4 : u_T := fun k => match k with
  | 0 => ("TickWalksModel", "x", "I", false)
  | 1 => ("TickWalksModel", "y", "I", false)
  | 2 => ("TickWalksModel", "z", "I", false)
  | 3 => ("TickWalksModel", "walked", "Z", false)
  | 4 => ("TickWalksModel", "isArc", "Z", false)
  | 5 => ("TickWalksModel", "fromX", "I", false)
  | 6 => ("TickWalksModel", "fromY", "I", false)
  | 7 => ("TickWalksModel", "fromZ", "I", false)
  | 8 => ("TickWalksModel", "byX", "I", false)
  | 9 => ("TickWalksModel", "byY", "I", false)
  | 10 => ("TickWalksModel", "byZ", "I", false)
  | 11 => ("TickWalksModel", "count", "I", false)
  | 12 => ("TickWalksModel", "most", "I", false)
  | 13 => ("TickWalksModel", "way", "[B", true)
  | _ => ("TickWalksModel", "tried", "[B", true)
def tyX4 : Nat → FieldType := fun k => match k with
  | 0 => .int
  | 1 => .int
  | 2 => .int
  | 3 => .boolean
  | 4 => .boolean
  | 5 => .int
  | 6 => .int
  | 7 => .int
  | 8 => .int
  | 9 => .int
  | 10 => .int
  | 11 => .int
  | 12 => .int
  | 13 => .array .byte
  | _ => .array .byte
abbrev wsX40 : List Cond := u_ws RX4 TX4 15
theorem nmX4 : ∀ a, a < 15 → ∀ b, b < 15 → a ≠ b → (TX4 a).2.1 ≠ (TX4 b).2.1 := by decide +kernel
theorem tyX4_ok : ∀ k, k < 15 → parseFieldDescriptor (TX4 k).2.2.1 = some (tyX4 k) := by decide +kernel
abbrev cX4_init : ByteArray := prog_6_method_1_code
def yX4_init : MethodName := ⟨RX4, "<init>", "()V"⟩
abbrev cX4_isPlace : ByteArray := prog_6_method_3_code
def yX4_isPlace : MethodName := ⟨RX4, "isPlace", "(I)Z"⟩
abbrev cX4_isCentre : ByteArray := prog_6_method_4_code
def yX4_isCentre : MethodName := ⟨RX4, "isCentre", "(I)Z"⟩
abbrev cX4_place : ByteArray := prog_6_method_5_code
def yX4_place : MethodName := ⟨RX4, "place", "(III)Z"⟩
abbrev cX4_amount : ByteArray := prog_6_method_6_code
def yX4_amount : MethodName := ⟨RX4, "amount", "(I)I"⟩
abbrev cX4_begin : ByteArray := prog_6_method_7_code
def yX4_begin : MethodName := ⟨RX4, "begin", "(ZI)V"⟩
abbrev cX4_line : ByteArray := prog_6_method_8_code
def yX4_line : MethodName := ⟨RX4, "line", "(III)I"⟩
abbrev cX4_eastOf : ByteArray := prog_6_method_9_code
def yX4_eastOf : MethodName := ⟨RX4, "eastOf", "(I)I"⟩
abbrev cX4_northOf : ByteArray := prog_6_method_10_code
def yX4_northOf : MethodName := ⟨RX4, "northOf", "(I)I"⟩
abbrev cX4_square : ByteArray := prog_6_method_11_code
def yX4_square : MethodName := ⟨RX4, "square", "(J)J"⟩
abbrev cX4_arc : ByteArray := prog_6_method_12_code
def yX4_arc : MethodName := ⟨RX4, "arc", "(IIIIZ)I"⟩
abbrev cX4_tried : ByteArray := prog_6_method_13_code
def yX4_tried : MethodName := ⟨RX4, "tried", "(JJIIJZ)I"⟩
abbrev cX4_down : ByteArray := prog_6_method_14_code
def yX4_down : MethodName := ⟨RX4, "down", "(JJ)I"⟩
abbrev cX4_partOf : ByteArray := prog_6_method_15_code
def yX4_partOf : MethodName := ⟨RX4, "partOf", "(II)I"⟩
abbrev cX4_tick : ByteArray := prog_6_method_16_code
def yX4_tick : MethodName := ⟨RX4, "tick", "(II)I"⟩
abbrev cX4_ticks : ByteArray := prog_6_method_17_code
def yX4_ticks : MethodName := ⟨RX4, "ticks", "()I"⟩
abbrev cX4_at : ByteArray := prog_6_method_18_code
def yX4_at : MethodName := ⟨RX4, "at", "(I)I"⟩
abbrev cX4_off : ByteArray := prog_6_method_19_code
def yX4_off : MethodName := ⟨RX4, "off", "()I"⟩
abbrev cX4_strays : ByteArray := prog_6_method_20_code
def yX4_strays : MethodName := ⟨RX4, "strays", "()I"⟩
def RJ9 : String := "java/lang/Math"
def TJ9 : u_T := fun k => match k with
  | _ => ("", "", "", false)
def tyJ9 : Nat → FieldType := fun k => match k with
  | _ => .int
abbrev wsJ90 : List Cond := u_ws RJ9 TJ9 0
theorem nmJ9 : ∀ a, a < 0 → ∀ b, b < 0 → a ≠ b → (TJ9 a).2.1 ≠ (TJ9 b).2.1 := by decide +kernel
theorem tyJ9_ok : ∀ k, k < 0 → parseFieldDescriptor (TJ9 k).2.2.1 = some (tyJ9 k) := by decide +kernel
abbrev cJ9_floorDiv_f86c9 : ByteArray := prog_7_method_49_code
def yJ9_floorDiv_f86c9 : MethodName := ⟨RJ9, "floorDiv", "(JJ)J"⟩
abbrev cJ9_abs_0f7a4 : ByteArray := prog_7_method_59_code
def yJ9_abs_0f7a4 : MethodName := ⟨RJ9, "abs", "(I)I"⟩
abbrev cJ9_abs_067f4 : ByteArray := prog_7_method_61_code
def yJ9_abs_067f4 : MethodName := ⟨RJ9, "abs", "(J)J"⟩
abbrev cJ9_max_7cf53 : ByteArray := prog_7_method_65_code
def yJ9_max_7cf53 : MethodName := ⟨RJ9, "max", "(II)I"⟩
abbrev cJ9_max_f86c9 : ByteArray := prog_7_method_66_code
def yJ9_max_f86c9 : MethodName := ⟨RJ9, "max", "(JJ)J"⟩
def RL : String := "TickWalksLaw"
abbrev cL_law : ByteArray := code
def yL_law : MethodName := ⟨RL, "law", "([I)Z"⟩
def wsX2_init : List Cond := .code yX2_init cX2_init 1 none :: ([.methodLink RX2 1 objectInit, .instanceMethod objectInit, .code objectInit ⟨#[0xb1]⟩ 1 none])
def wsX0_init : List Cond := .code yX0_init cX0_init 1 none :: ([.arrayClass .int, .fieldLink RX0 9 "TickWalks$Arc" "markX" "[I", .fieldLink RX0 15 "TickWalks$Arc" "markY" "[I", .fieldLink RX0 18 "TickWalks$Arc" "height" "I", .fieldLink RX0 22 "TickWalks$Arc" "centreX" "I", .fieldLink RX0 25 "TickWalks$Arc" "centreY" "I", .fieldLink RX0 28 "TickWalks$Arc" "left" "Z", .fieldLink RX0 32 "TickWalks$Arc" "square" "J", .fieldLink RX0 36 "TickWalks$Arc" "length" "I", .fieldLink RX0 39 "TickWalks$Arc" "off" "I", .fieldLink RX0 42 "TickWalks$Arc" "strays" "I", .fieldLink RX0 45 "TickWalks$Arc" "footX" "I", .fieldLink RX0 48 "TickWalks$Arc" "footY" "I", .instanceMethod yX2_init, .initialized RX2, .code yX2_init cX2_init 1 none, .methodLink RX2 1 objectInit, .instanceMethod objectInit, .code objectInit ⟨#[0xb1]⟩ 1 none] ++ wsX00)
def wsX0_squareFromCentre : List Cond := .code yX0_squareFromCentre cX0_squareFromCentre 5 (some .long) :: ([.fieldLink RX0 45 "TickWalks$Arc" "footX" "I", .fieldLink RX0 22 "TickWalks$Arc" "centreX" "I", .fieldLink RX0 48 "TickWalks$Arc" "footY" "I", .fieldLink RX0 25 "TickWalks$Arc" "centreY" "I"] ++ wsX00)
def wsX0_mark : List Cond := .code yX0_mark cX0_mark 3 none :: ([.fieldLink RX0 9 "TickWalks$Arc" "markX" "[I", .fieldLink RX0 45 "TickWalks$Arc" "footX" "I", .fieldLink RX0 15 "TickWalks$Arc" "markY" "[I", .fieldLink RX0 48 "TickWalks$Arc" "footY" "I"] ++ wsX00)
def wsX0_begin : List Cond := .code yX0_begin cX0_begin 5 none :: ([.fieldLink RX0 45 "TickWalks$Arc" "footX" "I", .fieldLink RX0 48 "TickWalks$Arc" "footY" "I", .fieldLink RX0 18 "TickWalks$Arc" "height" "I", .fieldLink RX0 22 "TickWalks$Arc" "centreX" "I", .fieldLink RX0 25 "TickWalks$Arc" "centreY" "I", .fieldLink RX0 28 "TickWalks$Arc" "left" "Z", .fieldLink RX0 32 "TickWalks$Arc" "square" "J", .fieldLink RX0 36 "TickWalks$Arc" "length" "I", .fieldLink RX0 39 "TickWalks$Arc" "off" "I", .fieldLink RX0 42 "TickWalks$Arc" "strays" "I", .methodLink RX0 51 yX0_squareFromCentre, .instanceMethod yX0_squareFromCentre, .selects RX0 yX0_squareFromCentre yX0_squareFromCentre, .initialized RX0, .code yX0_squareFromCentre cX0_squareFromCentre 5 (some .long), .methodLink RX0 55 yX0_mark, .instanceMethod yX0_mark, .selects RX0 yX0_mark yX0_mark, .code yX0_mark cX0_mark 3 none, .fieldLink RX0 9 "TickWalks$Arc" "markX" "[I", .fieldLink RX0 15 "TickWalks$Arc" "markY" "[I"] ++ wsX00)
def wsX0_step : List Cond := .code yX0_step cX0_step 17 (some .boolean) :: ([.fieldLink RX0 45 "TickWalks$Arc" "footX" "I", .fieldLink RX0 22 "TickWalks$Arc" "centreX" "I", .fieldLink RX0 48 "TickWalks$Arc" "footY" "I", .fieldLink RX0 25 "TickWalks$Arc" "centreY" "I", .fieldLink RX0 28 "TickWalks$Arc" "left" "Z", .fieldLink RX0 32 "TickWalks$Arc" "square" "J", .methodLink RX0 73 Lib.MathLoose.abs_long.x, .static Lib.MathLoose.abs_long.x, .initialized "java/lang/Math", .code Lib.MathLoose.abs_long.x Lib.MathLoose.abs_long.code 2 (some .long)] ++ wsX00)
def wsX3_greatestAmount : List Cond := .code yX3_greatestAmount cX3_greatestAmount 3 (some .int) :: ([.methodLink RX3 79 Lib.Math.abs.name, .static Lib.Math.abs.name, .initialized "java/lang/Math", .code Lib.Math.abs.name Lib.Math.abs.code 1 (some .int), .methodLink RX3 85 Lib.Math.max.name, .static Lib.Math.max.name, .code Lib.Math.max.name Lib.Math.max.code 2 (some .int)])
def wsX3_isStray : List Cond := .code yX3_isStray cX3_isStray 3 (some .boolean) :: ([.methodLink RX3 88 yX3_greatestAmount, .static yX3_greatestAmount, .initialized RX3, .code yX3_greatestAmount cX3_greatestAmount 3 (some .int), .methodLink RX3 79 Lib.Math.abs.name, .static Lib.Math.abs.name, .initialized "java/lang/Math", .code Lib.Math.abs.name Lib.Math.abs.code 1 (some .int), .methodLink RX3 85 Lib.Math.max.name, .static Lib.Math.max.name, .code Lib.Math.max.name Lib.Math.max.code 2 (some .int)])
def wsX0_measure_r1 : List Cond := [Cond.fieldLink RX0 39 "TickWalks$Arc" "off" "I", Cond.fieldLink RX0 32 "TickWalks$Arc" "square" "J", Cond.methodLink RX0 73 Lib.MathLoose.abs_long.x, Cond.static Lib.MathLoose.abs_long.x, Cond.initialized "java/lang/Math", Cond.code Lib.MathLoose.abs_long.x Lib.MathLoose.abs_long.code 2 (some .long), Cond.methodLink RX0 79 Lib.Math.max.name, Cond.static Lib.Math.max.name, Cond.code Lib.Math.max.name Lib.Math.max.code 2 (some .int), Cond.fieldLink RX0 42 "TickWalks$Arc" "strays" "I", Cond.methodLink RX0 51 yX0_squareFromCentre, Cond.instanceMethod yX0_squareFromCentre, Cond.selects RX0 yX0_squareFromCentre yX0_squareFromCentre, Cond.initialized RX0, Cond.code yX0_squareFromCentre cX0_squareFromCentre 5 (some .long), Cond.fieldLink RX0 45 "TickWalks$Arc" "footX" "I", Cond.fieldLink RX0 22 "TickWalks$Arc" "centreX" "I", Cond.fieldLink RX0 48 "TickWalks$Arc" "footY" "I", Cond.fieldLink RX0 25 "TickWalks$Arc" "centreY" "I", Cond.static yX3_isStray, Cond.initialized RX3, Cond.code yX3_isStray cX3_isStray 3 (some .boolean), Cond.methodLink RX3 88 yX3_greatestAmount, Cond.static yX3_greatestAmount]
def wsX0_measure_r2 : List Cond := [Cond.code yX3_greatestAmount cX3_greatestAmount 3 (some .int), Cond.methodLink RX3 79 Lib.Math.abs.name, Cond.static Lib.Math.abs.name, Cond.code Lib.Math.abs.name Lib.Math.abs.code 1 (some .int), Cond.methodLink RX3 85 Lib.Math.max.name]
def wsX0_measure : List Cond := .code yX0_measure cX0_measure 3 none :: ((wsX0_measure_r1 ++ wsX0_measure_r2) ++ wsX00)
def wsX0_walk_r1 : List Cond := [Cond.fieldLink RX0 32 "TickWalks$Arc" "square" "J", Cond.constantLong RX0 59 (25000000), Cond.constant RX0 61 (40000), Cond.fieldLink RX0 45 "TickWalks$Arc" "footX" "I", Cond.fieldLink RX0 48 "TickWalks$Arc" "footY" "I", Cond.fieldLink RX0 36 "TickWalks$Arc" "length" "I", Cond.fieldLink RX0 9 "TickWalks$Arc" "markX" "[I", Cond.fieldLink RX0 15 "TickWalks$Arc" "markY" "[I", Cond.methodLink RX0 62 yX0_step, Cond.instanceMethod yX0_step, Cond.selects RX0 yX0_step yX0_step, Cond.initialized RX0, Cond.code yX0_step cX0_step 17 (some .boolean), Cond.fieldLink RX0 22 "TickWalks$Arc" "centreX" "I", Cond.fieldLink RX0 25 "TickWalks$Arc" "centreY" "I", Cond.fieldLink RX0 28 "TickWalks$Arc" "left" "Z", Cond.methodLink RX0 73 Lib.MathLoose.abs_long.x, Cond.static Lib.MathLoose.abs_long.x, Cond.initialized "java/lang/Math", Cond.code Lib.MathLoose.abs_long.x Lib.MathLoose.abs_long.code 2 (some .long), Cond.methodLink RX0 55 yX0_mark, Cond.instanceMethod yX0_mark, Cond.selects RX0 yX0_mark yX0_mark, Cond.code yX0_mark cX0_mark 3 none]
def wsX0_walk_r2 : List Cond := [Cond.methodLink RX0 66 yX0_measure, Cond.instanceMethod yX0_measure, Cond.selects RX0 yX0_measure yX0_measure, Cond.code yX0_measure cX0_measure 3 none, Cond.fieldLink RX0 39 "TickWalks$Arc" "off" "I", Cond.methodLink RX0 79 Lib.Math.max.name, Cond.static Lib.Math.max.name, Cond.code Lib.Math.max.name Lib.Math.max.code 2 (some .int), Cond.fieldLink RX0 42 "TickWalks$Arc" "strays" "I", Cond.methodLink RX0 51 yX0_squareFromCentre, Cond.instanceMethod yX0_squareFromCentre, Cond.selects RX0 yX0_squareFromCentre yX0_squareFromCentre, Cond.code yX0_squareFromCentre cX0_squareFromCentre 5 (some .long), Cond.static yX3_isStray, Cond.initialized RX3, Cond.code yX3_isStray cX3_isStray 3 (some .boolean), Cond.methodLink RX3 88 yX3_greatestAmount, Cond.static yX3_greatestAmount, Cond.code yX3_greatestAmount cX3_greatestAmount 3 (some .int), Cond.methodLink RX3 79 Lib.Math.abs.name, Cond.static Lib.Math.abs.name, Cond.code Lib.Math.abs.name Lib.Math.abs.code 1 (some .int), Cond.methodLink RX3 85 Lib.Math.max.name]
def wsX0_walk : List Cond := .code yX0_walk cX0_walk 6 (some .boolean) :: ((wsX0_walk_r1 ++ wsX0_walk_r2) ++ wsX00)
def wsX0_length : List Cond := .code yX0_length cX0_length 1 (some .int) :: ([.fieldLink RX0 36 "TickWalks$Arc" "length" "I"] ++ wsX00)
def wsX0_seek : List Cond := .code yX0_seek cX0_seek 4 none :: ([.fieldLink RX0 9 "TickWalks$Arc" "markX" "[I", .fieldLink RX0 45 "TickWalks$Arc" "footX" "I", .fieldLink RX0 15 "TickWalks$Arc" "markY" "[I", .fieldLink RX0 48 "TickWalks$Arc" "footY" "I", .methodLink RX0 62 yX0_step, .instanceMethod yX0_step, .selects RX0 yX0_step yX0_step, .initialized RX0, .code yX0_step cX0_step 17 (some .boolean), .fieldLink RX0 22 "TickWalks$Arc" "centreX" "I", .fieldLink RX0 25 "TickWalks$Arc" "centreY" "I", .fieldLink RX0 28 "TickWalks$Arc" "left" "Z", .fieldLink RX0 32 "TickWalks$Arc" "square" "J", .methodLink RX0 73 Lib.MathLoose.abs_long.x, .static Lib.MathLoose.abs_long.x, .initialized "java/lang/Math", .code Lib.MathLoose.abs_long.x Lib.MathLoose.abs_long.code 2 (some .long)] ++ wsX00)
def wsX0_placeBehind : List Cond := .code yX0_placeBehind cX0_placeBehind 3 (some .int) :: ([.fieldLink RX0 18 "TickWalks$Arc" "height" "I", .fieldLink RX0 45 "TickWalks$Arc" "footX" "I", .fieldLink RX0 48 "TickWalks$Arc" "footY" "I", .methodLink RX0 70 yX0_seek, .instanceMethod yX0_seek, .selects RX0 yX0_seek yX0_seek, .initialized RX0, .code yX0_seek cX0_seek 4 none, .fieldLink RX0 9 "TickWalks$Arc" "markX" "[I", .fieldLink RX0 15 "TickWalks$Arc" "markY" "[I", .methodLink RX0 62 yX0_step, .instanceMethod yX0_step, .selects RX0 yX0_step yX0_step, .code yX0_step cX0_step 17 (some .boolean), .fieldLink RX0 22 "TickWalks$Arc" "centreX" "I", .fieldLink RX0 25 "TickWalks$Arc" "centreY" "I", .fieldLink RX0 28 "TickWalks$Arc" "left" "Z", .fieldLink RX0 32 "TickWalks$Arc" "square" "J", .methodLink RX0 73 Lib.MathLoose.abs_long.x, .static Lib.MathLoose.abs_long.x, .initialized "java/lang/Math", .code Lib.MathLoose.abs_long.x Lib.MathLoose.abs_long.code 2 (some .long)] ++ wsX00)
def wsX0_greatestOff : List Cond := .code yX0_greatestOff cX0_greatestOff 1 (some .int) :: ([.fieldLink RX0 39 "TickWalks$Arc" "off" "I"] ++ wsX00)
def wsX0_strayTicks : List Cond := .code yX0_strayTicks cX0_strayTicks 1 (some .int) :: ([.fieldLink RX0 42 "TickWalks$Arc" "strays" "I"] ++ wsX00)
def wsX1_init : List Cond := .code yX1_init cX1_init 1 none :: ([.arrayClass .int, .fieldLink RX1 9 "TickWalks$Line" "from" "[I", .fieldLink RX1 15 "TickWalks$Line" "by" "[I", .fieldLink RX1 18 "TickWalks$Line" "length" "I", .fieldLink RX1 22 "TickWalks$Line" "strays" "I", .instanceMethod yX2_init, .initialized RX2, .code yX2_init cX2_init 1 none, .methodLink RX2 1 objectInit, .instanceMethod objectInit, .code objectInit ⟨#[0xb1]⟩ 1 none] ++ wsX10)
def wsX1_walk : List Cond := .code yX1_walk cX1_walk 6 none :: ([.fieldLink RX1 9 "TickWalks$Line" "from" "[I", .fieldLink RX1 15 "TickWalks$Line" "by" "[I", .fieldLink RX1 18 "TickWalks$Line" "length" "I", .fieldLink RX1 22 "TickWalks$Line" "strays" "I", .static yX3_greatestAmount, .initialized RX3, .code yX3_greatestAmount cX3_greatestAmount 3 (some .int), .methodLink RX3 79 Lib.Math.abs.name, .static Lib.Math.abs.name, .initialized "java/lang/Math", .code Lib.Math.abs.name Lib.Math.abs.code 1 (some .int), .methodLink RX3 85 Lib.Math.max.name, .static Lib.Math.max.name, .code Lib.Math.max.name Lib.Math.max.code 2 (some .int)] ++ wsX10)
def wsX1_length : List Cond := .code yX1_length cX1_length 1 (some .int) :: ([.fieldLink RX1 18 "TickWalks$Line" "length" "I"] ++ wsX10)
def wsJ9_floorDiv_f86c9 : List Cond := .code yJ9_floorDiv_f86c9 cJ9_floorDiv_f86c9 6 (some .long) :: ([])
def wsX1_placeBehind : List Cond := .code yX1_placeBehind cX1_placeBehind 5 (some .int) :: ([.fieldLink RX1 18 "TickWalks$Line" "length" "I", .fieldLink RX1 9 "TickWalks$Line" "from" "[I", .constantLong RX1 29 (2), .fieldLink RX1 15 "TickWalks$Line" "by" "[I", .methodLink RX1 31 yJ9_floorDiv_f86c9, .static yJ9_floorDiv_f86c9, .initialized RJ9, .code yJ9_floorDiv_f86c9 cJ9_floorDiv_f86c9 6 (some .long)] ++ wsX10)
def wsX1_greatestOff : List Cond := .code yX1_greatestOff cX1_greatestOff 1 (some .int) :: ([])
def wsX1_countStrays_r1 : List Cond := [Cond.fieldLink RX1 9 "TickWalks$Line" "from" "[I", Cond.fieldLink RX1 18 "TickWalks$Line" "length" "I", Cond.methodLink RX1 41 yX1_placeBehind, Cond.instanceMethod yX1_placeBehind, Cond.selects RX1 yX1_placeBehind yX1_placeBehind, Cond.initialized RX1, Cond.code yX1_placeBehind cX1_placeBehind 5 (some .int), Cond.constantLong RX1 29 (2), Cond.fieldLink RX1 15 "TickWalks$Line" "by" "[I", Cond.methodLink RX1 31 yJ9_floorDiv_f86c9, Cond.static yJ9_floorDiv_f86c9, Cond.initialized RJ9, Cond.code yJ9_floorDiv_f86c9 cJ9_floorDiv_f86c9 6 (some .long), Cond.static yX3_isStray, Cond.initialized RX3, Cond.code yX3_isStray cX3_isStray 3 (some .boolean), Cond.methodLink RX3 88 yX3_greatestAmount, Cond.static yX3_greatestAmount, Cond.code yX3_greatestAmount cX3_greatestAmount 3 (some .int), Cond.methodLink RX3 79 Lib.Math.abs.name, Cond.static Lib.Math.abs.name, Cond.initialized "java/lang/Math", Cond.code Lib.Math.abs.name Lib.Math.abs.code 1 (some .int), Cond.methodLink RX3 85 Lib.Math.max.name]
def wsX1_countStrays_r2 : List Cond := [Cond.static Lib.Math.max.name, Cond.code Lib.Math.max.name Lib.Math.max.code 2 (some .int)]
def wsX1_countStrays : List Cond := .code yX1_countStrays cX1_countStrays 9 (some .int) :: ((wsX1_countStrays_r1 ++ wsX1_countStrays_r2) ++ wsX10)
def wsX1_strayTicks_r1 : List Cond := [Cond.fieldLink RX1 22 "TickWalks$Line" "strays" "I", Cond.methodLink RX1 37 yX1_countStrays, Cond.instanceMethod yX1_countStrays, Cond.selects RX1 yX1_countStrays yX1_countStrays, Cond.initialized RX1, Cond.code yX1_countStrays cX1_countStrays 9 (some .int), Cond.fieldLink RX1 9 "TickWalks$Line" "from" "[I", Cond.fieldLink RX1 18 "TickWalks$Line" "length" "I", Cond.methodLink RX1 41 yX1_placeBehind, Cond.instanceMethod yX1_placeBehind, Cond.selects RX1 yX1_placeBehind yX1_placeBehind, Cond.code yX1_placeBehind cX1_placeBehind 5 (some .int), Cond.constantLong RX1 29 (2), Cond.fieldLink RX1 15 "TickWalks$Line" "by" "[I", Cond.methodLink RX1 31 yJ9_floorDiv_f86c9, Cond.static yJ9_floorDiv_f86c9, Cond.initialized RJ9, Cond.code yJ9_floorDiv_f86c9 cJ9_floorDiv_f86c9 6 (some .long), Cond.static yX3_isStray, Cond.initialized RX3, Cond.code yX3_isStray cX3_isStray 3 (some .boolean), Cond.methodLink RX3 88 yX3_greatestAmount, Cond.static yX3_greatestAmount, Cond.code yX3_greatestAmount cX3_greatestAmount 3 (some .int)]
def wsX1_strayTicks_r2 : List Cond := [Cond.methodLink RX3 79 Lib.Math.abs.name, Cond.static Lib.Math.abs.name, Cond.initialized "java/lang/Math", Cond.code Lib.Math.abs.name Lib.Math.abs.code 1 (some .int), Cond.methodLink RX3 85 Lib.Math.max.name, Cond.static Lib.Math.max.name, Cond.code Lib.Math.max.name Lib.Math.max.code 2 (some .int)]
def wsX1_strayTicks : List Cond := .code yX1_strayTicks cX1_strayTicks 1 (some .int) :: ((wsX1_strayTicks_r1 ++ wsX1_strayTicks_r2) ++ wsX10)
def wsX3_init_r1 : List Cond := [Cond.methodLink RX3 3 objectInit, Cond.instanceMethod objectInit, Cond.code objectInit ⟨#[0xb1]⟩ 1 none, Cond.arrayClass .int, Cond.fieldLink RX3 9 "TickWalks" "stand" "[I", Cond.classLink RX3 13 RX1, Cond.instantiable RX1 4, Cond.initialized RX1, Cond.fieldLink RX3 16 "TickWalks" "latestLine" "LTickWalks$Line;", Cond.classLink RX3 20 RX0, Cond.instantiable RX0 12, Cond.initialized RX0, Cond.fieldLink RX3 23 "TickWalks" "latestArc" "LTickWalks$Arc;", Cond.fieldLink RX3 27 "TickWalks" "triedArc" "LTickWalks$Arc;", Cond.fieldLink RX3 30 "TickWalks" "latest" "LTickWalks$Walk;", Cond.instanceMethod yX1_init, Cond.code yX1_init cX1_init 1 none, Cond.fieldLink RX1 9 "TickWalks$Line" "from" "[I", Cond.fieldLink RX1 15 "TickWalks$Line" "by" "[I", Cond.fieldLink RX1 18 "TickWalks$Line" "length" "I", Cond.fieldLink RX1 22 "TickWalks$Line" "strays" "I", Cond.instanceMethod yX2_init, Cond.initialized RX2, Cond.code yX2_init cX2_init 1 none]
def wsX3_init_r2 : List Cond := [Cond.methodLink RX2 1 objectInit, Cond.instanceMethod yX0_init, Cond.code yX0_init cX0_init 1 none, Cond.fieldLink RX0 9 "TickWalks$Arc" "markX" "[I", Cond.fieldLink RX0 15 "TickWalks$Arc" "markY" "[I", Cond.fieldLink RX0 18 "TickWalks$Arc" "height" "I", Cond.fieldLink RX0 22 "TickWalks$Arc" "centreX" "I", Cond.fieldLink RX0 25 "TickWalks$Arc" "centreY" "I", Cond.fieldLink RX0 28 "TickWalks$Arc" "left" "Z", Cond.fieldLink RX0 32 "TickWalks$Arc" "square" "J", Cond.fieldLink RX0 36 "TickWalks$Arc" "length" "I", Cond.fieldLink RX0 39 "TickWalks$Arc" "off" "I", Cond.fieldLink RX0 42 "TickWalks$Arc" "strays" "I", Cond.fieldLink RX0 45 "TickWalks$Arc" "footX" "I", Cond.fieldLink RX0 48 "TickWalks$Arc" "footY" "I"]
def wsX3_init : List Cond := .code yX3_init cX3_init 1 none :: ((wsX3_init_r1 ++ wsX3_init_r2) ++ wsX30 ++ wsX10 ++ wsX00)
def wsX3_isWithin : List Cond := .code yX3_isWithin cX3_isWithin 2 (some .boolean) :: ([])
def wsX3_isPlace : List Cond := .code yX3_isPlace cX3_isPlace 3 (some .boolean) :: ([.methodLink RX3 51 yX3_isWithin, .static yX3_isWithin, .initialized RX3, .code yX3_isWithin cX3_isWithin 2 (some .boolean)])
def wsX3_standAt : List Cond := .code yX3_standAt cX3_standAt 4 none :: ([.fieldLink RX3 9 "TickWalks" "stand" "[I"] ++ wsX30)
def wsX3_place : List Cond := .code yX3_place cX3_place 4 (some .boolean) :: ([.fieldLink RX3 30 "TickWalks" "latest" "LTickWalks$Walk;", .methodLink RX3 34 yX3_isPlace, .static yX3_isPlace, .initialized RX3, .code yX3_isPlace cX3_isPlace 3 (some .boolean), .methodLink RX3 51 yX3_isWithin, .static yX3_isWithin, .code yX3_isWithin cX3_isWithin 2 (some .boolean), .methodLink RX3 38 yX3_standAt, .instanceMethod yX3_standAt, .selects RX3 yX3_standAt yX3_standAt, .code yX3_standAt cX3_standAt 4 none, .fieldLink RX3 9 "TickWalks" "stand" "[I"] ++ wsX30)
def wsX3_line_r1 : List Cond := [Cond.fieldLink RX3 16 "TickWalks" "latestLine" "LTickWalks$Line;", Cond.fieldLink RX3 9 "TickWalks" "stand" "[I", Cond.fieldLink RX3 30 "TickWalks" "latest" "LTickWalks$Walk;", Cond.methodLink RX3 34 yX3_isPlace, Cond.static yX3_isPlace, Cond.initialized RX3, Cond.code yX3_isPlace cX3_isPlace 3 (some .boolean), Cond.methodLink RX3 51 yX3_isWithin, Cond.static yX3_isWithin, Cond.code yX3_isWithin cX3_isWithin 2 (some .boolean), Cond.methodLink RX3 42 yX1_walk, Cond.instanceMethod yX1_walk, Cond.selects RX1 yX1_walk yX1_walk, Cond.initialized RX1, Cond.code yX1_walk cX1_walk 6 none, Cond.fieldLink RX1 9 "TickWalks$Line" "from" "[I", Cond.fieldLink RX1 15 "TickWalks$Line" "by" "[I", Cond.fieldLink RX1 18 "TickWalks$Line" "length" "I", Cond.fieldLink RX1 22 "TickWalks$Line" "strays" "I", Cond.static yX3_greatestAmount, Cond.code yX3_greatestAmount cX3_greatestAmount 3 (some .int), Cond.methodLink RX3 79 Lib.Math.abs.name, Cond.static Lib.Math.abs.name, Cond.initialized "java/lang/Math"]
def wsX3_line_r2 : List Cond := [Cond.code Lib.Math.abs.name Lib.Math.abs.code 1 (some .int), Cond.methodLink RX3 85 Lib.Math.max.name, Cond.static Lib.Math.max.name, Cond.code Lib.Math.max.name Lib.Math.max.code 2 (some .int), Cond.methodLink RX3 38 yX3_standAt, Cond.instanceMethod yX3_standAt, Cond.selects RX3 yX3_standAt yX3_standAt, Cond.code yX3_standAt cX3_standAt 4 none, Cond.methodLink RX3 46 yX1_length, Cond.instanceMethod yX1_length, Cond.selects RX1 yX1_length yX1_length, Cond.code yX1_length cX1_length 1 (some .int)]
def wsX3_line : List Cond := .code yX3_line cX3_line 4 (some .int) :: ((wsX3_line_r1 ++ wsX3_line_r2) ++ wsX30 ++ wsX10)
def wsX3_arc_r1 : List Cond := [Cond.fieldLink RX3 9 "TickWalks" "stand" "[I", Cond.constant RX3 50 (40000), Cond.fieldLink RX3 27 "TickWalks" "triedArc" "LTickWalks$Arc;", Cond.fieldLink RX3 23 "TickWalks" "latestArc" "LTickWalks$Arc;", Cond.fieldLink RX3 30 "TickWalks" "latest" "LTickWalks$Walk;", Cond.methodLink RX3 34 yX3_isPlace, Cond.static yX3_isPlace, Cond.initialized RX3, Cond.code yX3_isPlace cX3_isPlace 3 (some .boolean), Cond.methodLink RX3 51 yX3_isWithin, Cond.static yX3_isWithin, Cond.code yX3_isWithin cX3_isWithin 2 (some .boolean), Cond.methodLink RX3 55 yX0_begin, Cond.instanceMethod yX0_begin, Cond.selects RX0 yX0_begin yX0_begin, Cond.initialized RX0, Cond.code yX0_begin cX0_begin 5 none, Cond.fieldLink RX0 45 "TickWalks$Arc" "footX" "I", Cond.fieldLink RX0 48 "TickWalks$Arc" "footY" "I", Cond.fieldLink RX0 18 "TickWalks$Arc" "height" "I", Cond.fieldLink RX0 22 "TickWalks$Arc" "centreX" "I", Cond.fieldLink RX0 25 "TickWalks$Arc" "centreY" "I", Cond.fieldLink RX0 28 "TickWalks$Arc" "left" "Z", Cond.fieldLink RX0 32 "TickWalks$Arc" "square" "J"]
def wsX3_arc_r2 : List Cond := [Cond.fieldLink RX0 36 "TickWalks$Arc" "length" "I", Cond.fieldLink RX0 39 "TickWalks$Arc" "off" "I", Cond.fieldLink RX0 42 "TickWalks$Arc" "strays" "I", Cond.methodLink RX0 51 yX0_squareFromCentre, Cond.instanceMethod yX0_squareFromCentre, Cond.selects RX0 yX0_squareFromCentre yX0_squareFromCentre, Cond.code yX0_squareFromCentre cX0_squareFromCentre 5 (some .long), Cond.methodLink RX0 55 yX0_mark, Cond.instanceMethod yX0_mark, Cond.selects RX0 yX0_mark yX0_mark, Cond.code yX0_mark cX0_mark 3 none, Cond.fieldLink RX0 9 "TickWalks$Arc" "markX" "[I", Cond.fieldLink RX0 15 "TickWalks$Arc" "markY" "[I", Cond.methodLink RX3 59 yX0_walk, Cond.instanceMethod yX0_walk, Cond.selects RX0 yX0_walk yX0_walk, Cond.code yX0_walk cX0_walk 6 (some .boolean), Cond.constantLong RX0 59 (25000000), Cond.constant RX0 61 (40000), Cond.methodLink RX0 62 yX0_step, Cond.instanceMethod yX0_step, Cond.selects RX0 yX0_step yX0_step, Cond.code yX0_step cX0_step 17 (some .boolean), Cond.methodLink RX0 73 Lib.MathLoose.abs_long.x]
def wsX3_arc_r3 : List Cond := [Cond.static Lib.MathLoose.abs_long.x, Cond.initialized "java/lang/Math", Cond.code Lib.MathLoose.abs_long.x Lib.MathLoose.abs_long.code 2 (some .long), Cond.methodLink RX0 66 yX0_measure, Cond.instanceMethod yX0_measure, Cond.selects RX0 yX0_measure yX0_measure, Cond.code yX0_measure cX0_measure 3 none, Cond.methodLink RX0 79 Lib.Math.max.name, Cond.static Lib.Math.max.name, Cond.code Lib.Math.max.name Lib.Math.max.code 2 (some .int), Cond.static yX3_isStray, Cond.code yX3_isStray cX3_isStray 3 (some .boolean), Cond.methodLink RX3 88 yX3_greatestAmount, Cond.static yX3_greatestAmount, Cond.code yX3_greatestAmount cX3_greatestAmount 3 (some .int), Cond.methodLink RX3 79 Lib.Math.abs.name, Cond.static Lib.Math.abs.name, Cond.code Lib.Math.abs.name Lib.Math.abs.code 1 (some .int), Cond.methodLink RX3 85 Lib.Math.max.name, Cond.methodLink RX3 38 yX3_standAt, Cond.instanceMethod yX3_standAt, Cond.selects RX3 yX3_standAt yX3_standAt, Cond.code yX3_standAt cX3_standAt 4 none, Cond.methodLink RX3 61 yX0_length]
def wsX3_arc_r4 : List Cond := [Cond.instanceMethod yX0_length, Cond.selects RX0 yX0_length yX0_length, Cond.code yX0_length cX0_length 1 (some .int)]
def wsX3_arc : List Cond := .code yX3_arc cX3_arc 7 (some .int) :: ((wsX3_arc_r1 ++ (wsX3_arc_r2 ++ (wsX3_arc_r3 ++ wsX3_arc_r4))) ++ wsX30 ++ wsX00)
def wsX3_isAxis : List Cond := .code yX3_isAxis cX3_isAxis 1 (some .boolean) :: ([])
def wsX3_tick_r1 : List Cond := [Cond.fieldLink RX3 30 "TickWalks" "latest" "LTickWalks$Walk;", Cond.methodLink RX3 62 yX3_isAxis, Cond.static yX3_isAxis, Cond.initialized RX3, Cond.code yX3_isAxis cX3_isAxis 1 (some .boolean), Cond.methodLink RX3 66 ⟨"TickWalks$Walk", "length", "()I"⟩, Cond.sameMethod "TickWalks$Walk" "TickWalks$Walk" "length" "()I", Cond.selects RX0 ⟨"TickWalks$Walk", "length", "()I"⟩ yX0_length, Cond.instanceMethod yX0_length, Cond.initialized RX0, Cond.code yX0_length cX0_length 1 (some .int), Cond.fieldLink RX0 36 "TickWalks$Arc" "length" "I", Cond.selects RX1 ⟨"TickWalks$Walk", "length", "()I"⟩ yX1_length, Cond.instanceMethod yX1_length, Cond.initialized RX1, Cond.code yX1_length cX1_length 1 (some .int), Cond.fieldLink RX1 18 "TickWalks$Line" "length" "I", Cond.methodLink RX3 69 ⟨"TickWalks$Walk", "placeBehind", "(II)I"⟩, Cond.sameMethod "TickWalks$Walk" "TickWalks$Walk" "placeBehind" "(II)I", Cond.selects RX0 ⟨"TickWalks$Walk", "placeBehind", "(II)I"⟩ yX0_placeBehind, Cond.instanceMethod yX0_placeBehind, Cond.code yX0_placeBehind cX0_placeBehind 3 (some .int), Cond.fieldLink RX0 18 "TickWalks$Arc" "height" "I", Cond.fieldLink RX0 45 "TickWalks$Arc" "footX" "I"]
def wsX3_tick_r2 : List Cond := [Cond.fieldLink RX0 48 "TickWalks$Arc" "footY" "I", Cond.methodLink RX0 70 yX0_seek, Cond.instanceMethod yX0_seek, Cond.selects RX0 yX0_seek yX0_seek, Cond.code yX0_seek cX0_seek 4 none, Cond.fieldLink RX0 9 "TickWalks$Arc" "markX" "[I", Cond.fieldLink RX0 15 "TickWalks$Arc" "markY" "[I", Cond.methodLink RX0 62 yX0_step, Cond.instanceMethod yX0_step, Cond.selects RX0 yX0_step yX0_step, Cond.code yX0_step cX0_step 17 (some .boolean), Cond.fieldLink RX0 22 "TickWalks$Arc" "centreX" "I", Cond.fieldLink RX0 25 "TickWalks$Arc" "centreY" "I", Cond.fieldLink RX0 28 "TickWalks$Arc" "left" "Z", Cond.fieldLink RX0 32 "TickWalks$Arc" "square" "J", Cond.methodLink RX0 73 Lib.MathLoose.abs_long.x, Cond.static Lib.MathLoose.abs_long.x, Cond.initialized "java/lang/Math", Cond.code Lib.MathLoose.abs_long.x Lib.MathLoose.abs_long.code 2 (some .long), Cond.selects RX1 ⟨"TickWalks$Walk", "placeBehind", "(II)I"⟩ yX1_placeBehind, Cond.instanceMethod yX1_placeBehind, Cond.code yX1_placeBehind cX1_placeBehind 5 (some .int), Cond.fieldLink RX1 9 "TickWalks$Line" "from" "[I", Cond.constantLong RX1 29 (2)]
def wsX3_tick_r3 : List Cond := [Cond.fieldLink RX1 15 "TickWalks$Line" "by" "[I", Cond.methodLink RX1 31 yJ9_floorDiv_f86c9, Cond.static yJ9_floorDiv_f86c9, Cond.initialized RJ9, Cond.code yJ9_floorDiv_f86c9 cJ9_floorDiv_f86c9 6 (some .long)]
def wsX3_tick : List Cond := .code yX3_tick cX3_tick 3 (some .int) :: ((wsX3_tick_r1 ++ (wsX3_tick_r2 ++ wsX3_tick_r3)) ++ wsX30 ++ wsX00 ++ wsX10)
def wsX3_ticks : List Cond := .code yX3_ticks cX3_ticks 1 (some .int) :: ([.fieldLink RX3 30 "TickWalks" "latest" "LTickWalks$Walk;", .methodLink RX3 66 ⟨"TickWalks$Walk", "length", "()I"⟩, .sameMethod "TickWalks$Walk" "TickWalks$Walk" "length" "()I", .selects RX0 ⟨"TickWalks$Walk", "length", "()I"⟩ yX0_length, .instanceMethod yX0_length, .initialized RX0, .code yX0_length cX0_length 1 (some .int), .fieldLink RX0 36 "TickWalks$Arc" "length" "I", .selects RX1 ⟨"TickWalks$Walk", "length", "()I"⟩ yX1_length, .instanceMethod yX1_length, .initialized RX1, .code yX1_length cX1_length 1 (some .int), .fieldLink RX1 18 "TickWalks$Line" "length" "I"] ++ wsX30 ++ wsX00 ++ wsX10)
def wsX3_at : List Cond := .code yX3_at cX3_at 2 (some .int) :: ([.fieldLink RX3 9 "TickWalks" "stand" "[I", .methodLink RX3 62 yX3_isAxis, .static yX3_isAxis, .initialized RX3, .code yX3_isAxis cX3_isAxis 1 (some .boolean)] ++ wsX30)
def wsX3_off : List Cond := .code yX3_off cX3_off 1 (some .int) :: ([.fieldLink RX3 30 "TickWalks" "latest" "LTickWalks$Walk;", .methodLink RX3 73 ⟨"TickWalks$Walk", "greatestOff", "()I"⟩, .sameMethod "TickWalks$Walk" "TickWalks$Walk" "greatestOff" "()I", .selects RX0 ⟨"TickWalks$Walk", "greatestOff", "()I"⟩ yX0_greatestOff, .instanceMethod yX0_greatestOff, .initialized RX0, .code yX0_greatestOff cX0_greatestOff 1 (some .int), .fieldLink RX0 39 "TickWalks$Arc" "off" "I", .selects RX1 ⟨"TickWalks$Walk", "greatestOff", "()I"⟩ yX1_greatestOff, .instanceMethod yX1_greatestOff, .initialized RX1, .code yX1_greatestOff cX1_greatestOff 1 (some .int)] ++ wsX30 ++ wsX00)
def wsX3_strays_r1 : List Cond := [Cond.fieldLink RX3 30 "TickWalks" "latest" "LTickWalks$Walk;", Cond.methodLink RX3 76 ⟨"TickWalks$Walk", "strayTicks", "()I"⟩, Cond.sameMethod "TickWalks$Walk" "TickWalks$Walk" "strayTicks" "()I", Cond.selects RX0 ⟨"TickWalks$Walk", "strayTicks", "()I"⟩ yX0_strayTicks, Cond.instanceMethod yX0_strayTicks, Cond.initialized RX0, Cond.code yX0_strayTicks cX0_strayTicks 1 (some .int), Cond.fieldLink RX0 42 "TickWalks$Arc" "strays" "I", Cond.selects RX1 ⟨"TickWalks$Walk", "strayTicks", "()I"⟩ yX1_strayTicks, Cond.instanceMethod yX1_strayTicks, Cond.initialized RX1, Cond.code yX1_strayTicks cX1_strayTicks 1 (some .int), Cond.fieldLink RX1 22 "TickWalks$Line" "strays" "I", Cond.methodLink RX1 37 yX1_countStrays, Cond.instanceMethod yX1_countStrays, Cond.selects RX1 yX1_countStrays yX1_countStrays, Cond.code yX1_countStrays cX1_countStrays 9 (some .int), Cond.fieldLink RX1 9 "TickWalks$Line" "from" "[I", Cond.fieldLink RX1 18 "TickWalks$Line" "length" "I", Cond.methodLink RX1 41 yX1_placeBehind, Cond.instanceMethod yX1_placeBehind, Cond.selects RX1 yX1_placeBehind yX1_placeBehind, Cond.code yX1_placeBehind cX1_placeBehind 5 (some .int), Cond.constantLong RX1 29 (2)]
def wsX3_strays_r2 : List Cond := [Cond.fieldLink RX1 15 "TickWalks$Line" "by" "[I", Cond.methodLink RX1 31 yJ9_floorDiv_f86c9, Cond.static yJ9_floorDiv_f86c9, Cond.initialized RJ9, Cond.code yJ9_floorDiv_f86c9 cJ9_floorDiv_f86c9 6 (some .long), Cond.static yX3_isStray, Cond.initialized RX3, Cond.code yX3_isStray cX3_isStray 3 (some .boolean), Cond.methodLink RX3 88 yX3_greatestAmount, Cond.static yX3_greatestAmount, Cond.code yX3_greatestAmount cX3_greatestAmount 3 (some .int), Cond.methodLink RX3 79 Lib.Math.abs.name, Cond.static Lib.Math.abs.name, Cond.initialized "java/lang/Math", Cond.code Lib.Math.abs.name Lib.Math.abs.code 1 (some .int), Cond.methodLink RX3 85 Lib.Math.max.name, Cond.static Lib.Math.max.name, Cond.code Lib.Math.max.name Lib.Math.max.code 2 (some .int)]
def wsX3_strays : List Cond := .code yX3_strays cX3_strays 1 (some .int) :: ((wsX3_strays_r1 ++ wsX3_strays_r2) ++ wsX30 ++ wsX00 ++ wsX10)
def wsX4_init : List Cond := .code yX4_init cX4_init 1 none :: ([.methodLink RX4 1 objectInit, .instanceMethod objectInit, .code objectInit ⟨#[0xb1]⟩ 1 none, .constant RX4 9 (40000), .arrayClass .byte, .fieldLink RX4 10 "TickWalksModel" "way" "[B", .fieldLink RX4 14 "TickWalksModel" "tried" "[B"] ++ wsX40)
def wsX4_isPlace : List Cond := .code yX4_isPlace cX4_isPlace 1 (some .boolean) :: ([])
def wsX4_isCentre : List Cond := .code yX4_isCentre cX4_isCentre 1 (some .boolean) :: ([.constant RX4 17 (-40000), .constant RX4 9 (40000)])
def wsX4_place : List Cond := .code yX4_place cX4_place 4 (some .boolean) :: ([.fieldLink RX4 22 "TickWalksModel" "x" "I", .fieldLink RX4 26 "TickWalksModel" "y" "I", .fieldLink RX4 29 "TickWalksModel" "z" "I", .fieldLink RX4 32 "TickWalksModel" "walked" "Z", .fieldLink RX4 36 "TickWalksModel" "count" "I", .fieldLink RX4 39 "TickWalksModel" "most" "I", .methodLink RX4 18 yX4_isPlace, .static yX4_isPlace, .initialized RX4, .code yX4_isPlace cX4_isPlace 1 (some .boolean)] ++ wsX40)
def wsX4_amount : List Cond := .code yX4_amount cX4_amount 1 (some .int) :: ([])
def wsX4_begin : List Cond := .code yX4_begin cX4_begin 3 none :: ([.fieldLink RX4 32 "TickWalksModel" "walked" "Z", .fieldLink RX4 42 "TickWalksModel" "isArc" "Z", .fieldLink RX4 22 "TickWalksModel" "x" "I", .fieldLink RX4 45 "TickWalksModel" "fromX" "I", .fieldLink RX4 26 "TickWalksModel" "y" "I", .fieldLink RX4 48 "TickWalksModel" "fromY" "I", .fieldLink RX4 29 "TickWalksModel" "z" "I", .fieldLink RX4 51 "TickWalksModel" "fromZ" "I", .fieldLink RX4 36 "TickWalksModel" "count" "I", .fieldLink RX4 39 "TickWalksModel" "most" "I"] ++ wsX40)
def wsX4_line_r1 : List Cond := [Cond.fieldLink RX4 22 "TickWalksModel" "x" "I", Cond.fieldLink RX4 54 "TickWalksModel" "byX" "I", Cond.fieldLink RX4 26 "TickWalksModel" "y" "I", Cond.fieldLink RX4 57 "TickWalksModel" "byY" "I", Cond.fieldLink RX4 29 "TickWalksModel" "z" "I", Cond.fieldLink RX4 60 "TickWalksModel" "byZ" "I", Cond.methodLink RX4 67 Lib.Math.max.name, Cond.static Lib.Math.max.name, Cond.initialized "java/lang/Math", Cond.code Lib.Math.max.name Lib.Math.max.code 2 (some .int), Cond.fieldLink RX4 36 "TickWalksModel" "count" "I", Cond.methodLink RX4 18 yX4_isPlace, Cond.static yX4_isPlace, Cond.initialized RX4, Cond.code yX4_isPlace cX4_isPlace 1 (some .boolean), Cond.methodLink RX4 63 yX4_amount, Cond.static yX4_amount, Cond.code yX4_amount cX4_amount 1 (some .int), Cond.methodLink RX4 73 yX4_begin, Cond.instanceMethod yX4_begin, Cond.selects RX4 yX4_begin yX4_begin, Cond.code yX4_begin cX4_begin 3 none, Cond.fieldLink RX4 32 "TickWalksModel" "walked" "Z", Cond.fieldLink RX4 42 "TickWalksModel" "isArc" "Z"]
def wsX4_line_r2 : List Cond := [Cond.fieldLink RX4 45 "TickWalksModel" "fromX" "I", Cond.fieldLink RX4 48 "TickWalksModel" "fromY" "I", Cond.fieldLink RX4 51 "TickWalksModel" "fromZ" "I", Cond.fieldLink RX4 39 "TickWalksModel" "most" "I"]
def wsX4_line : List Cond := .code yX4_line cX4_line 4 (some .int) :: ((wsX4_line_r1 ++ wsX4_line_r2) ++ wsX40)
def wsX4_eastOf : List Cond := .code yX4_eastOf cX4_eastOf 1 (some .int) :: ([])
def wsX4_northOf : List Cond := .code yX4_northOf cX4_northOf 1 (some .int) :: ([])
def wsX4_square : List Cond := .code yX4_square cX4_square 2 (some .long) :: ([])
def wsX4_tried : List Cond := .code yX4_tried cX4_tried 27 (some .int) :: ([.fieldLink RX4 22 "TickWalksModel" "x" "I", .fieldLink RX4 26 "TickWalksModel" "y" "I", .constant RX4 9 (40000), .fieldLink RX4 14 "TickWalksModel" "tried" "[B", .methodLink RX4 89 yX4_eastOf, .static yX4_eastOf, .initialized RX4, .code yX4_eastOf cX4_eastOf 1 (some .int), .methodLink RX4 92 yX4_northOf, .static yX4_northOf, .code yX4_northOf cX4_northOf 1 (some .int)] ++ wsX40)
def wsX4_arc_r1 : List Cond := [Cond.fieldLink RX4 22 "TickWalksModel" "x" "I", Cond.fieldLink RX4 26 "TickWalksModel" "y" "I", Cond.constantLong RX4 84 (25000000), Cond.fieldLink RX4 10 "TickWalksModel" "way" "[B", Cond.fieldLink RX4 14 "TickWalksModel" "tried" "[B", Cond.methodLink RX4 95 Lib.MathLoose.max_long.x, Cond.static Lib.MathLoose.max_long.x, Cond.initialized "java/lang/Math", Cond.code Lib.MathLoose.max_long.x Lib.MathLoose.max_long.code 4 (some .long), Cond.fieldLink RX4 39 "TickWalksModel" "most" "I", Cond.methodLink RX4 18 yX4_isPlace, Cond.static yX4_isPlace, Cond.initialized RX4, Cond.code yX4_isPlace cX4_isPlace 1 (some .boolean), Cond.methodLink RX4 77 yX4_isCentre, Cond.static yX4_isCentre, Cond.code yX4_isCentre cX4_isCentre 1 (some .boolean), Cond.constant RX4 17 (-40000), Cond.constant RX4 9 (40000), Cond.methodLink RX4 80 yX4_square, Cond.static yX4_square, Cond.code yX4_square cX4_square 2 (some .long), Cond.methodLink RX4 86 yX4_tried, Cond.instanceMethod yX4_tried]
def wsX4_arc_r2 : List Cond := [Cond.selects RX4 yX4_tried yX4_tried, Cond.code yX4_tried cX4_tried 27 (some .int), Cond.methodLink RX4 89 yX4_eastOf, Cond.static yX4_eastOf, Cond.code yX4_eastOf cX4_eastOf 1 (some .int), Cond.methodLink RX4 92 yX4_northOf, Cond.static yX4_northOf, Cond.code yX4_northOf cX4_northOf 1 (some .int), Cond.methodLink RX4 73 yX4_begin, Cond.instanceMethod yX4_begin, Cond.selects RX4 yX4_begin yX4_begin, Cond.code yX4_begin cX4_begin 3 none, Cond.fieldLink RX4 32 "TickWalksModel" "walked" "Z", Cond.fieldLink RX4 42 "TickWalksModel" "isArc" "Z", Cond.fieldLink RX4 45 "TickWalksModel" "fromX" "I", Cond.fieldLink RX4 48 "TickWalksModel" "fromY" "I", Cond.fieldLink RX4 29 "TickWalksModel" "z" "I", Cond.fieldLink RX4 51 "TickWalksModel" "fromZ" "I", Cond.fieldLink RX4 36 "TickWalksModel" "count" "I"]
def wsX4_arc : List Cond := .code yX4_arc cX4_arc 14 (some .int) :: ((wsX4_arc_r1 ++ wsX4_arc_r2) ++ wsX40)
def wsX4_down : List Cond := .code yX4_down cX4_down 4 (some .int) :: ([])
def wsX4_partOf : List Cond := .code yX4_partOf cX4_partOf 3 (some .int) :: ([.fieldLink RX4 36 "TickWalksModel" "count" "I", .constantLong RX4 98 (2), .methodLink RX4 100 yX4_down, .static yX4_down, .initialized RX4, .code yX4_down cX4_down 4 (some .int)] ++ wsX40)
def wsX4_tick_r1 : List Cond := [Cond.fieldLink RX4 32 "TickWalksModel" "walked" "Z", Cond.fieldLink RX4 36 "TickWalksModel" "count" "I", Cond.fieldLink RX4 42 "TickWalksModel" "isArc" "Z", Cond.fieldLink RX4 45 "TickWalksModel" "fromX" "I", Cond.fieldLink RX4 54 "TickWalksModel" "byX" "I", Cond.fieldLink RX4 48 "TickWalksModel" "fromY" "I", Cond.fieldLink RX4 57 "TickWalksModel" "byY" "I", Cond.fieldLink RX4 51 "TickWalksModel" "fromZ" "I", Cond.fieldLink RX4 60 "TickWalksModel" "byZ" "I", Cond.fieldLink RX4 10 "TickWalksModel" "way" "[B", Cond.methodLink RX4 104 yX4_partOf, Cond.instanceMethod yX4_partOf, Cond.selects RX4 yX4_partOf yX4_partOf, Cond.initialized RX4, Cond.code yX4_partOf cX4_partOf 3 (some .int), Cond.constantLong RX4 98 (2), Cond.methodLink RX4 100 yX4_down, Cond.static yX4_down, Cond.code yX4_down cX4_down 4 (some .int), Cond.methodLink RX4 89 yX4_eastOf, Cond.static yX4_eastOf, Cond.code yX4_eastOf cX4_eastOf 1 (some .int), Cond.methodLink RX4 92 yX4_northOf, Cond.static yX4_northOf]
def wsX4_tick_r2 : List Cond := [Cond.code yX4_northOf cX4_northOf 1 (some .int)]
def wsX4_tick : List Cond := .code yX4_tick cX4_tick 5 (some .int) :: ((wsX4_tick_r1 ++ wsX4_tick_r2) ++ wsX40)
def wsX4_ticks : List Cond := .code yX4_ticks cX4_ticks 1 (some .int) :: ([.fieldLink RX4 36 "TickWalksModel" "count" "I"] ++ wsX40)
def wsX4_at : List Cond := .code yX4_at cX4_at 2 (some .int) :: ([.fieldLink RX4 22 "TickWalksModel" "x" "I", .fieldLink RX4 26 "TickWalksModel" "y" "I", .fieldLink RX4 29 "TickWalksModel" "z" "I"] ++ wsX40)
def wsX4_off : List Cond := .code yX4_off cX4_off 1 (some .int) :: ([.fieldLink RX4 39 "TickWalksModel" "most" "I"] ++ wsX40)
def wsX4_strays : List Cond := .code yX4_strays cX4_strays 6 (some .int) :: ([.fieldLink RX4 36 "TickWalksModel" "count" "I", .fieldLink RX4 42 "TickWalksModel" "isArc" "Z", .fieldLink RX4 54 "TickWalksModel" "byX" "I", .fieldLink RX4 57 "TickWalksModel" "byY" "I", .fieldLink RX4 60 "TickWalksModel" "byZ" "I", .methodLink RX4 104 yX4_partOf, .instanceMethod yX4_partOf, .selects RX4 yX4_partOf yX4_partOf, .initialized RX4, .code yX4_partOf cX4_partOf 3 (some .int), .constantLong RX4 98 (2), .methodLink RX4 100 yX4_down, .static yX4_down, .code yX4_down cX4_down 4 (some .int), .methodLink RX4 63 yX4_amount, .static yX4_amount, .code yX4_amount cX4_amount 1 (some .int)] ++ wsX40)
def wsJ9_abs_0f7a4 : List Cond := .code yJ9_abs_0f7a4 cJ9_abs_0f7a4 1 (some .int) :: ([])
def wsJ9_abs_067f4 : List Cond := .code yJ9_abs_067f4 cJ9_abs_067f4 2 (some .long) :: ([])
def wsJ9_max_7cf53 : List Cond := .code yJ9_max_7cf53 cJ9_max_7cf53 2 (some .int) :: ([])
def wsJ9_max_f86c9 : List Cond := .code yJ9_max_f86c9 cJ9_max_f86c9 4 (some .long) :: ([])
def wsL_law_r1 : List Cond := [Cond.classLink RL 7 RX3, Cond.instantiable RX3 5, Cond.initialized RX3, Cond.classLink RL 10 RX4, Cond.instantiable RX4 15, Cond.initialized RX4, Cond.methodLink RL 9 yX3_init, Cond.instanceMethod yX3_init, Cond.code yX3_init cX3_init 1 none, Cond.methodLink RX3 3 objectInit, Cond.instanceMethod objectInit, Cond.code objectInit ⟨#[0xb1]⟩ 1 none, Cond.arrayClass .int, Cond.fieldLink RX3 9 "TickWalks" "stand" "[I", Cond.classLink RX3 13 RX1, Cond.instantiable RX1 4, Cond.initialized RX1, Cond.fieldLink RX3 16 "TickWalks" "latestLine" "LTickWalks$Line;", Cond.classLink RX3 20 RX0, Cond.instantiable RX0 12, Cond.initialized RX0, Cond.fieldLink RX3 23 "TickWalks" "latestArc" "LTickWalks$Arc;", Cond.fieldLink RX3 27 "TickWalks" "triedArc" "LTickWalks$Arc;", Cond.fieldLink RX3 30 "TickWalks" "latest" "LTickWalks$Walk;"]
def wsL_law_r2 : List Cond := [Cond.instanceMethod yX1_init, Cond.code yX1_init cX1_init 1 none, Cond.fieldLink RX1 9 "TickWalks$Line" "from" "[I", Cond.fieldLink RX1 15 "TickWalks$Line" "by" "[I", Cond.fieldLink RX1 18 "TickWalks$Line" "length" "I", Cond.fieldLink RX1 22 "TickWalks$Line" "strays" "I", Cond.instanceMethod yX2_init, Cond.initialized RX2, Cond.code yX2_init cX2_init 1 none, Cond.methodLink RX2 1 objectInit, Cond.instanceMethod yX0_init, Cond.code yX0_init cX0_init 1 none, Cond.fieldLink RX0 9 "TickWalks$Arc" "markX" "[I", Cond.fieldLink RX0 15 "TickWalks$Arc" "markY" "[I", Cond.fieldLink RX0 18 "TickWalks$Arc" "height" "I", Cond.fieldLink RX0 22 "TickWalks$Arc" "centreX" "I", Cond.fieldLink RX0 25 "TickWalks$Arc" "centreY" "I", Cond.fieldLink RX0 28 "TickWalks$Arc" "left" "Z", Cond.fieldLink RX0 32 "TickWalks$Arc" "square" "J", Cond.fieldLink RX0 36 "TickWalks$Arc" "length" "I", Cond.fieldLink RX0 39 "TickWalks$Arc" "off" "I", Cond.fieldLink RX0 42 "TickWalks$Arc" "strays" "I", Cond.fieldLink RX0 45 "TickWalks$Arc" "footX" "I", Cond.fieldLink RX0 48 "TickWalks$Arc" "footY" "I"]
def wsL_law_r3 : List Cond := [Cond.methodLink RL 12 yX4_init, Cond.instanceMethod yX4_init, Cond.code yX4_init cX4_init 1 none, Cond.methodLink RX4 1 objectInit, Cond.constant RX4 9 (40000), Cond.arrayClass .byte, Cond.fieldLink RX4 10 "TickWalksModel" "way" "[B", Cond.fieldLink RX4 14 "TickWalksModel" "tried" "[B", Cond.methodLink RL 13 yX3_place, Cond.instanceMethod yX3_place, Cond.selects RX3 yX3_place yX3_place, Cond.code yX3_place cX3_place 4 (some .boolean), Cond.methodLink RX3 34 yX3_isPlace, Cond.static yX3_isPlace, Cond.code yX3_isPlace cX3_isPlace 3 (some .boolean), Cond.methodLink RX3 51 yX3_isWithin, Cond.static yX3_isWithin, Cond.code yX3_isWithin cX3_isWithin 2 (some .boolean), Cond.methodLink RX3 38 yX3_standAt, Cond.instanceMethod yX3_standAt, Cond.selects RX3 yX3_standAt yX3_standAt, Cond.code yX3_standAt cX3_standAt 4 none, Cond.methodLink RL 17 yX4_place, Cond.instanceMethod yX4_place]
def wsL_law_r4 : List Cond := [Cond.selects RX4 yX4_place yX4_place, Cond.code yX4_place cX4_place 4 (some .boolean), Cond.fieldLink RX4 22 "TickWalksModel" "x" "I", Cond.fieldLink RX4 26 "TickWalksModel" "y" "I", Cond.fieldLink RX4 29 "TickWalksModel" "z" "I", Cond.fieldLink RX4 32 "TickWalksModel" "walked" "Z", Cond.fieldLink RX4 36 "TickWalksModel" "count" "I", Cond.fieldLink RX4 39 "TickWalksModel" "most" "I", Cond.methodLink RX4 18 yX4_isPlace, Cond.static yX4_isPlace, Cond.code yX4_isPlace cX4_isPlace 1 (some .boolean), Cond.methodLink RL 18 yX3_line, Cond.instanceMethod yX3_line, Cond.selects RX3 yX3_line yX3_line, Cond.code yX3_line cX3_line 4 (some .int), Cond.methodLink RX3 42 yX1_walk, Cond.instanceMethod yX1_walk, Cond.selects RX1 yX1_walk yX1_walk, Cond.code yX1_walk cX1_walk 6 none, Cond.static yX3_greatestAmount, Cond.code yX3_greatestAmount cX3_greatestAmount 3 (some .int), Cond.methodLink RX3 79 Lib.Math.abs.name, Cond.static Lib.Math.abs.name, Cond.initialized "java/lang/Math"]
def wsL_law_r5 : List Cond := [Cond.code Lib.Math.abs.name Lib.Math.abs.code 1 (some .int), Cond.methodLink RX3 85 Lib.Math.max.name, Cond.static Lib.Math.max.name, Cond.code Lib.Math.max.name Lib.Math.max.code 2 (some .int), Cond.methodLink RX3 46 yX1_length, Cond.instanceMethod yX1_length, Cond.selects RX1 yX1_length yX1_length, Cond.code yX1_length cX1_length 1 (some .int), Cond.methodLink RL 22 yX4_line, Cond.instanceMethod yX4_line, Cond.selects RX4 yX4_line yX4_line, Cond.code yX4_line cX4_line 4 (some .int), Cond.fieldLink RX4 54 "TickWalksModel" "byX" "I", Cond.fieldLink RX4 57 "TickWalksModel" "byY" "I", Cond.fieldLink RX4 60 "TickWalksModel" "byZ" "I", Cond.methodLink RX4 67 Lib.Math.max.name, Cond.methodLink RX4 63 yX4_amount, Cond.static yX4_amount, Cond.code yX4_amount cX4_amount 1 (some .int), Cond.methodLink RX4 73 yX4_begin, Cond.instanceMethod yX4_begin, Cond.selects RX4 yX4_begin yX4_begin, Cond.code yX4_begin cX4_begin 3 none, Cond.fieldLink RX4 42 "TickWalksModel" "isArc" "Z"]
def wsL_law_r6 : List Cond := [Cond.fieldLink RX4 45 "TickWalksModel" "fromX" "I", Cond.fieldLink RX4 48 "TickWalksModel" "fromY" "I", Cond.fieldLink RX4 51 "TickWalksModel" "fromZ" "I", Cond.methodLink RL 23 yX3_arc, Cond.instanceMethod yX3_arc, Cond.selects RX3 yX3_arc yX3_arc, Cond.code yX3_arc cX3_arc 7 (some .int), Cond.constant RX3 50 (40000), Cond.methodLink RX3 55 yX0_begin, Cond.instanceMethod yX0_begin, Cond.selects RX0 yX0_begin yX0_begin, Cond.code yX0_begin cX0_begin 5 none, Cond.methodLink RX0 51 yX0_squareFromCentre, Cond.instanceMethod yX0_squareFromCentre, Cond.selects RX0 yX0_squareFromCentre yX0_squareFromCentre, Cond.code yX0_squareFromCentre cX0_squareFromCentre 5 (some .long), Cond.methodLink RX0 55 yX0_mark, Cond.instanceMethod yX0_mark, Cond.selects RX0 yX0_mark yX0_mark, Cond.code yX0_mark cX0_mark 3 none, Cond.methodLink RX3 59 yX0_walk, Cond.instanceMethod yX0_walk, Cond.selects RX0 yX0_walk yX0_walk, Cond.code yX0_walk cX0_walk 6 (some .boolean)]
def wsL_law_r7 : List Cond := [Cond.constantLong RX0 59 (25000000), Cond.constant RX0 61 (40000), Cond.methodLink RX0 62 yX0_step, Cond.instanceMethod yX0_step, Cond.selects RX0 yX0_step yX0_step, Cond.code yX0_step cX0_step 17 (some .boolean), Cond.methodLink RX0 73 Lib.MathLoose.abs_long.x, Cond.static Lib.MathLoose.abs_long.x, Cond.code Lib.MathLoose.abs_long.x Lib.MathLoose.abs_long.code 2 (some .long), Cond.methodLink RX0 66 yX0_measure, Cond.instanceMethod yX0_measure, Cond.selects RX0 yX0_measure yX0_measure, Cond.code yX0_measure cX0_measure 3 none, Cond.methodLink RX0 79 Lib.Math.max.name, Cond.static yX3_isStray, Cond.code yX3_isStray cX3_isStray 3 (some .boolean), Cond.methodLink RX3 88 yX3_greatestAmount, Cond.methodLink RX3 61 yX0_length, Cond.instanceMethod yX0_length, Cond.selects RX0 yX0_length yX0_length, Cond.code yX0_length cX0_length 1 (some .int), Cond.methodLink RL 27 yX4_arc, Cond.instanceMethod yX4_arc, Cond.selects RX4 yX4_arc yX4_arc]
def wsL_law_r8 : List Cond := [Cond.code yX4_arc cX4_arc 14 (some .int), Cond.constantLong RX4 84 (25000000), Cond.methodLink RX4 95 Lib.MathLoose.max_long.x, Cond.static Lib.MathLoose.max_long.x, Cond.code Lib.MathLoose.max_long.x Lib.MathLoose.max_long.code 4 (some .long), Cond.methodLink RX4 77 yX4_isCentre, Cond.static yX4_isCentre, Cond.code yX4_isCentre cX4_isCentre 1 (some .boolean), Cond.constant RX4 17 (-40000), Cond.methodLink RX4 80 yX4_square, Cond.static yX4_square, Cond.code yX4_square cX4_square 2 (some .long), Cond.methodLink RX4 86 yX4_tried, Cond.instanceMethod yX4_tried, Cond.selects RX4 yX4_tried yX4_tried, Cond.code yX4_tried cX4_tried 27 (some .int), Cond.methodLink RX4 89 yX4_eastOf, Cond.static yX4_eastOf, Cond.code yX4_eastOf cX4_eastOf 1 (some .int), Cond.methodLink RX4 92 yX4_northOf, Cond.static yX4_northOf, Cond.code yX4_northOf cX4_northOf 1 (some .int), Cond.methodLink RL 28 yX3_tick, Cond.instanceMethod yX3_tick]
def wsL_law_r9 : List Cond := [Cond.selects RX3 yX3_tick yX3_tick, Cond.code yX3_tick cX3_tick 3 (some .int), Cond.methodLink RX3 62 yX3_isAxis, Cond.static yX3_isAxis, Cond.code yX3_isAxis cX3_isAxis 1 (some .boolean), Cond.methodLink RX3 66 ⟨"TickWalks$Walk", "length", "()I"⟩, Cond.sameMethod "TickWalks$Walk" "TickWalks$Walk" "length" "()I", Cond.selects RX0 ⟨"TickWalks$Walk", "length", "()I"⟩ yX0_length, Cond.selects RX1 ⟨"TickWalks$Walk", "length", "()I"⟩ yX1_length, Cond.methodLink RX3 69 ⟨"TickWalks$Walk", "placeBehind", "(II)I"⟩, Cond.sameMethod "TickWalks$Walk" "TickWalks$Walk" "placeBehind" "(II)I", Cond.selects RX0 ⟨"TickWalks$Walk", "placeBehind", "(II)I"⟩ yX0_placeBehind, Cond.instanceMethod yX0_placeBehind, Cond.code yX0_placeBehind cX0_placeBehind 3 (some .int), Cond.methodLink RX0 70 yX0_seek, Cond.instanceMethod yX0_seek, Cond.selects RX0 yX0_seek yX0_seek, Cond.code yX0_seek cX0_seek 4 none, Cond.selects RX1 ⟨"TickWalks$Walk", "placeBehind", "(II)I"⟩ yX1_placeBehind, Cond.instanceMethod yX1_placeBehind, Cond.code yX1_placeBehind cX1_placeBehind 5 (some .int), Cond.constantLong RX1 29 (2), Cond.methodLink RX1 31 yJ9_floorDiv_f86c9, Cond.static yJ9_floorDiv_f86c9]
def wsL_law_r10 : List Cond := [Cond.initialized RJ9, Cond.code yJ9_floorDiv_f86c9 cJ9_floorDiv_f86c9 6 (some .long), Cond.methodLink RL 32 yX4_tick, Cond.instanceMethod yX4_tick, Cond.selects RX4 yX4_tick yX4_tick, Cond.code yX4_tick cX4_tick 5 (some .int), Cond.methodLink RX4 104 yX4_partOf, Cond.instanceMethod yX4_partOf, Cond.selects RX4 yX4_partOf yX4_partOf, Cond.code yX4_partOf cX4_partOf 3 (some .int), Cond.constantLong RX4 98 (2), Cond.methodLink RX4 100 yX4_down, Cond.static yX4_down, Cond.code yX4_down cX4_down 4 (some .int), Cond.methodLink RL 33 yX3_ticks, Cond.instanceMethod yX3_ticks, Cond.selects RX3 yX3_ticks yX3_ticks, Cond.code yX3_ticks cX3_ticks 1 (some .int), Cond.methodLink RL 37 yX4_ticks, Cond.instanceMethod yX4_ticks, Cond.selects RX4 yX4_ticks yX4_ticks, Cond.code yX4_ticks cX4_ticks 1 (some .int), Cond.methodLink RL 38 yX3_at, Cond.instanceMethod yX3_at]
def wsL_law_r11 : List Cond := [Cond.selects RX3 yX3_at yX3_at, Cond.code yX3_at cX3_at 2 (some .int), Cond.methodLink RL 42 yX4_at, Cond.instanceMethod yX4_at, Cond.selects RX4 yX4_at yX4_at, Cond.code yX4_at cX4_at 2 (some .int), Cond.methodLink RL 43 yX3_off, Cond.instanceMethod yX3_off, Cond.selects RX3 yX3_off yX3_off, Cond.code yX3_off cX3_off 1 (some .int), Cond.methodLink RX3 73 ⟨"TickWalks$Walk", "greatestOff", "()I"⟩, Cond.sameMethod "TickWalks$Walk" "TickWalks$Walk" "greatestOff" "()I", Cond.selects RX0 ⟨"TickWalks$Walk", "greatestOff", "()I"⟩ yX0_greatestOff, Cond.instanceMethod yX0_greatestOff, Cond.code yX0_greatestOff cX0_greatestOff 1 (some .int), Cond.selects RX1 ⟨"TickWalks$Walk", "greatestOff", "()I"⟩ yX1_greatestOff, Cond.instanceMethod yX1_greatestOff, Cond.code yX1_greatestOff cX1_greatestOff 1 (some .int), Cond.methodLink RL 46 yX4_off, Cond.instanceMethod yX4_off, Cond.selects RX4 yX4_off yX4_off, Cond.code yX4_off cX4_off 1 (some .int), Cond.methodLink RL 47 yX3_strays, Cond.instanceMethod yX3_strays]
def wsL_law_r12 : List Cond := [Cond.selects RX3 yX3_strays yX3_strays, Cond.code yX3_strays cX3_strays 1 (some .int), Cond.methodLink RX3 76 ⟨"TickWalks$Walk", "strayTicks", "()I"⟩, Cond.sameMethod "TickWalks$Walk" "TickWalks$Walk" "strayTicks" "()I", Cond.selects RX0 ⟨"TickWalks$Walk", "strayTicks", "()I"⟩ yX0_strayTicks, Cond.instanceMethod yX0_strayTicks, Cond.code yX0_strayTicks cX0_strayTicks 1 (some .int), Cond.selects RX1 ⟨"TickWalks$Walk", "strayTicks", "()I"⟩ yX1_strayTicks, Cond.instanceMethod yX1_strayTicks, Cond.code yX1_strayTicks cX1_strayTicks 1 (some .int), Cond.methodLink RX1 37 yX1_countStrays, Cond.instanceMethod yX1_countStrays, Cond.selects RX1 yX1_countStrays yX1_countStrays, Cond.code yX1_countStrays cX1_countStrays 9 (some .int), Cond.methodLink RX1 41 yX1_placeBehind, Cond.selects RX1 yX1_placeBehind yX1_placeBehind, Cond.methodLink RL 50 yX4_strays, Cond.instanceMethod yX4_strays, Cond.selects RX4 yX4_strays yX4_strays, Cond.code yX4_strays cX4_strays 6 (some .int)]
def wsL_law : List Cond := (wsL_law_r1 ++ (wsL_law_r2 ++ (wsL_law_r3 ++ (wsL_law_r4 ++ (wsL_law_r5 ++ (wsL_law_r6 ++ (wsL_law_r7 ++ (wsL_law_r8 ++ (wsL_law_r9 ++ (wsL_law_r10 ++ (wsL_law_r11 ++ wsL_law_r12))))))))))) ++ wsX30 ++ wsX40 ++ wsX10 ++ wsX00 ++ ([] : List Cond)
set_option maxRecDepth 20000 in
theorem wsL_law_in : ∀ w ∈ wsL_law, w ∈ lw_tbl := fun w h => (goodIn_p wsL_law [21, 24, 29, 32, 52, 262, 110, 113, 116, 120, 315, 318, 124, 128, 131, 134, 137, 141, 322, 325, 330, 145, 150, 154, 158, 162, 168, 175, 179, 183, 188, 334, 355, 337, 341, 346, 349, 352, 192, 195, 206, 210, 213, 217, 359, 363, 367, 221, 371, 225, 375, 229, 235, 238, 379, 242, 248, 251, 255, 383] (by decide +kernel) (by decide +kernel) w h).1
theorem inlX0 : ∀ w ∈ wsX00, w ∈ wsL_law := fun _ h => List.mem_append_left _ (List.mem_append_right _ h)
theorem inX0 : ∀ w ∈ wsX00, w ∈ lw_tbl := fun w h => wsL_law_in w (inlX0 w h)
theorem inlX1 : ∀ w ∈ wsX10, w ∈ wsL_law := fun _ h => List.mem_append_left _ (List.mem_append_left _ (List.mem_append_right _ h))
theorem inX1 : ∀ w ∈ wsX10, w ∈ lw_tbl := fun w h => wsL_law_in w (inlX1 w h)
theorem inX2 : ∀ w ∈ wsX20, w ∈ lw_tbl := by decide +kernel
theorem inlX3 : ∀ w ∈ wsX30, w ∈ wsL_law := fun _ h => List.mem_append_left _ (List.mem_append_left _ (List.mem_append_left _ (List.mem_append_left _ (List.mem_append_right _ h))))
theorem inX3 : ∀ w ∈ wsX30, w ∈ lw_tbl := fun w h => wsL_law_in w (inlX3 w h)
theorem inlX4 : ∀ w ∈ wsX40, w ∈ wsL_law := fun _ h => List.mem_append_left _ (List.mem_append_left _ (List.mem_append_left _ (List.mem_append_right _ h)))
theorem inX4 : ∀ w ∈ wsX40, w ∈ lw_tbl := fun w h => wsL_law_in w (inlX4 w h)
theorem inJ9 : ∀ w ∈ wsJ90, w ∈ lw_tbl := by decide +kernel
set_option maxRecDepth 20000 in
theorem ggX0_init_X2_init : GoodIn wsX0_init wsX2_init := goodIn_r _ [16, 17, 18, 19] (by decide +kernel) (by decide +kernel)
set_option maxRecDepth 20000 in
theorem gX0_init_X2_init_n3 : GoodIn wsX0_init (wsX2_init) := ggX0_init_X2_init
